/-! the class is made; its tape; mean heat; checksum -/

set_option maxHeartbeats 4000000 in
set_option maxRecDepth 100000 in
theorem kX12_init (l : Launch) (E : q_E) (f : q_H) (n : Nat) (a : Nat) (h0 : f a = some (rX12 none none none none none none 0)) (hn : n = a + 1) : Met l yX12_init wsX12_init ({ frames := 3, cells := 54, slots := 3300, locals := 61 }) (q_P E [.ref a] f n) (q_Qv E (fun f1 n1 => (∀ q, q < a → f1 q = f q) ∧ f1 (a) = some (rX12 (some (a + 1)) (some (a + 3)) (some (a + 13)) (some (a + 33)) (some (a + 34)) (some (a + 54)) (-1)) ∧ f1 (a + 1) = some (rX9 (some (a + 2)) 0) ∧ f1 (a + 2) = some (aB E 1600 (fun _ => 0)) ∧ f1 (a + 3) = some (cPar (a + 3) (a + 8) 0 0) ∧ f1 (a + 4) = some (cTok E (a + 4) 0 0 39) ∧ f1 (a + 5) = some (aQ E 5 401 (fun _ => none)) ∧ f1 (a + 6) = some (aI E 401 (fun _ => 0)) ∧ f1 (a + 7) = some (aJ E 401 (fun _ => 0)) ∧ f1 (a + 20) = some (cBook (a + 20) 0 0 0) ∧ f1 (a + 24) = some (aQ E 3 6 (fun _ => none)) ∧ f1 (a + 33) = some (rX3 (some (a + 13)) 0 (-1)) ∧ f1 (a + 54) = some (rX3 (some (a + 34)) 0 (-1)) ∧ KIT E f1 (a + 13) (a + 20) (fun _ => 0) z_ini ∧ KIT E f1 (a + 34) (a + 41) (fun _ => 0) z_ini ∧ a + 55 = n1)) 54 3300 (q_ge E) := by
  refine Met.ofW (cc := cX12_init) (maxL := 1) (ret := none) (by decide) rfl ?_
  intro p e s m args below meth c s₁ B hml hv
  obtain ⟨rfl, hA, hW⟩ := hv
  have hx := B.exec
  have hb := B.bytes
  have hr := B.returns
  have hts := atoms_spec (ws := wsX12_init) B.pre
  have hown : s.vm.findClass RX12 = some m.cls := findClass_of_methodNamed B.named
  have hlocks := B.notSynchronized
  have hin : meth.name = "<init>" := (name_of_methodNamed B.named B.method).1
  have hS : va_S (q_ge E) s.heap s.heap [] := va_S.rf
  have iX12 : ∀ w ∈ wsX120, w ∈ wsX12_init := by decide +kernel
  have iX3 : ∀ w ∈ wsX30, w ∈ wsX12_init := by decide +kernel
  have iX6 : ∀ w ∈ wsX60, w ∈ wsX12_init := by decide +kernel
  have iX8 : ∀ w ∈ wsX80, w ∈ wsX12_init := by decide +kernel
  have iX9 : ∀ w ∈ wsX90, w ∈ wsX12_init := by decide +kernel
  have hl := lv_entry ([.ref a]) (n := 1) (Nat.le_of_ble_eq_true rfl)
  rw [lg_entry_eq]
  generalize (lg_sl ([.ref a]) ++ List.replicate (1 - (lg_sl ([.ref a])).length) Slot.unset).toArray = ls at hl ⊢
  have hl : lv_has ls 1 [(0, .ref a)] := hl
  subst hn
  refine lv_aload_n hx hb dX12_init_0 rfl (lv_at hl 0 rfl) ?_
  refine W.objInit hx hb hown (hts (.methodLink RX12 1 objectInit) (by decide +kernel)) (hts (.instanceMethod objectInit) (by decide +kernel)) (hts (.code objectInit ⟨#[0xb1]⟩ 1 none) (by decide +kernel)) rfl (hl.1.trans hml.symm) rfl dX12_init_1 (Nat.le_of_ble_eq_true rfl) (Nat.le_of_ble_eq_true rfl) ?_
  refine lv_aload_n hx hb dX12_init_4 rfl (lv_at hl 0 rfl) ?_
  refine q_new (ci := 9) hx hb hts hown hA hW hS iX9 tyX9 tyX9_ok (hts (.classLink RX12 7 RX9) (by decide +kernel)) (hts (.instantiable RX9 2) (by decide +kernel)) (hts (.initialized RX9) (by decide +kernel)) rfl (fs := [.null, .int 0]) (by decide) (Nat.le_of_ble_eq_true rfl) (Nat.le_of_ble_eq_true rfl) dX12_init_5 (fun H hW hS => ?_)
  have hW : q_W E (va_up f (a + 1) (some (rX9 none 0))) (a + 1 + 1) H := hW
  refine lv_dup hx hb dX12_init_8 rfl ?_
  refine q_cv (va_runIN (As := []) (rest := [.ref (a + 1), .ref a]) ⟨hx, hb, hml, hown, hts⟩ (kX9_init l E (va_up f (a + 1) (some (rX9 none 0))) (a + 2) (a + 1) q_eq rfl) ⟨va_cnB 0 hts gX12_init_X9_init_n9 rfl rfl rfl (hA.2.2.2.2.1 ("HighRecipes", 9, ⟨"HighRecipes$Tape", "<init>", "()V"⟩, "HighRecipes") (by decide +kernel)) (hts (.initialized RX9) (by decide +kernel)) (by decide +kernel) ⟨(Nat.le_of_ble_eq_true rfl), (Nat.le_of_ble_eq_true rfl)⟩, rfl, hts (.instanceMethod yX9_init) (by decide +kernel)⟩ (q_pS hA hW hS) rfl rfl hl.1 rfl (lv_room (Nat.le_of_ble_eq_true rfl)) dX12_init_9 ⟨Nat.le_of_ble_eq_true rfl, Nat.le_of_ble_eq_true rfl⟩) hS (fun f_9 n_9 H locs hp hW hS => ?_)
  obtain ⟨rfl, rfl⟩ := hp
  have hW : q_W E (va_up (va_up (va_up f (a + 1) (some (rX9 none 0))) (a + 2) (some (aB E 1600 (fun _ => 0)))) (a + 1) (some (rX9 (some ((a + 1) + 1)) 0))) (a + 3) H := hW
  refine q_putF hx hb hts hown hA hW hS iX12 tyX12 tyX12_ok nmX12 (q_ne (by omega) (q_ne (by omega) (q_ne (by omega) h0))) rfl 0 (by decide) (hts (.fieldLink RX12 10 "HighRecipes" "tape" "LHighRecipes$Tape;") (by decide +kernel)) (fun _ h9 => h9) rfl hin rfl rfl rfl (Nat.le_of_ble_eq_true rfl) dX12_init_12 (fun H locs hW hS => ?_)
  have hW : q_W E (va_up (va_up (va_up (va_up f (a + 1) (some (rX9 none 0))) (a + 2) (some (aB E 1600 (fun _ => 0)))) (a + 1) (some (rX9 (some ((a + 1) + 1)) 0))) a (some (rX12 (some (a + 1)) none none none none none 0))) (a + 3) H := hW
  refine lv_aload_n hx hb dX12_init_15 rfl (lv_at hl 0 rfl) ?_
  refine q_new (ci := 8) hx hb hts hown hA hW hS iX8 tyX8 tyX8_ok (hts (.classLink RX12 16 RX8) (by decide +kernel)) (hts (.instantiable RX8 4) (by decide +kernel)) (hts (.initialized RX8) (by decide +kernel)) rfl (fs := [.null, .null, .int 0, .int 0]) (by decide) (Nat.le_of_ble_eq_true rfl) (Nat.le_of_ble_eq_true rfl) dX12_init_16 (fun H hW hS => ?_)
  have hW : q_W E (va_up (va_up (va_up (va_up (va_up f (a + 1) (some (rX9 none 0))) (a + 2) (some (aB E 1600 (fun _ => 0)))) (a + 1) (some (rX9 (some ((a + 1) + 1)) 0))) a (some (rX12 (some (a + 1)) none none none none none 0))) (a + 3) (some (rX8 none none 0 0))) (a + 3 + 1) H := hW
  refine lv_dup hx hb dX12_init_19 rfl ?_
  refine q_cv (va_runIN (As := []) (rest := [.ref (a + 3), .ref a]) ⟨hx, hb, hml, hown, hts⟩ (kX8_init l E (va_up (va_up (va_up (va_up (va_up f (a + 1) (some (rX9 none 0))) (a + 2) (some (aB E 1600 (fun _ => 0)))) (a + 1) (some (rX9 (some ((a + 1) + 1)) 0))) a (some (rX12 (some (a + 1)) none none none none none 0))) (a + 3) (some (rX8 none none 0 0))) (a + 4) (a + 3) q_eq rfl) ⟨va_cnB 0 hts gX12_init_X8_init_n18 rfl rfl rfl (hA.2.2.2.2.1 ("HighRecipes", 18, ⟨"HighRecipes$Parser", "<init>", "()V"⟩, "HighRecipes") (by decide +kernel)) (hts (.initialized RX8) (by decide +kernel)) (by decide +kernel) ⟨(Nat.le_of_ble_eq_true rfl), (Nat.le_of_ble_eq_true rfl)⟩, rfl, hts (.instanceMethod yX8_init) (by decide +kernel)⟩ (q_pS hA hW hS) rfl rfl hl.1 rfl (lv_room (Nat.le_of_ble_eq_true rfl)) dX12_init_20 ⟨Nat.le_of_ble_eq_true rfl, Nat.le_of_ble_eq_true rfl⟩) hS (fun f_20 n_20 H locs hp hW hS => ?_)
  obtain ⟨fr_20, e20_0, e20_1, e20_2, e20_3, e20_4, e20_5, e20_6, e20_7, e20_8, e20_9, rfl⟩ := hp
  have fx_20 : ∀ q, q < a → f_20 q = f q := fun q hq => (fr_20 q (by omega)).trans ((va_up_ne _ _ (by omega)).trans ((va_up_ne _ _ (by omega)).trans ((va_up_ne _ _ (by omega)).trans ((va_up_ne _ _ (by omega)).trans (va_up_ne _ _ (by omega))))))
  have hW : q_W E (f_20) (a + 13) H := hW
  refine q_putF hx hb hts hown hA hW hS iX12 tyX12 tyX12_ok nmX12 ((fr_20 _ (by omega)).trans (q_ne (by omega) q_eq)) rfl 1 (by decide) (hts (.fieldLink RX12 19 "HighRecipes" "parser" "LHighRecipes$Parser;") (by decide +kernel)) (fun _ h9 => h9) rfl hin rfl rfl rfl (Nat.le_of_ble_eq_true rfl) dX12_init_23 (fun H locs hW hS => ?_)
  have hW : q_W E (va_up f_20 a (some (rX12 (some (a + 1)) (some (a + 3)) none none none none 0))) (a + 13) H := hW
  refine lv_aload_n hx hb dX12_init_26 rfl (lv_at hl 0 rfl) ?_
  refine q_new (ci := 6) hx hb hts hown hA hW hS iX6 tyX6 tyX6_ok (hts (.classLink RX12 23 RX6) (by decide +kernel)) (hts (.instantiable RX6 9) (by decide +kernel)) (hts (.initialized RX6) (by decide +kernel)) rfl (fs := [.null, .null, .null, .null, .null, .int 0, .int 0, .int 0, .int 0]) (by decide) (Nat.le_of_ble_eq_true rfl) (Nat.le_of_ble_eq_true rfl) dX12_init_27 (fun H hW hS => ?_)
  have hW : q_W E (va_up (va_up f_20 a (some (rX12 (some (a + 1)) (some (a + 3)) none none none none 0))) (a + 13) (some (rX6 none none none none none 0 0 0 0))) (a + 13 + 1) H := hW
  refine lv_dup hx hb dX12_init_30 rfl ?_
  refine q_cv (va_runI (As := []) (rest := [.ref (a + 13), .ref a]) ⟨hx, hb, hml, hown, hts⟩ (kX6_init l E (va_up (va_up f_20 a (some (rX12 (some (a + 1)) (some (a + 3)) none none none none 0))) (a + 13) (some (rX6 none none none none none 0 0 0 0))) (a + 14) (a + 13) q_eq rfl) (cwI 0 hts gX12_init_X6_init rfl rfl rfl (hts (.initialized RX6) (by decide +kernel)) (hts (.methodLink RX12 25 yX6_init) (by decide +kernel)) (hts (.instanceMethod yX6_init) (by decide +kernel)) rfl (by decide +kernel) ⟨(Nat.le_of_ble_eq_true rfl), (Nat.le_of_ble_eq_true rfl)⟩) (q_pS hA hW hS) rfl rfl hl.1 rfl (lv_room (Nat.le_of_ble_eq_true rfl)) dX12_init_31 ⟨Nat.le_of_ble_eq_true rfl, Nat.le_of_ble_eq_true rfl⟩) hS (fun f_31 n_31 H locs hp hW hS => ?_)
  obtain ⟨fr_31, e31_0, e31_1, kit_31, rfl⟩ := hp
  have fx_31 : ∀ q, q < a → f_31 q = f q := fun q hq => (fr_31 q (by omega)).trans ((va_up_ne _ _ (by omega)).trans ((va_up_ne _ _ (by omega)).trans ((fx_20 q hq))))
  have hW : q_W E (f_31) (a + 33) H := hW
  refine q_putF hx hb hts hown hA hW hS iX12 tyX12 tyX12_ok nmX12 ((fr_31 _ (by omega)).trans (q_ne (by omega) q_eq)) rfl 2 (by decide) (hts (.fieldLink RX12 26 "HighRecipes" "kitchen" "LHighRecipes$Kitchen;") (by decide +kernel)) (fun _ h9 => h9) rfl hin rfl rfl rfl (Nat.le_of_ble_eq_true rfl) dX12_init_34 (fun H locs hW hS => ?_)
  have hW : q_W E (va_up f_31 a (some (rX12 (some (a + 1)) (some (a + 3)) (some (a + 13)) none none none 0))) (a + 33) H := hW
  refine lv_aload_n hx hb dX12_init_37 rfl (lv_at hl 0 rfl) ?_
  refine q_new (ci := 4) hx hb hts hown hA hW hS iX3 tyX3 tyX3_ok (hts (.classLink RX12 30 RX3) (by decide +kernel)) (hts (.instantiable RX3 3) (by decide +kernel)) (hts (.initialized RX3) (by decide +kernel)) rfl (fs := [.null, .int 0, .int 0]) (by decide) (Nat.le_of_ble_eq_true rfl) (Nat.le_of_ble_eq_true rfl) dX12_init_38 (fun H hW hS => ?_)
  have hW : q_W E (va_up (va_up f_31 a (some (rX12 (some (a + 1)) (some (a + 3)) (some (a + 13)) none none none 0))) (a + 33) (some (rX3 none 0 0))) (a + 33 + 1) H := hW
  refine lv_dup hx hb dX12_init_41 rfl ?_
  refine lv_aload_n hx hb dX12_init_42 rfl (lv_at hl 0 rfl) ?_
  refine q_get hx hb hts hown hA hW iX12 (q_ne (by omega) q_eq) rfl 2 (by decide) (hts (.fieldLink RX12 26 "HighRecipes" "kitchen" "LHighRecipes$Kitchen;") (by decide +kernel)) (fun _ h9 => h9) (v := .ref (a + 13)) rfl dX12_init_43 ?_
  refine q_cv (va_runI (As := [.ref (a + 13)]) (rest := [.ref (a + 33), .ref a]) ⟨hx, hb, hml, hown, hts⟩ (kX3_init l E (va_up (va_up f_31 a (some (rX12 (some (a + 1)) (some (a + 3)) (some (a + 13)) none none none 0))) (a + 33) (some (rX3 none 0 0))) (a + 34) (a + 33) (a + 13) q_eq) (cwI 1 hts gX12_init_X3_init rfl rfl rfl (hts (.initialized RX3) (by decide +kernel)) (hts (.methodLink RX12 32 yX3_init) (by decide +kernel)) (hts (.instanceMethod yX3_init) (by decide +kernel)) rfl (by decide +kernel) ⟨(Nat.le_of_ble_eq_true rfl), (Nat.le_of_ble_eq_true rfl)⟩) (q_pS hA hW hS) rfl rfl hl.1 rfl (lv_room (Nat.le_of_ble_eq_true rfl)) dX12_init_46 ⟨Nat.le_of_ble_eq_true rfl, Nat.le_of_ble_eq_true rfl⟩) hS (fun f_46 n_46 H locs hp hW hS => ?_)
  obtain ⟨rfl, rfl⟩ := hp
  rw [q_upup] at hW
  have hW : q_W E (va_up (va_up f_31 a (some (rX12 (some (a + 1)) (some (a + 3)) (some (a + 13)) none none none 0))) (a + 33) (some (rX3 (some (a + 13)) 0 (-1)))) (a + 34) H := hW
  refine q_putF hx hb hts hown hA hW hS iX12 tyX12 tyX12_ok nmX12 (q_ne (by omega) q_eq) rfl 3 (by decide) (hts (.fieldLink RX12 35 "HighRecipes" "cooking" "LHighRecipes$Cooking;") (by decide +kernel)) (fun _ h9 => h9) rfl hin rfl rfl rfl (Nat.le_of_ble_eq_true rfl) dX12_init_49 (fun H locs hW hS => ?_)
  have hW : q_W E (va_up (va_up (va_up f_31 a (some (rX12 (some (a + 1)) (some (a + 3)) (some (a + 13)) none none none 0))) (a + 33) (some (rX3 (some (a + 13)) 0 (-1)))) a (some (rX12 (some (a + 1)) (some (a + 3)) (some (a + 13)) (some (a + 33)) none none 0))) (a + 34) H := hW
  refine lv_aload_n hx hb dX12_init_52 rfl (lv_at hl 0 rfl) ?_
  refine q_new (ci := 6) hx hb hts hown hA hW hS iX6 tyX6 tyX6_ok (hts (.classLink RX12 23 RX6) (by decide +kernel)) (hts (.instantiable RX6 9) (by decide +kernel)) (hts (.initialized RX6) (by decide +kernel)) rfl (fs := [.null, .null, .null, .null, .null, .int 0, .int 0, .int 0, .int 0]) (by decide) (Nat.le_of_ble_eq_true rfl) (Nat.le_of_ble_eq_true rfl) dX12_init_53 (fun H hW hS => ?_)
  have hW : q_W E (va_up (va_up (va_up (va_up f_31 a (some (rX12 (some (a + 1)) (some (a + 3)) (some (a + 13)) none none none 0))) (a + 33) (some (rX3 (some (a + 13)) 0 (-1)))) a (some (rX12 (some (a + 1)) (some (a + 3)) (some (a + 13)) (some (a + 33)) none none 0))) (a + 34) (some (rX6 none none none none none 0 0 0 0))) (a + 34 + 1) H := hW
  refine lv_dup hx hb dX12_init_56 rfl ?_
  refine q_cv (va_runI (As := []) (rest := [.ref (a + 34), .ref a]) ⟨hx, hb, hml, hown, hts⟩ (kX6_init l E (va_up (va_up (va_up (va_up f_31 a (some (rX12 (some (a + 1)) (some (a + 3)) (some (a + 13)) none none none 0))) (a + 33) (some (rX3 (some (a + 13)) 0 (-1)))) a (some (rX12 (some (a + 1)) (some (a + 3)) (some (a + 13)) (some (a + 33)) none none 0))) (a + 34) (some (rX6 none none none none none 0 0 0 0))) (a + 35) (a + 34) q_eq rfl) (cwI 0 hts gX12_init_X6_init rfl rfl rfl (hts (.initialized RX6) (by decide +kernel)) (hts (.methodLink RX12 25 yX6_init) (by decide +kernel)) (hts (.instanceMethod yX6_init) (by decide +kernel)) rfl (by decide +kernel) ⟨(Nat.le_of_ble_eq_true rfl), (Nat.le_of_ble_eq_true rfl)⟩) (q_pS hA hW hS) rfl rfl hl.1 rfl (lv_room (Nat.le_of_ble_eq_true rfl)) dX12_init_57 ⟨Nat.le_of_ble_eq_true rfl, Nat.le_of_ble_eq_true rfl⟩) hS (fun f_57 n_57 H locs hp hW hS => ?_)
  obtain ⟨fr_57, e57_0, e57_1, kit_57, rfl⟩ := hp
  have fx_57 : ∀ q, q < a → f_57 q = f q := fun q hq => (fr_57 q (by omega)).trans ((va_up_ne _ _ (by omega)).trans ((va_up_ne _ _ (by omega)).trans ((va_up_ne _ _ (by omega)).trans ((va_up_ne _ _ (by omega)).trans ((fx_31 q hq))))))
  have hW : q_W E (f_57) (a + 54) H := hW
  refine q_putF hx hb hts hown hA hW hS iX12 tyX12 tyX12_ok nmX12 ((fr_57 _ (by omega)).trans (q_ne (by omega) q_eq)) rfl 4 (by decide) (hts (.fieldLink RX12 39 "HighRecipes" "trial" "LHighRecipes$Kitchen;") (by decide +kernel)) (fun _ h9 => h9) rfl hin rfl rfl rfl (Nat.le_of_ble_eq_true rfl) dX12_init_60 (fun H locs hW hS => ?_)
  have hW : q_W E (va_up f_57 a (some (rX12 (some (a + 1)) (some (a + 3)) (some (a + 13)) (some (a + 33)) (some (a + 34)) none 0))) (a + 54) H := hW
  refine lv_aload_n hx hb dX12_init_63 rfl (lv_at hl 0 rfl) ?_
  refine q_new (ci := 4) hx hb hts hown hA hW hS iX3 tyX3 tyX3_ok (hts (.classLink RX12 30 RX3) (by decide +kernel)) (hts (.instantiable RX3 3) (by decide +kernel)) (hts (.initialized RX3) (by decide +kernel)) rfl (fs := [.null, .int 0, .int 0]) (by decide) (Nat.le_of_ble_eq_true rfl) (Nat.le_of_ble_eq_true rfl) dX12_init_64 (fun H hW hS => ?_)
  have hW : q_W E (va_up (va_up f_57 a (some (rX12 (some (a + 1)) (some (a + 3)) (some (a + 13)) (some (a + 33)) (some (a + 34)) none 0))) (a + 54) (some (rX3 none 0 0))) (a + 54 + 1) H := hW
  refine lv_dup hx hb dX12_init_67 rfl ?_
  refine lv_aload_n hx hb dX12_init_68 rfl (lv_at hl 0 rfl) ?_
  refine q_get hx hb hts hown hA hW iX12 (q_ne (by omega) q_eq) rfl 4 (by decide) (hts (.fieldLink RX12 39 "HighRecipes" "trial" "LHighRecipes$Kitchen;") (by decide +kernel)) (fun _ h9 => h9) (v := .ref (a + 34)) rfl dX12_init_69 ?_
  refine q_cv (va_runI (As := [.ref (a + 34)]) (rest := [.ref (a + 54), .ref a]) ⟨hx, hb, hml, hown, hts⟩ (kX3_init l E (va_up (va_up f_57 a (some (rX12 (some (a + 1)) (some (a + 3)) (some (a + 13)) (some (a + 33)) (some (a + 34)) none 0))) (a + 54) (some (rX3 none 0 0))) (a + 55) (a + 54) (a + 34) q_eq) (cwI 1 hts gX12_init_X3_init rfl rfl rfl (hts (.initialized RX3) (by decide +kernel)) (hts (.methodLink RX12 32 yX3_init) (by decide +kernel)) (hts (.instanceMethod yX3_init) (by decide +kernel)) rfl (by decide +kernel) ⟨(Nat.le_of_ble_eq_true rfl), (Nat.le_of_ble_eq_true rfl)⟩) (q_pS hA hW hS) rfl rfl hl.1 rfl (lv_room (Nat.le_of_ble_eq_true rfl)) dX12_init_72 ⟨Nat.le_of_ble_eq_true rfl, Nat.le_of_ble_eq_true rfl⟩) hS (fun f_72 n_72 H locs hp hW hS => ?_)
  obtain ⟨rfl, rfl⟩ := hp
  rw [q_upup] at hW
  have hW : q_W E (va_up (va_up f_57 a (some (rX12 (some (a + 1)) (some (a + 3)) (some (a + 13)) (some (a + 33)) (some (a + 34)) none 0))) (a + 54) (some (rX3 (some (a + 34)) 0 (-1)))) (a + 55) H := hW
  refine q_putF hx hb hts hown hA hW hS iX12 tyX12 tyX12_ok nmX12 (q_ne (by omega) q_eq) rfl 5 (by decide) (hts (.fieldLink RX12 42 "HighRecipes" "trying" "LHighRecipes$Cooking;") (by decide +kernel)) (fun _ h9 => h9) rfl hin rfl rfl rfl (Nat.le_of_ble_eq_true rfl) dX12_init_75 (fun H locs hW hS => ?_)
  have hW : q_W E (va_up (va_up (va_up f_57 a (some (rX12 (some (a + 1)) (some (a + 3)) (some (a + 13)) (some (a + 33)) (some (a + 34)) none 0))) (a + 54) (some (rX3 (some (a + 34)) 0 (-1)))) a (some (rX12 (some (a + 1)) (some (a + 3)) (some (a + 13)) (some (a + 33)) (some (a + 34)) (some (a + 54)) 0))) (a + 55) H := hW
  refine lv_aload_n hx hb dX12_init_78 rfl (lv_at hl 0 rfl) ?_
  refine lv_iconst (v := (-1)) hx hb dX12_init_79 (by decide) ?_
  refine q_put hx hb hts hown hA hW hS iX12 tyX12 tyX12_ok nmX12 q_eq rfl 6 (by decide) (hts (.fieldLink RX12 45 "HighRecipes" "errorPosition" "I") (by decide +kernel)) (fun _ h9 => h9) rfl rfl rfl (Nat.le_of_ble_eq_true rfl) dX12_init_80 (fun H locs hW hS => ?_)
  rw [q_upup] at hW
  have hW : q_W E (va_up (va_up (va_up f_57 a (some (rX12 (some (a + 1)) (some (a + 3)) (some (a + 13)) (some (a + 33)) (some (a + 34)) none 0))) (a + 54) (some (rX3 (some (a + 34)) 0 (-1)))) a (some (rX12 (some (a + 1)) (some (a + 3)) (some (a + 13)) (some (a + 33)) (some (a + 34)) (some (a + 54)) (-1)))) (a + 55) H := hW
  exact q_vret hx hb hr hlocks hW hS ⟨fun q hq => (va_up_ne _ _ (by omega)).trans ((va_up_ne _ _ (by omega)).trans ((va_up_ne _ _ (by omega)).trans ((fx_57 q hq)))), q_eq, (q_ne (by omega) (q_ne (by omega) (q_ne (by omega) ((fr_57 _ (by omega)).trans (q_ne (by omega) (q_ne (by omega) (q_ne (by omega) (q_ne (by omega) ((fr_31 _ (by omega)).trans (q_ne (by omega) (q_ne (by omega) ((fr_20 _ (by omega)).trans (q_ne (by omega) (q_ne (by omega) q_eq)))))))))))))), (q_ne (by omega) (q_ne (by omega) (q_ne (by omega) ((fr_57 _ (by omega)).trans (q_ne (by omega) (q_ne (by omega) (q_ne (by omega) (q_ne (by omega) ((fr_31 _ (by omega)).trans (q_ne (by omega) (q_ne (by omega) ((fr_20 _ (by omega)).trans (q_ne (by omega) (q_ne (by omega) (q_ne (by omega) q_eq))))))))))))))), (q_ne (by omega) (q_ne (by omega) (q_ne (by omega) ((fr_57 _ (by omega)).trans (q_ne (by omega) (q_ne (by omega) (q_ne (by omega) (q_ne (by omega) ((fr_31 _ (by omega)).trans (q_ne (by omega) (q_ne (by omega) e20_9))))))))))), (q_ne (by omega) (q_ne (by omega) (q_ne (by omega) ((fr_57 _ (by omega)).trans (q_ne (by omega) (q_ne (by omega) (q_ne (by omega) (q_ne (by omega) ((fr_31 _ (by omega)).trans (q_ne (by omega) (q_ne (by omega) e20_3))))))))))), (q_ne (by omega) (q_ne (by omega) (q_ne (by omega) ((fr_57 _ (by omega)).trans (q_ne (by omega) (q_ne (by omega) (q_ne (by omega) (q_ne (by omega) ((fr_31 _ (by omega)).trans (q_ne (by omega) (q_ne (by omega) e20_0))))))))))), (q_ne (by omega) (q_ne (by omega) (q_ne (by omega) ((fr_57 _ (by omega)).trans (q_ne (by omega) (q_ne (by omega) (q_ne (by omega) (q_ne (by omega) ((fr_31 _ (by omega)).trans (q_ne (by omega) (q_ne (by omega) e20_1))))))))))), (q_ne (by omega) (q_ne (by omega) (q_ne (by omega) ((fr_57 _ (by omega)).trans (q_ne (by omega) (q_ne (by omega) (q_ne (by omega) (q_ne (by omega) ((fr_31 _ (by omega)).trans (q_ne (by omega) (q_ne (by omega) e20_2))))))))))), (q_ne (by omega) (q_ne (by omega) (q_ne (by omega) ((fr_57 _ (by omega)).trans (q_ne (by omega) (q_ne (by omega) (q_ne (by omega) (q_ne (by omega) e31_0)))))))), (q_ne (by omega) (q_ne (by omega) (q_ne (by omega) ((fr_57 _ (by omega)).trans (q_ne (by omega) (q_ne (by omega) (q_ne (by omega) (q_ne (by omega) e31_1)))))))), (q_ne (by omega) (q_ne (by omega) (q_ne (by omega) ((fr_57 _ (by omega)).trans (q_ne (by omega) (q_ne (by omega) q_eq)))))), (q_ne (by omega) q_eq), kit_31.other (fun q hq => ((va_up_ne _ _ (by unfold kOut at hq; omega)).trans ((va_up_ne _ _ (by unfold kOut at hq; omega)).trans (va_up_ne _ _ (by unfold kOut at hq; omega)))).trans ((fr_57 q (by unfold kOut at hq; omega)).trans ((va_up_ne _ _ (by unfold kOut at hq; omega)).trans ((va_up_ne _ _ (by unfold kOut at hq; omega)).trans ((va_up_ne _ _ (by unfold kOut at hq; omega)).trans (va_up_ne _ _ (by unfold kOut at hq; omega))))))), kit_57.other (fun q hq => (va_up_ne _ _ (by unfold kOut at hq; omega)).trans ((va_up_ne _ _ (by unfold kOut at hq; omega)).trans (va_up_ne _ _ (by unfold kOut at hq; omega)))), rfl⟩ (Nat.le_of_ble_eq_true rfl) (Nat.le_of_ble_eq_true rfl) dX12_init_83

set_option maxHeartbeats 4000000 in
set_option maxRecDepth 100000 in
theorem kX12_feed (l : Launch) (E : q_E) (f : q_H) (n : Nat) (x tp pr k ck tr tk : Nat) (ep : Int32) (L : Nat) (g : Nat → Int32) (x1 x2 x3 x4 x5 : Int32) (hX : f x = some (rX12 (some tp) (some pr) (some k) (some ck) (some tr) (some tk) ep)) (hT : f tp = some (cTape tp (nI L))) (hT1 : f (tp + 1) = some (aB E 1600 g)) (hL : L + 20 ≤ 1600) (hxt : x ≠ tp ∧ x ≠ tp + 1) : Met l yX12_feed wsX12_feed ({ frames := 1, cells := 0, slots := 0, locals := 22 }) (q_P E [.ref x, .int x1, .int x2, .int x3, .int x4, .int x5] f n) (q_Qi E (fun r f1 n1 => nI (L + 20) = r ∧ va_up (va_up f tp (some (cTape tp (nI (L + 20))))) (tp + 1) (some (aB E 1600 (t_four (t_four (t_four (t_four (t_four (g) L x1) (L + 4) x2) (L + 8) x3) (L + 12) x4) (L + 16) x5))) = f1 ∧ n = n1)) 0 0 (q_ge E) := by
  refine Met.ofW (cc := cX12_feed) (maxL := 6) (ret := (some .int)) (by decide) rfl ?_
  intro p e s m args below meth c s₁ B hml hv
  obtain ⟨rfl, hA, hW⟩ := hv
  have hx := B.exec
  have hb := B.bytes
  have hr := B.returns
  have hts := atoms_spec (ws := wsX12_feed) B.pre
  have hown : s.vm.findClass RX12 = some m.cls := findClass_of_methodNamed B.named
  have hlocks := B.notSynchronized
  have hS : va_S (q_ge E) s.heap s.heap [] := va_S.rf
  have iX12 : ∀ w ∈ wsX120, w ∈ wsX12_feed := by decide +kernel
  have iX9 : ∀ w ∈ wsX90, w ∈ wsX12_feed := by decide +kernel
  have hl := lv_entry ([.ref x, .int x1, .int x2, .int x3, .int x4, .int x5]) (n := 6) (Nat.le_of_ble_eq_true rfl)
  rw [lg_entry_eq]
  generalize (lg_sl ([.ref x, .int x1, .int x2, .int x3, .int x4, .int x5]) ++ List.replicate (6 - (lg_sl ([.ref x, .int x1, .int x2, .int x3, .int x4, .int x5])).length) Slot.unset).toArray = ls at hl ⊢
  have hl : lv_has ls 6 [(0, .ref x), (1, .int x1), (2, .int x2), (3, .int x3), (4, .int x4), (5, .int x5)] := hl
  refine lv_aload_n hx hb dX12_feed_0 rfl (lv_at hl 0 rfl) ?_
  refine q_get hx hb hts hown hA hW iX12 hX rfl 0 (by decide) (hts (.fieldLink RX12 10 "HighRecipes" "tape" "LHighRecipes$Tape;") (by decide +kernel)) (fun _ h9 => h9) (v := .ref tp) rfl dX12_feed_1 ?_
  refine q_getN hx hb hts hown hA hW iX9 hT rfl 1 (by decide) (va_Nw.use rfl (hA.2.2.2.1 ("HighRecipes", 49, "HighRecipes$Tape", "length", "I", "HighRecipes") (by decide +kernel))) (fun _ h9 => h9) (v := .int (nI L)) rfl dX12_feed_4 ?_
  refine lv_bipush (v := 20) hx hb dX12_feed_7 (by decide) ?_
  refine lv_iadd hx hb dX12_feed_9 ?_
  rw [show (20 : Int32) = nI 20 from rfl, nI_add]
  refine lv_sipush (v := 1600) hx hb dX12_feed_10 (by decide) ?_
  refine lv_icmp_le (tgt := 26) hx hb dX12_feed_13 (by decide) (fun c_13 => ?_) (fun c_13 => False.elim ((fun h9 => h9 (show nI (L + 20) ≤ nI 1600 from nI_le hL (by decide))) c_13))
  refine lv_aload_n hx hb dX12_feed_26 rfl (lv_at hl 0 rfl) ?_
  refine q_get hx hb hts hown hA hW iX12 hX rfl 0 (by decide) (hts (.fieldLink RX12 10 "HighRecipes" "tape" "LHighRecipes$Tape;") (by decide +kernel)) (fun _ h9 => h9) (v := .ref tp) rfl dX12_feed_27 ?_
  refine lv_iload_n hx hb dX12_feed_30 rfl (lv_at hl 1 rfl) ?_
  refine q_cv (va_runV (As := [.int x1]) (rest := []) ⟨hx, hb, hml, hown, hts⟩ (kX9_append l E f n tp L g x1 hT hT1 (by omega)) (cwV 1 hts gX12_feed_X9_append rfl rfl rfl (by decide +kernel) ⟨(Nat.le_of_ble_eq_true rfl), (Nat.le_of_ble_eq_true rfl)⟩) (q_pV hA hW hS (ci := 9) rfl hT) rfl rfl hl.1 rfl (lv_room (Nat.le_of_ble_eq_true rfl)) dX12_feed_31 ⟨Nat.le_of_ble_eq_true rfl, Nat.le_of_ble_eq_true rfl⟩) hS (fun f_31 n_31 H locs hp hW hS => ?_)
  obtain ⟨rfl, rfl⟩ := hp
  have hW : q_W E (va_up (va_up f tp (some (cTape tp (nI (L + 4))))) (tp + 1) (some (aB E 1600 (t_four g L x1)))) n H := hW
  refine lv_aload_n hx hb dX12_feed_34 rfl (lv_at hl 0 rfl) ?_
  refine q_get hx hb hts hown hA hW iX12 (q_ne hxt.2 (q_ne hxt.1 hX)) rfl 0 (by decide) (hts (.fieldLink RX12 10 "HighRecipes" "tape" "LHighRecipes$Tape;") (by decide +kernel)) (fun _ h9 => h9) (v := .ref tp) rfl dX12_feed_35 ?_
  refine lv_iload_n hx hb dX12_feed_38 rfl (lv_at hl 2 rfl) ?_
  refine q_cv (va_runV (As := [.int x2]) (rest := []) ⟨hx, hb, hml, hown, hts⟩ (kX9_append l E (va_up (va_up f tp (some (cTape tp (nI (L + 4))))) (tp + 1) (some (aB E 1600 (t_four g L x1)))) n tp (L + 4) (t_four g L x1) x2 (q_ne (by omega) q_eq) q_eq (by omega)) (cwV 1 hts gX12_feed_X9_append rfl rfl rfl (by decide +kernel) ⟨(Nat.le_of_ble_eq_true rfl), (Nat.le_of_ble_eq_true rfl)⟩) (q_pV hA hW hS (ci := 9) rfl (q_ne (by omega) q_eq)) rfl rfl hl.1 rfl (lv_room (Nat.le_of_ble_eq_true rfl)) dX12_feed_39 ⟨Nat.le_of_ble_eq_true rfl, Nat.le_of_ble_eq_true rfl⟩) hS (fun f_39 n_39 H locs hp hW hS => ?_)
  obtain ⟨rfl, rfl⟩ := hp
  have hW : q_W E (va_up (va_up (va_up (va_up f tp (some (cTape tp (nI (L + 4))))) (tp + 1) (some (aB E 1600 (t_four g L x1)))) tp (some (cTape tp (nI ((L + 4) + 4))))) (tp + 1) (some (aB E 1600 (t_four (t_four g L x1) (L + 4) x2)))) n H := hW
  refine lv_aload_n hx hb dX12_feed_42 rfl (lv_at hl 0 rfl) ?_
  refine q_get hx hb hts hown hA hW iX12 (q_ne hxt.2 (q_ne hxt.1 (q_ne hxt.2 (q_ne hxt.1 hX)))) rfl 0 (by decide) (hts (.fieldLink RX12 10 "HighRecipes" "tape" "LHighRecipes$Tape;") (by decide +kernel)) (fun _ h9 => h9) (v := .ref tp) rfl dX12_feed_43 ?_
  refine lv_iload_n hx hb dX12_feed_46 rfl (lv_at hl 3 rfl) ?_
  refine q_cv (va_runV (As := [.int x3]) (rest := []) ⟨hx, hb, hml, hown, hts⟩ (kX9_append l E (va_up (va_up (va_up (va_up f tp (some (cTape tp (nI (L + 4))))) (tp + 1) (some (aB E 1600 (t_four g L x1)))) tp (some (cTape tp (nI ((L + 4) + 4))))) (tp + 1) (some (aB E 1600 (t_four (t_four g L x1) (L + 4) x2)))) n tp (L + 8) (t_four (t_four g L x1) (L + 4) x2) x3 (q_ne (by omega) q_eq) q_eq (by omega)) (cwV 1 hts gX12_feed_X9_append rfl rfl rfl (by decide +kernel) ⟨(Nat.le_of_ble_eq_true rfl), (Nat.le_of_ble_eq_true rfl)⟩) (q_pV hA hW hS (ci := 9) rfl (q_ne (by omega) q_eq)) rfl rfl hl.1 rfl (lv_room (Nat.le_of_ble_eq_true rfl)) dX12_feed_47 ⟨Nat.le_of_ble_eq_true rfl, Nat.le_of_ble_eq_true rfl⟩) hS (fun f_47 n_47 H locs hp hW hS => ?_)
  obtain ⟨rfl, rfl⟩ := hp
  have hW : q_W E (va_up (va_up (va_up (va_up (va_up (va_up f tp (some (cTape tp (nI (L + 4))))) (tp + 1) (some (aB E 1600 (t_four g L x1)))) tp (some (cTape tp (nI ((L + 4) + 4))))) (tp + 1) (some (aB E 1600 (t_four (t_four g L x1) (L + 4) x2)))) tp (some (cTape tp (nI ((L + 8) + 4))))) (tp + 1) (some (aB E 1600 (t_four (t_four (t_four g L x1) (L + 4) x2) (L + 8) x3)))) n H := hW
  refine lv_aload_n hx hb dX12_feed_50 rfl (lv_at hl 0 rfl) ?_
  refine q_get hx hb hts hown hA hW iX12 (q_ne hxt.2 (q_ne hxt.1 (q_ne hxt.2 (q_ne hxt.1 (q_ne hxt.2 (q_ne hxt.1 hX)))))) rfl 0 (by decide) (hts (.fieldLink RX12 10 "HighRecipes" "tape" "LHighRecipes$Tape;") (by decide +kernel)) (fun _ h9 => h9) (v := .ref tp) rfl dX12_feed_51 ?_
  refine lv_iload hx hb dX12_feed_54 (lv_at hl 4 rfl) ?_
  refine q_cv (va_runV (As := [.int x4]) (rest := []) ⟨hx, hb, hml, hown, hts⟩ (kX9_append l E (va_up (va_up (va_up (va_up (va_up (va_up f tp (some (cTape tp (nI (L + 4))))) (tp + 1) (some (aB E 1600 (t_four g L x1)))) tp (some (cTape tp (nI ((L + 4) + 4))))) (tp + 1) (some (aB E 1600 (t_four (t_four g L x1) (L + 4) x2)))) tp (some (cTape tp (nI ((L + 8) + 4))))) (tp + 1) (some (aB E 1600 (t_four (t_four (t_four g L x1) (L + 4) x2) (L + 8) x3)))) n tp (L + 12) (t_four (t_four (t_four g L x1) (L + 4) x2) (L + 8) x3) x4 (q_ne (by omega) q_eq) q_eq (by omega)) (cwV 1 hts gX12_feed_X9_append rfl rfl rfl (by decide +kernel) ⟨(Nat.le_of_ble_eq_true rfl), (Nat.le_of_ble_eq_true rfl)⟩) (q_pV hA hW hS (ci := 9) rfl (q_ne (by omega) q_eq)) rfl rfl hl.1 rfl (lv_room (Nat.le_of_ble_eq_true rfl)) dX12_feed_56 ⟨Nat.le_of_ble_eq_true rfl, Nat.le_of_ble_eq_true rfl⟩) hS (fun f_56 n_56 H locs hp hW hS => ?_)
  obtain ⟨rfl, rfl⟩ := hp
  have hW : q_W E (va_up (va_up (va_up (va_up (va_up (va_up (va_up (va_up f tp (some (cTape tp (nI (L + 4))))) (tp + 1) (some (aB E 1600 (t_four g L x1)))) tp (some (cTape tp (nI ((L + 4) + 4))))) (tp + 1) (some (aB E 1600 (t_four (t_four g L x1) (L + 4) x2)))) tp (some (cTape tp (nI ((L + 8) + 4))))) (tp + 1) (some (aB E 1600 (t_four (t_four (t_four g L x1) (L + 4) x2) (L + 8) x3)))) tp (some (cTape tp (nI ((L + 12) + 4))))) (tp + 1) (some (aB E 1600 (t_four (t_four (t_four (t_four g L x1) (L + 4) x2) (L + 8) x3) (L + 12) x4)))) n H := hW
  refine lv_aload_n hx hb dX12_feed_59 rfl (lv_at hl 0 rfl) ?_
  refine q_get hx hb hts hown hA hW iX12 (q_ne hxt.2 (q_ne hxt.1 (q_ne hxt.2 (q_ne hxt.1 (q_ne hxt.2 (q_ne hxt.1 (q_ne hxt.2 (q_ne hxt.1 hX)))))))) rfl 0 (by decide) (hts (.fieldLink RX12 10 "HighRecipes" "tape" "LHighRecipes$Tape;") (by decide +kernel)) (fun _ h9 => h9) (v := .ref tp) rfl dX12_feed_60 ?_
  refine lv_iload hx hb dX12_feed_63 (lv_at hl 5 rfl) ?_
  refine q_cv (va_runV (As := [.int x5]) (rest := []) ⟨hx, hb, hml, hown, hts⟩ (kX9_append l E (va_up (va_up (va_up (va_up (va_up (va_up (va_up (va_up f tp (some (cTape tp (nI (L + 4))))) (tp + 1) (some (aB E 1600 (t_four g L x1)))) tp (some (cTape tp (nI ((L + 4) + 4))))) (tp + 1) (some (aB E 1600 (t_four (t_four g L x1) (L + 4) x2)))) tp (some (cTape tp (nI ((L + 8) + 4))))) (tp + 1) (some (aB E 1600 (t_four (t_four (t_four g L x1) (L + 4) x2) (L + 8) x3)))) tp (some (cTape tp (nI ((L + 12) + 4))))) (tp + 1) (some (aB E 1600 (t_four (t_four (t_four (t_four g L x1) (L + 4) x2) (L + 8) x3) (L + 12) x4)))) n tp (L + 16) (t_four (t_four (t_four (t_four g L x1) (L + 4) x2) (L + 8) x3) (L + 12) x4) x5 (q_ne (by omega) q_eq) q_eq (by omega)) (cwV 1 hts gX12_feed_X9_append rfl rfl rfl (by decide +kernel) ⟨(Nat.le_of_ble_eq_true rfl), (Nat.le_of_ble_eq_true rfl)⟩) (q_pV hA hW hS (ci := 9) rfl (q_ne (by omega) q_eq)) rfl rfl hl.1 rfl (lv_room (Nat.le_of_ble_eq_true rfl)) dX12_feed_65 ⟨Nat.le_of_ble_eq_true rfl, Nat.le_of_ble_eq_true rfl⟩) hS (fun f_65 n_65 H locs hp hW hS => ?_)
  obtain ⟨rfl, rfl⟩ := hp
  have hW : q_W E (va_up (va_up (va_up (va_up (va_up (va_up (va_up (va_up (va_up (va_up f tp (some (cTape tp (nI (L + 4))))) (tp + 1) (some (aB E 1600 (t_four g L x1)))) tp (some (cTape tp (nI ((L + 4) + 4))))) (tp + 1) (some (aB E 1600 (t_four (t_four g L x1) (L + 4) x2)))) tp (some (cTape tp (nI ((L + 8) + 4))))) (tp + 1) (some (aB E 1600 (t_four (t_four (t_four g L x1) (L + 4) x2) (L + 8) x3)))) tp (some (cTape tp (nI ((L + 12) + 4))))) (tp + 1) (some (aB E 1600 (t_four (t_four (t_four (t_four g L x1) (L + 4) x2) (L + 8) x3) (L + 12) x4)))) tp (some (cTape tp (nI ((L + 16) + 4))))) (tp + 1) (some (aB E 1600 (t_four (t_four (t_four (t_four (t_four g L x1) (L + 4) x2) (L + 8) x3) (L + 12) x4) (L + 16) x5)))) n H := hW
  refine lv_aload_n hx hb dX12_feed_68 rfl (lv_at hl 0 rfl) ?_
  refine q_get hx hb hts hown hA hW iX12 (q_ne hxt.2 (q_ne hxt.1 (q_ne hxt.2 (q_ne hxt.1 (q_ne hxt.2 (q_ne hxt.1 (q_ne hxt.2 (q_ne hxt.1 (q_ne hxt.2 (q_ne hxt.1 hX)))))))))) rfl 0 (by decide) (hts (.fieldLink RX12 10 "HighRecipes" "tape" "LHighRecipes$Tape;") (by decide +kernel)) (fun _ h9 => h9) (v := .ref tp) rfl dX12_feed_69 ?_
  refine q_getN hx hb hts hown hA hW iX9 (q_ne (by omega) q_eq) rfl 1 (by decide) (va_Nw.use rfl (hA.2.2.2.1 ("HighRecipes", 49, "HighRecipes$Tape", "length", "I", "HighRecipes") (by decide +kernel))) (fun _ h9 => h9) (v := .int (nI ((L + 16) + 4))) rfl dX12_feed_72 ?_
  exact q_iret hx hb hr hlocks hW hS ⟨rfl, (by funext q; by_cases h1 : q = tp <;> by_cases h2 : q = tp + 1 <;> simp [va_up, h1, h2]), rfl⟩ (Nat.le_of_ble_eq_true rfl) (Nat.le_of_ble_eq_true rfl) dX12_feed_75

set_option maxHeartbeats 4000000 in
set_option maxRecDepth 100000 in
theorem kX12_trim (l : Launch) (E : q_E) (f : q_H) (n : Nat) (x tp pr k ck tr tk : Nat) (ep : Int32) (L : Nat) (g : Nat → Int32) (y : Int32) (hX : f x = some (rX12 (some tp) (some pr) (some k) (some ck) (some tr) (some tk) ep)) (hT : f tp = some (cTape tp (nI L))) (hin : b_in y 0 (nI L) = true) (hxt : x ≠ tp) : Met l yX12_trim wsX12_trim ({ frames := 1, cells := 0, slots := 0, locals := 22 }) (q_P E [.ref x, .int y] f n) (q_Qi E (fun r f1 n1 => y = r ∧ va_up f tp (some (cTape tp y)) = f1 ∧ n = n1)) 0 0 (q_ge E) := by
  refine Met.ofW (cc := cX12_trim) (maxL := 2) (ret := (some .int)) (by decide) rfl ?_
  intro p e s m args below meth c s₁ B hml hv
  obtain ⟨rfl, hA, hW⟩ := hv
  have hx := B.exec
  have hb := B.bytes
  have hr := B.returns
  have hts := atoms_spec (ws := wsX12_trim) B.pre
  have hown : s.vm.findClass RX12 = some m.cls := findClass_of_methodNamed B.named
  have hlocks := B.notSynchronized
  have hS : va_S (q_ge E) s.heap s.heap [] := va_S.rf
  have iX12 : ∀ w ∈ wsX120, w ∈ wsX12_trim := by decide +kernel
  have iX9 : ∀ w ∈ wsX90, w ∈ wsX12_trim := by decide +kernel
  have hl := lv_entry ([.ref x, .int y]) (n := 2) (Nat.le_of_ble_eq_true rfl)
  rw [lg_entry_eq]
  generalize (lg_sl ([.ref x, .int y]) ++ List.replicate (2 - (lg_sl ([.ref x, .int y])).length) Slot.unset).toArray = ls at hl ⊢
  have hl : lv_has ls 2 [(0, .ref x), (1, .int y)] := hl
  refine lv_iload_n hx hb dX12_trim_0 rfl (lv_at hl 1 rfl) ?_
  refine lv_iconst (v := 0) hx hb dX12_trim_1 (by decide) ?_
  refine lv_aload_n hx hb dX12_trim_2 rfl (lv_at hl 0 rfl) ?_
  refine q_get hx hb hts hown hA hW iX12 hX rfl 0 (by decide) (hts (.fieldLink RX12 10 "HighRecipes" "tape" "LHighRecipes$Tape;") (by decide +kernel)) (fun _ h9 => h9) (v := .ref tp) rfl dX12_trim_3 ?_
  refine q_getN hx hb hts hown hA hW iX9 hT rfl 1 (by decide) (va_Nw.use rfl (hA.2.2.2.1 ("HighRecipes", 49, "HighRecipes$Tape", "length", "I", "HighRecipes") (by decide +kernel))) (fun _ h9 => h9) (v := .int (nI L)) rfl dX12_trim_6 ?_
  refine q_cv (va_runS (As := [.int y, .int 0, .int (nI L)]) (rest := []) ⟨hx, hb, hml, hown, hts⟩ (kX12_requireWithin l E f n y 0 (nI L) (by assumption)) (va_cwS 3 hts gX12_trim_X12_requireWithin rfl rfl rfl (by decide +kernel) ⟨(Nat.le_of_ble_eq_true rfl), (Nat.le_of_ble_eq_true rfl)⟩) (q_pS hA hW hS) rfl rfl hl.1 rfl (lv_room (Nat.le_of_ble_eq_true rfl)) dX12_trim_9 ⟨Nat.le_of_ble_eq_true rfl, Nat.le_of_ble_eq_true rfl⟩) hS (fun f_9 n_9 H locs hp hW hS => ?_)
  obtain ⟨rfl, rfl⟩ := hp
  have hW : q_W E (f) n H := hW
  refine lv_aload_n hx hb dX12_trim_12 rfl (lv_at hl 0 rfl) ?_
  refine q_get hx hb hts hown hA hW iX12 hX rfl 0 (by decide) (hts (.fieldLink RX12 10 "HighRecipes" "tape" "LHighRecipes$Tape;") (by decide +kernel)) (fun _ h9 => h9) (v := .ref tp) rfl dX12_trim_13 ?_
  refine lv_iload_n hx hb dX12_trim_16 rfl (lv_at hl 1 rfl) ?_
  refine q_putN hx hb hts hown hA hW hS iX9 tyX9 tyX9_ok nmX9 hT rfl 1 (by decide) (va_Nw.use rfl (hA.2.2.2.1 ("HighRecipes", 49, "HighRecipes$Tape", "length", "I", "HighRecipes") (by decide +kernel))) (fun _ h9 => h9) rfl rfl rfl (Nat.le_of_ble_eq_true rfl) dX12_trim_17 (fun H locs hW hS => ?_)
  have hW : q_W E (va_up f tp (some (cTape tp y))) n H := hW
  refine lv_iload_n hx hb dX12_trim_20 rfl (lv_at hl 1 rfl) ?_
  exact q_iret hx hb hr hlocks hW hS ⟨rfl, rfl, rfl⟩ (Nat.le_of_ble_eq_true rfl) (Nat.le_of_ble_eq_true rfl) dX12_trim_21

set_option maxHeartbeats 4000000 in
set_option maxRecDepth 100000 in
theorem kX12_meanHeat (l : Launch) (E : q_E) (f : q_H) (n : Nat) (x tp pr k ck tr tk : Nat) (ep : Int32) (bk : Nat) (hd v : Nat → Int32) (pn rc : Nat) (ac : Int32) (hX : f x = some (rX12 (some tp) (some pr) (some k) (some ck) (some tr) (some tk) ep)) (hB : f bk = some (cBook bk (nI pn) (nI rc) ac)) (hk : KIT E f k bk hd v) (hbo : kOut k bk) (hxo : kOut k x) (hpn : pn ≤ 8) (hrc : rc ≤ 6) : Met l yX12_meanHeat wsX12_meanHeat ({ frames := 1, cells := 0, slots := 0, locals := 21 }) (q_P E [.ref x] f n) (q_Qd E (fun r f1 n1 => z_mean v pn = r ∧ f = f1 ∧ n = n1)) 0 0 (q_ge E) := by
  refine Met.ofW (cc := cX12_meanHeat) (maxL := 5) (ret := (some .double)) (by decide) rfl ?_
  intro p e s m args below meth c s₁ B hml hv
  obtain ⟨rfl, hA, hW⟩ := hv
  have hx := B.exec
  have hb := B.bytes
  have hr := B.returns
  have hts := atoms_spec (ws := wsX12_meanHeat) B.pre
  have hown : s.vm.findClass RX12 = some m.cls := findClass_of_methodNamed B.named
  have hlocks := B.notSynchronized
  have hS : va_S (q_ge E) s.heap s.heap [] := va_S.rf
  have iX12 : ∀ w ∈ wsX120, w ∈ wsX12_meanHeat := by decide +kernel
  have iX2 : ∀ w ∈ wsX20, w ∈ wsX12_meanHeat := by decide +kernel
  have iX6 : ∀ w ∈ wsX60, w ∈ wsX12_meanHeat := by decide +kernel
  have iX7 : ∀ w ∈ wsX70, w ∈ wsX12_meanHeat := by decide +kernel
  have hl := lv_entry ([.ref x]) (n := 5) (Nat.le_of_ble_eq_true rfl)
  rw [lg_entry_eq]
  generalize (lg_sl ([.ref x]) ++ List.replicate (5 - (lg_sl ([.ref x])).length) Slot.unset).toArray = ls at hl ⊢
  have hl : lv_has ls 5 [(0, .ref x)] := hl
  rw [hk.eq] at hW
  refine lv_aload_n hx hb dX12_meanHeat_0 rfl (lv_at hl 0 rfl) ?_
  refine q_get hx hb hts hown hA hW iX12 ((kO_out hxo).trans hX) rfl 2 (by decide) (hts (.fieldLink RX12 26 "HighRecipes" "kitchen" "LHighRecipes$Kitchen;") (by decide +kernel)) (fun _ h9 => h9) (v := .ref k) rfl dX12_meanHeat_1 ?_
  refine q_getN hx hb hts hown hA hW iX6 kO_0 rfl 4 (by decide) (va_Nw.use rfl (hA.2.2.2.1 ("HighRecipes", 82, "HighRecipes$Kitchen", "book", "LHighRecipes$Book;", "HighRecipes") (by decide +kernel))) (fun _ h9 => h9) (v := .ref bk) rfl dX12_meanHeat_4 ?_
  refine q_getN hx hb hts hown hA hW iX2 ((kO_out hbo).trans hB) rfl 4 (by decide) (va_Nw.use rfl (hA.2.2.2.1 ("HighRecipes", 83, "HighRecipes$Book", "panCount", "I", "HighRecipes") (by decide +kernel))) (fun _ h9 => h9) (v := .int (nI pn)) rfl dX12_meanHeat_7 ?_
  refine lv_istore_n (lv' := [(1, .int (nI pn)), (0, .ref x)]) hx hb dX12_meanHeat_10 rfl hl (by decide) rfl (fun ls hl => ?_)
  refine lv_iload_n hx hb dX12_meanHeat_11 rfl (lv_at hl 0 rfl) ?_
  refine lv_if_ne (tgt := 17) hx hb dX12_meanHeat_12 (by decide) (fun c_12 => ?_) (fun c_12 => ?_)
  · have h0 : ¬ pn = 0 := fun h9 => c_12 (by rw [h9]; rfl)
    refine lv_iconst (v := 0) hx hb dX12_meanHeat_17 (by decide) ?_
    refine lv_istore_n (lv' := [(2, .int 0), (1, .int (nI pn)), (0, .ref x)]) hx hb dX12_meanHeat_18 rfl hl (by decide) rfl (fun ls hl => ?_)
    refine lv_iconst (v := 0) hx hb dX12_meanHeat_19 (by decide) ?_
    refine lv_istore_n (lv' := [(3, .int 0), (2, .int 0), (1, .int (nI pn)), (0, .ref x)]) hx hb dX12_meanHeat_20 rfl hl (by decide) rfl (fun ls hl => ?_)
    have K21 : ∀ (fu : Nat) (j : Nat) (hj : j ≤ pn) (hm : pn - j < fu) (H : Heap) (locs : List Loc) (ls : Array Slot), q_W E (kO E f k bk hd v) n H → va_S (q_ge E) s.heap H locs → lv_has ls 5 [(0, .ref x), (1, .int (nI pn)), (2, .int (z_sum v j)), (3, .int (nI j))] → W p l e (headSpec wsX12_meanHeat ({ frames := 1, cells := 0, slots := 0, locals := 21 })).room s m ([.ref x] : List Value).toArray below meth c H locs 0 0 (MQ below (q_Qd E (fun r f1 n1 => z_mean v pn = r ∧ f = f1 ∧ n = n1)) ([.ref x] : List Value).toArray s 0 0 (q_ge E)) (F0 m 21 ls []) := by
      intro fu
      induction fu with
      | zero =>
        intro j hj hm
        exact absurd hm (Nat.not_lt_zero _)
      | succ fu ih =>
        intro j hj hm H locs ls hW hS hl
        refine lv_iload_n hx hb dX12_meanHeat_21 rfl (lv_at hl 3 rfl) ?_
        refine lv_iload_n hx hb dX12_meanHeat_22 rfl (lv_at hl 1 rfl) ?_
        refine lv_icmp_ge (tgt := 59) hx hb dX12_meanHeat_23 (by decide) (fun c_23 => ?_) (fun c_23 => ?_)
        · have ej : j = pn := by rcases Nat.lt_or_ge j pn with h9 | h9; exact absurd c_23 (nI_ge h9 (by omega)); omega
          subst ej
          refine lv_iload_n hx hb dX12_meanHeat_59 rfl (lv_at hl 2 rfl) ?_
          refine lv_i2d hx hb dX12_meanHeat_60 ?_
          refine lv_iload_n hx hb dX12_meanHeat_61 rfl (lv_at hl 1 rfl) ?_
          refine lv_i2d hx hb dX12_meanHeat_62 ?_
          refine lv_ddiv hx hb dX12_meanHeat_63 (z_nn (fun h9 => h0 ((nI_eq (b := 0) (by omega) (by decide)).1 h9))) ?_
          exact q_dret hx hb hr hlocks hW hS ⟨(if_neg h0), hk.eq, rfl⟩ (Nat.le_of_ble_eq_true rfl) (Nat.le_of_ble_eq_true rfl) dX12_meanHeat_64
        · have hlt : j < pn := by rcases Nat.lt_or_ge j pn with h9 | h9; exact h9; exact absurd (nI_le h9 (by omega)) c_23
          refine lv_aload_n hx hb dX12_meanHeat_26 rfl (lv_at hl 0 rfl) ?_
          refine q_get hx hb hts hown hA hW iX12 ((kO_out hxo).trans hX) rfl 2 (by decide) (hts (.fieldLink RX12 26 "HighRecipes" "kitchen" "LHighRecipes$Kitchen;") (by decide +kernel)) (fun _ h9 => h9) (v := .ref k) rfl dX12_meanHeat_27 ?_
          refine lv_iload_n hx hb dX12_meanHeat_30 rfl (lv_at hl 3 rfl) ?_
          refine q_cq (va_runV (As := [.int (nI j)]) (rest := []) ⟨hx, hb, hml, hown, hts⟩ (kX6_panAt l E (kO E f k bk hd v) n k bk hd v pn (nI rc) ac j ((kO_out hbo).trans hB) kO_K (by assumption) (by assumption) hlt) (cwV 1 hts gX12_meanHeat_X6_panAt rfl rfl rfl (by decide +kernel) ⟨(Nat.le_of_ble_eq_true rfl), (Nat.le_of_ble_eq_true rfl)⟩) (q_pV hA hW hS (ci := 6) rfl kO_0) rfl rfl hl.1 rfl (lv_room (Nat.le_of_ble_eq_true rfl)) dX12_meanHeat_31 ⟨Nat.le_of_ble_eq_true rfl, Nat.le_of_ble_eq_true rfl⟩) hS (fun r_31 f_31 n_31 H locs hp hW hS => ?_)
          obtain ⟨rfl, rfl, rfl⟩ := hp
          have hW : q_W E (kO E f k bk hd v) n H := hW
          refine lv_astore (lv' := [(4, .ref (k + 12 + j)), (0, .ref x), (1, .int (nI pn)), (2, .int (z_sum v j)), (3, .int (nI j))]) hx hb dX12_meanHeat_34 hl (by decide) rfl (fun ls hl => ?_)
          refine lv_iload_n hx hb dX12_meanHeat_36 rfl (lv_at hl 3 rfl) ?_
          refine lv_aload hx hb dX12_meanHeat_37 (lv_at hl 0 rfl) ?_
          refine lv_ifnonnull (tgt := 46) hx hb dX12_meanHeat_39 (by decide) ?_
          refine lv_aload hx hb dX12_meanHeat_46 (lv_at hl 0 rfl) ?_
          refine q_getN hx hb hts hown hA hW iX7 (kO_p (q_8 hlt hpn)) rfl 3 (by decide) (va_Nw.use rfl (hA.2.2.2.1 ("HighRecipes", 124, "HighRecipes$Pan", "heat", "I", "HighRecipes") (by decide +kernel))) (fun _ h9 => h9) (v := .int (v (54 + 4 * j))) rfl dX12_meanHeat_48 ?_
          refine lv_iadd hx hb dX12_meanHeat_51 ?_
          refine lv_istore_n (lv' := [(2, .int (z_sum v (j + 1))), (4, .ref (k + 12 + j)), (0, .ref x), (1, .int (nI pn)), (3, .int (nI j))]) hx hb dX12_meanHeat_52 rfl hl (by decide) rfl (fun ls hl => ?_)
          refine lv_iinc (v := nI (j + 1)) (lv' := [(3, .int (nI (j + 1))), (2, .int (z_sum v (j + 1))), (4, .ref (k + 12 + j)), (0, .ref x), (1, .int (nI pn))]) hx hb dX12_meanHeat_53 hl (k := 4) rfl (nI_1 j) (by decide) rfl (fun ls hl => ?_)
          refine lv_goto (tgt := 21) hx hb dX12_meanHeat_56 (by decide) ?_
          exact ih (j + 1) hlt (by omega) _ _ _ hW hS (lv_sub hl [3, 4, 1, 0] rfl)
    exact K21 _ 0 (Nat.zero_le _) (Nat.lt_succ_self _) _ _ _ hW hS (lv_sub hl [3, 2, 1, 0] rfl)
  · have h0 : pn = 0 := (nI_eq (b := 0) (by omega) (by decide)).1 c_12
    refine lv_dconst0 hx hb dX12_meanHeat_15 ?_
    exact q_dret hx hb hr hlocks hW hS ⟨(if_pos h0), hk.eq, rfl⟩ (Nat.le_of_ble_eq_true rfl) (Nat.le_of_ble_eq_true rfl) dX12_meanHeat_16

set_option maxHeartbeats 4000000 in
set_option maxRecDepth 100000 in
theorem kX12_mixed (l : Launch) (E : q_E) (f : q_H) (n : Nat) (d : Int64) (y : Int32)  : Met l yX12_mixed wsX12_mixed ({ frames := 0, cells := 0, slots := 0, locals := 0 }) (q_P E [.long d, .int y] f n) (q_Ql E (fun r f1 n1 => z_mx d y = r ∧ f = f1 ∧ n = n1)) 0 0 (q_ge E) := by
  refine Met.ofW (cc := cX12_mixed) (maxL := 3) (ret := (some .long)) (by decide) rfl ?_
  intro p e s m args below meth c s₁ B hml hv
  obtain ⟨rfl, hA, hW⟩ := hv
  have hx := B.exec
  have hb := B.bytes
  have hr := B.returns
  have hts := atoms_spec (ws := wsX12_mixed) B.pre
  have hown : s.vm.findClass RX12 = some m.cls := findClass_of_methodNamed B.named
  have hlocks := B.notSynchronized
  have hS : va_S (q_ge E) s.heap s.heap [] := va_S.rf
  have hl := lv_entry ([.long d, .int y]) (n := 3) (Nat.le_of_ble_eq_true rfl)
  rw [lg_entry_eq]
  generalize (lg_sl ([.long d, .int y]) ++ List.replicate (3 - (lg_sl ([.long d, .int y])).length) Slot.unset).toArray = ls at hl ⊢
  have hl : lv_has ls 3 [(0, .long d), (2, .int y)] := hl
  refine lv_lload_n hx hb dX12_mixed_0 rfl (lv_at hl 0 rfl) ?_
  refine lv_ldc2 hx hb hown (hts (.constantLong RX12 218 (31)) (by decide +kernel)) dX12_mixed_1 ?_
  refine lv_lmul hx hb dX12_mixed_4 ?_
  refine lv_iload_n hx hb dX12_mixed_5 rfl (lv_at hl 1 rfl) ?_
  refine lv_i2l hx hb dX12_mixed_6 rfl ?_
  refine lv_ladd hx hb dX12_mixed_7 ?_
  exact q_lret hx hb hr hlocks hW hS ⟨rfl, rfl, rfl⟩ (Nat.le_of_ble_eq_true rfl) (Nat.le_of_ble_eq_true rfl) dX12_mixed_8

set_option maxHeartbeats 4000000 in
set_option maxRecDepth 100000 in
theorem kX12_mixedWithPan (l : Launch) (E : q_E) (f : q_H) (n : Nat) (d : Int64) (a : Nat) (h w ml t0 dn : Int32) (h0 : f a = some (cPan h w ml t0 dn)) : Met l yX12_mixedWithPan wsX12_mixedWithPan ({ frames := 1, cells := 0, slots := 0, locals := 22 }) (q_P E [.long d, .ref a] f n) (q_Ql E (fun r f1 n1 => z_mx (z_mx (z_mx (z_mx (z_mx d h) w) ml) t0) dn = r ∧ f = f1 ∧ n = n1)) 0 0 (q_ge E) := by
  refine Met.ofW (cc := cX12_mixedWithPan) (maxL := 5) (ret := (some .long)) (by decide) rfl ?_
  intro p e s m args below meth c s₁ B hml hv
  obtain ⟨rfl, hA, hW⟩ := hv
  have hx := B.exec
  have hb := B.bytes
  have hr := B.returns
  have hts := atoms_spec (ws := wsX12_mixedWithPan) B.pre
  have hown : s.vm.findClass RX12 = some m.cls := findClass_of_methodNamed B.named
  have hlocks := B.notSynchronized
  have hS : va_S (q_ge E) s.heap s.heap [] := va_S.rf
  have iX7 : ∀ w ∈ wsX70, w ∈ wsX12_mixedWithPan := by decide +kernel
  have hl := lv_entry ([.long d, .ref a]) (n := 5) (Nat.le_of_ble_eq_true rfl)
  rw [lg_entry_eq]
  generalize (lg_sl ([.long d, .ref a]) ++ List.replicate (5 - (lg_sl ([.long d, .ref a])).length) Slot.unset).toArray = ls at hl ⊢
  have hl : lv_has ls 5 [(0, .long d), (2, .ref a)] := hl
  refine lv_aload_n hx hb dX12_mixedWithPan_0 rfl (lv_at hl 1 rfl) ?_
  refine lv_ifnonnull (tgt := 6) hx hb dX12_mixedWithPan_1 (by decide) ?_
  refine lv_lload_n hx hb dX12_mixedWithPan_6 rfl (lv_at hl 0 rfl) ?_
  refine lv_aload_n hx hb dX12_mixedWithPan_7 rfl (lv_at hl 1 rfl) ?_
  refine q_getN hx hb hts hown hA hW iX7 h0 rfl 0 (by decide) (va_Nw.use rfl (hA.2.2.2.1 ("HighRecipes", 113, "HighRecipes$Pan", "holds", "I", "HighRecipes") (by decide +kernel))) (fun _ h9 => h9) (v := .int h) rfl dX12_mixedWithPan_8 ?_
  refine q_cl (va_runS (As := [.long d, .int h]) (rest := []) ⟨hx, hb, hml, hown, hts⟩ (kX12_mixed l E f n d h) (va_cwS 2 hts gX12_mixedWithPan_X12_mixed rfl rfl rfl (by decide +kernel) ⟨(Nat.le_of_ble_eq_true rfl), (Nat.le_of_ble_eq_true rfl)⟩) (q_pS hA hW hS) rfl rfl hl.1 rfl (lv_room (Nat.le_of_ble_eq_true rfl)) dX12_mixedWithPan_11 ⟨Nat.le_of_ble_eq_true rfl, Nat.le_of_ble_eq_true rfl⟩) hS (fun r_11 f_11 n_11 H locs hp hW hS => ?_)
  obtain ⟨rfl, rfl, rfl⟩ := hp
  have hW : q_W E (f) n H := hW
  refine lv_lstore_n (lv' := [(3, .long (z_mx d h)), (0, .long d), (2, .ref a)]) hx hb dX12_mixedWithPan_14 rfl hl (by decide) rfl (fun ls hl => ?_)
  refine lv_lload_n hx hb dX12_mixedWithPan_15 rfl (lv_at hl 0 rfl) ?_
  refine lv_aload_n hx hb dX12_mixedWithPan_16 rfl (lv_at hl 2 rfl) ?_
  refine q_getN hx hb hts hown hA hW iX7 h0 rfl 1 (by decide) (va_Nw.use rfl (hA.2.2.2.1 ("HighRecipes", 118, "HighRecipes$Pan", "water", "I", "HighRecipes") (by decide +kernel))) (fun _ h9 => h9) (v := .int w) rfl dX12_mixedWithPan_17 ?_
  refine q_cl (va_runS (As := [.long (z_mx d h), .int w]) (rest := []) ⟨hx, hb, hml, hown, hts⟩ (kX12_mixed l E f n (z_mx d h) w) (va_cwS 2 hts gX12_mixedWithPan_X12_mixed rfl rfl rfl (by decide +kernel) ⟨(Nat.le_of_ble_eq_true rfl), (Nat.le_of_ble_eq_true rfl)⟩) (q_pS hA hW hS) rfl rfl hl.1 rfl (lv_room (Nat.le_of_ble_eq_true rfl)) dX12_mixedWithPan_20 ⟨Nat.le_of_ble_eq_true rfl, Nat.le_of_ble_eq_true rfl⟩) hS (fun r_20 f_20 n_20 H locs hp hW hS => ?_)
  obtain ⟨rfl, rfl, rfl⟩ := hp
  have hW : q_W E (f) n H := hW
  refine lv_lstore_n (lv' := [(3, .long (z_mx (z_mx d h) w)), (0, .long d), (2, .ref a)]) hx hb dX12_mixedWithPan_23 rfl hl (by decide) rfl (fun ls hl => ?_)
  refine lv_lload_n hx hb dX12_mixedWithPan_24 rfl (lv_at hl 0 rfl) ?_
  refine lv_aload_n hx hb dX12_mixedWithPan_25 rfl (lv_at hl 2 rfl) ?_
  refine q_getN hx hb hts hown hA hW iX7 h0 rfl 2 (by decide) (va_Nw.use rfl (hA.2.2.2.1 ("HighRecipes", 121, "HighRecipes$Pan", "meal", "I", "HighRecipes") (by decide +kernel))) (fun _ h9 => h9) (v := .int ml) rfl dX12_mixedWithPan_26 ?_
  refine q_cl (va_runS (As := [.long (z_mx (z_mx d h) w), .int ml]) (rest := []) ⟨hx, hb, hml, hown, hts⟩ (kX12_mixed l E f n (z_mx (z_mx d h) w) ml) (va_cwS 2 hts gX12_mixedWithPan_X12_mixed rfl rfl rfl (by decide +kernel) ⟨(Nat.le_of_ble_eq_true rfl), (Nat.le_of_ble_eq_true rfl)⟩) (q_pS hA hW hS) rfl rfl hl.1 rfl (lv_room (Nat.le_of_ble_eq_true rfl)) dX12_mixedWithPan_29 ⟨Nat.le_of_ble_eq_true rfl, Nat.le_of_ble_eq_true rfl⟩) hS (fun r_29 f_29 n_29 H locs hp hW hS => ?_)
  obtain ⟨rfl, rfl, rfl⟩ := hp
  have hW : q_W E (f) n H := hW
  refine lv_lstore_n (lv' := [(3, .long (z_mx (z_mx (z_mx d h) w) ml)), (0, .long d), (2, .ref a)]) hx hb dX12_mixedWithPan_32 rfl hl (by decide) rfl (fun ls hl => ?_)
  refine lv_lload_n hx hb dX12_mixedWithPan_33 rfl (lv_at hl 0 rfl) ?_
  refine lv_aload_n hx hb dX12_mixedWithPan_34 rfl (lv_at hl 2 rfl) ?_
  refine q_getN hx hb hts hown hA hW iX7 h0 rfl 3 (by decide) (va_Nw.use rfl (hA.2.2.2.1 ("HighRecipes", 124, "HighRecipes$Pan", "heat", "I", "HighRecipes") (by decide +kernel))) (fun _ h9 => h9) (v := .int t0) rfl dX12_mixedWithPan_35 ?_
  refine q_cl (va_runS (As := [.long (z_mx (z_mx (z_mx d h) w) ml), .int t0]) (rest := []) ⟨hx, hb, hml, hown, hts⟩ (kX12_mixed l E f n (z_mx (z_mx (z_mx d h) w) ml) t0) (va_cwS 2 hts gX12_mixedWithPan_X12_mixed rfl rfl rfl (by decide +kernel) ⟨(Nat.le_of_ble_eq_true rfl), (Nat.le_of_ble_eq_true rfl)⟩) (q_pS hA hW hS) rfl rfl hl.1 rfl (lv_room (Nat.le_of_ble_eq_true rfl)) dX12_mixedWithPan_38 ⟨Nat.le_of_ble_eq_true rfl, Nat.le_of_ble_eq_true rfl⟩) hS (fun r_38 f_38 n_38 H locs hp hW hS => ?_)
  obtain ⟨rfl, rfl, rfl⟩ := hp
  have hW : q_W E (f) n H := hW
  refine lv_lstore_n (lv' := [(3, .long (z_mx (z_mx (z_mx (z_mx d h) w) ml) t0)), (0, .long d), (2, .ref a)]) hx hb dX12_mixedWithPan_41 rfl hl (by decide) rfl (fun ls hl => ?_)
  refine lv_lload_n hx hb dX12_mixedWithPan_42 rfl (lv_at hl 0 rfl) ?_
  refine lv_aload_n hx hb dX12_mixedWithPan_43 rfl (lv_at hl 2 rfl) ?_
  refine q_getN hx hb hts hown hA hW iX7 h0 rfl 4 (by decide) (va_Nw.use rfl (hA.2.2.2.1 ("HighRecipes", 127, "HighRecipes$Pan", "done", "I", "HighRecipes") (by decide +kernel))) (fun _ h9 => h9) (v := .int dn) rfl dX12_mixedWithPan_44 ?_
  refine q_cl (va_runS (As := [.long (z_mx (z_mx (z_mx (z_mx d h) w) ml) t0), .int dn]) (rest := []) ⟨hx, hb, hml, hown, hts⟩ (kX12_mixed l E f n (z_mx (z_mx (z_mx (z_mx d h) w) ml) t0) dn) (va_cwS 2 hts gX12_mixedWithPan_X12_mixed rfl rfl rfl (by decide +kernel) ⟨(Nat.le_of_ble_eq_true rfl), (Nat.le_of_ble_eq_true rfl)⟩) (q_pS hA hW hS) rfl rfl hl.1 rfl (lv_room (Nat.le_of_ble_eq_true rfl)) dX12_mixedWithPan_47 ⟨Nat.le_of_ble_eq_true rfl, Nat.le_of_ble_eq_true rfl⟩) hS (fun r_47 f_47 n_47 H locs hp hW hS => ?_)
  obtain ⟨rfl, rfl, rfl⟩ := hp
  have hW : q_W E (f) n H := hW
  exact q_lret hx hb hr hlocks hW hS ⟨rfl, rfl, rfl⟩ (Nat.le_of_ble_eq_true rfl) (Nat.le_of_ble_eq_true rfl) dX12_mixedWithPan_50

set_option maxHeartbeats 4000000 in
set_option maxRecDepth 100000 in
theorem kX12_mixedWithHistory (l : Launch) (E : q_E) (f : q_H) (n : Nat) (h T w9 : Nat) (v : Nat → Int32) (d : Int64) (h0 : f h = some (cHis h (nI T))) (h1 : f (h + 1) = some (aI E 20 (z_row v w9 20))) (hT : T < 2 ^ 30) : Met l yX12_mixedWithHistory wsX12_mixedWithHistory ({ frames := 2, cells := 0, slots := 0, locals := 44 }) (q_P E [.long d, .ref h] f n) (q_Ql E (fun r f1 n1 => z_dgh v T w9 d (min 20 T) = r ∧ f = f1 ∧ n = n1)) 0 0 (q_ge E) := by
  refine Met.ofW (cc := cX12_mixedWithHistory) (maxL := 7) (ret := (some .long)) (by decide) rfl ?_
  intro p e s m args below meth c s₁ B hml hv
  obtain ⟨rfl, hA, hW⟩ := hv
  have hx := B.exec
  have hb := B.bytes
  have hr := B.returns
  have hts := atoms_spec (ws := wsX12_mixedWithHistory) B.pre
  have hown : s.vm.findClass RX12 = some m.cls := findClass_of_methodNamed B.named
  have hlocks := B.notSynchronized
  have hS : va_S (q_ge E) s.heap s.heap [] := va_S.rf
  have hl := lv_entry ([.long d, .ref h]) (n := 7) (Nat.le_of_ble_eq_true rfl)
  rw [lg_entry_eq]
  generalize (lg_sl ([.long d, .ref h]) ++ List.replicate (7 - (lg_sl ([.long d, .ref h])).length) Slot.unset).toArray = ls at hl ⊢
  have hl : lv_has ls 7 [(0, .long d), (2, .ref h)] := hl
  refine lv_lload_n hx hb dX12_mixedWithHistory_0 rfl (lv_at hl 0 rfl) ?_
  refine lv_lstore_n (lv' := [(3, .long d), (0, .long d), (2, .ref h)]) hx hb dX12_mixedWithHistory_1 rfl hl (by decide) rfl (fun ls hl => ?_)
  refine lv_aload_n hx hb dX12_mixedWithHistory_2 rfl (lv_at hl 2 rfl) ?_
  refine q_ci (va_runV (As := []) (rest := []) ⟨hx, hb, hml, hown, hts⟩ (kX4_kept l E f n h (nI T) h0) (cwV 0 hts gX12_mixedWithHistory_X4_kept rfl rfl rfl (by decide +kernel) ⟨(Nat.le_of_ble_eq_true rfl), (Nat.le_of_ble_eq_true rfl)⟩) (q_pV hA hW hS (ci := 5) rfl h0) rfl rfl hl.1 rfl (lv_room (Nat.le_of_ble_eq_true rfl)) dX12_mixedWithHistory_3 ⟨Nat.le_of_ble_eq_true rfl, Nat.le_of_ble_eq_true rfl⟩) hS (fun r_3 f_3 n_3 H locs hp hW hS => ?_)
  obtain ⟨rfl, rfl, rfl⟩ := hp
  have hW : q_W E (f) n H := hW
  rw [q_min20 hT]
  refine lv_istore (lv' := [(5, .int (nI (min T 20))), (3, .long d), (0, .long d), (2, .ref h)]) hx hb dX12_mixedWithHistory_6 hl (by decide) rfl (fun ls hl => ?_)
  refine lv_iconst (v := 0) hx hb dX12_mixedWithHistory_8 (by decide) ?_
  refine lv_istore (lv' := [(6, .int 0), (5, .int (nI (min T 20))), (3, .long d), (0, .long d), (2, .ref h)]) hx hb dX12_mixedWithHistory_9 hl (by decide) rfl (fun ls hl => ?_)
  have K11 : ∀ (fu : Nat) (j : Nat) (hj : j ≤ min T 20) (hm : min T 20 - j < fu) (H : Heap) (locs : List Loc) (ls : Array Slot), q_W E (f) n H → va_S (q_ge E) s.heap H locs → lv_has ls 7 [(0, .long d), (2, .ref h), (3, .long (z_dgh v T w9 d j)), (5, .int (nI (min T 20))), (6, .int (nI j))] → W p l e (headSpec wsX12_mixedWithHistory ({ frames := 2, cells := 0, slots := 0, locals := 44 })).room s m ([.long d, .ref h] : List Value).toArray below meth c H locs 0 0 (MQ below (q_Ql E (fun r f1 n1 => z_dgh v T w9 d (min 20 T) = r ∧ f = f1 ∧ n = n1)) ([.long d, .ref h] : List Value).toArray s 0 0 (q_ge E)) (F0 m 11 ls []) := by
    intro fu
    induction fu with
    | zero =>
      intro j hj hm
      exact absurd hm (Nat.not_lt_zero _)
    | succ fu ih =>
      intro j hj hm H locs ls hW hS hl
      refine lv_iload hx hb dX12_mixedWithHistory_11 (lv_at hl 4 rfl) ?_
      refine lv_iload hx hb dX12_mixedWithHistory_13 (lv_at hl 3 rfl) ?_
      refine lv_icmp_ge (tgt := 35) hx hb dX12_mixedWithHistory_15 (by decide) (fun c_15 => ?_) (fun c_15 => ?_)
      · have ej : j = min T 20 := by rcases Nat.lt_or_ge j (min T 20) with h9 | h9; exact absurd c_15 (nI_ge h9 (by omega)); omega
        refine lv_lload_n hx hb dX12_mixedWithHistory_35 rfl (lv_at hl 2 rfl) ?_
        exact q_lret hx hb hr hlocks hW hS ⟨(by rw [ej, Nat.min_comm]), rfl, rfl⟩ (Nat.le_of_ble_eq_true rfl) (Nat.le_of_ble_eq_true rfl) dX12_mixedWithHistory_36
      · have hlt : j < (min T 20) := by rcases Nat.lt_or_ge j (min T 20) with h9 | h9; exact h9; exact absurd (nI_le h9 (by omega)) c_15
        refine lv_lload_n hx hb dX12_mixedWithHistory_18 rfl (lv_at hl 2 rfl) ?_
        refine lv_aload_n hx hb dX12_mixedWithHistory_19 rfl (lv_at hl 1 rfl) ?_
        refine lv_iload hx hb dX12_mixedWithHistory_20 (lv_at hl 4 rfl) ?_
        refine q_ci (va_runV (As := [.int (nI j)]) (rest := [.long (z_dgh v T w9 d j)]) ⟨hx, hb, hml, hown, hts⟩ (kX4_recall l E f n h T (T - 1 - j) (z_row v w9 20) (nI j) h0 h1 (his_at (by omega) hT) (by omega)) (cwV 1 hts gX12_mixedWithHistory_X4_recall rfl rfl rfl (by decide +kernel) ⟨(Nat.le_of_ble_eq_true rfl), (Nat.le_of_ble_eq_true rfl)⟩) (q_pV hA hW hS (ci := 5) rfl h0) rfl rfl hl.1 rfl (lv_room (Nat.le_of_ble_eq_true rfl)) dX12_mixedWithHistory_22 ⟨Nat.le_of_ble_eq_true rfl, Nat.le_of_ble_eq_true rfl⟩) hS (fun r_22 f_22 n_22 H locs hp hW hS => ?_)
        obtain ⟨rfl, rfl, rfl⟩ := hp
        have hW : q_W E (f) n H := hW
        rw [z_row_at (v := v) (b := w9) (show (T - 1 - j) % 20 < 20 from Nat.mod_lt _ (by decide))]
        refine q_cl (va_runS (As := [.long (z_dgh v T w9 d j), .int (v (w9 + (T - 1 - j) % 20))]) (rest := []) ⟨hx, hb, hml, hown, hts⟩ (kX12_mixed l E f n (z_dgh v T w9 d j) (v (w9 + (T - 1 - j) % 20))) (va_cwS 2 hts gX12_mixedWithHistory_X12_mixed rfl rfl rfl (by decide +kernel) ⟨(Nat.le_of_ble_eq_true rfl), (Nat.le_of_ble_eq_true rfl)⟩) (q_pS hA hW hS) rfl rfl hl.1 rfl (lv_room (Nat.le_of_ble_eq_true rfl)) dX12_mixedWithHistory_25 ⟨Nat.le_of_ble_eq_true rfl, Nat.le_of_ble_eq_true rfl⟩) hS (fun r_25 f_25 n_25 H locs hp hW hS => ?_)
        obtain ⟨rfl, rfl, rfl⟩ := hp
        have hW : q_W E (f) n H := hW
        refine lv_lstore_n (lv' := [(3, .long (z_dgh v T w9 d (j + 1))), (0, .long d), (2, .ref h), (5, .int (nI (min T 20))), (6, .int (nI j))]) hx hb dX12_mixedWithHistory_28 rfl hl (by decide) rfl (fun ls hl => ?_)
        refine lv_iinc (v := nI (j + 1)) (lv' := [(6, .int (nI (j + 1))), (3, .long (z_dgh v T w9 d (j + 1))), (0, .long d), (2, .ref h), (5, .int (nI (min T 20)))]) hx hb dX12_mixedWithHistory_29 hl (k := 4) rfl (nI_1 j) (by decide) rfl (fun ls hl => ?_)
        refine lv_goto (tgt := 11) hx hb dX12_mixedWithHistory_32 (by decide) ?_
        exact ih (j + 1) hlt (by omega) _ _ _ hW hS (lv_sub hl [2, 3, 1, 4, 0] rfl)
  exact K11 _ 0 (Nat.zero_le _) (Nat.lt_succ_self _) _ _ _ hW hS (lv_sub hl [3, 4, 2, 1, 0] rfl)

def z_dk (v : q_V) (d : Int64) : Nat → Int64
  | 0 => d
  | j + 1 => z_mx (z_dk v d j) (v (7 + j))
theorem z_dg_eq {a b c : Int32} {v : q_V} : z_dk v (z_mx (z_mx (z_mx (z_mx (z_mx (z_mx (z_mx (z_mx (z_mx 1913 a) b) c) (v 0)) (v 1)) (v 2)) (v 3)) (v 4)) (v 5)) 5 = z_dg0 a b c v := rfl

set_option maxHeartbeats 4000000 in
set_option maxRecDepth 100000 in
theorem kX12_digest (l : Launch) (E : q_E) (f : q_H) (n : Nat) (x tp pr k ck tr tk : Nat) (ep : Int32) (bk : Nat) (hd v : Nat → Int32) (pn rc : Nat) (ac : Int32) (tw tn : Nat) (hX : f x = some (rX12 (some tp) (some pr) (some k) (some ck) (some tr) (some tk) ep)) (hB : f bk = some (cBook bk (nI pn) (nI rc) ac)) (hk : KIT E f k bk hd v) (hbo : kOut k bk) (hxo : kOut k x) (hpn : pn ≤ 8) (hrc : rc ≤ 6) (h4 : v 4 = nI tw) (h5 : v 5 = nI tn) (ht4 : tw < 2 ^ 30) (ht5 : tn < 2 ^ 30) : Met l yX12_digest wsX12_digest ({ frames := 3, cells := 0, slots := 0, locals := 70 }) (q_P E [.ref x] f n) (q_Ql E (fun r f1 n1 => z_dig pn (nI rc) ac hd v tw tn = r ∧ f = f1 ∧ n = n1)) 0 0 (q_ge E) := by
  refine Met.ofW (cc := cX12_digest) (maxL := 4) (ret := (some .long)) (by decide) rfl ?_
  intro p e s m args below meth c s₁ B hml hv
  obtain ⟨rfl, hA, hW⟩ := hv
  have hx := B.exec
  have hb := B.bytes
  have hr := B.returns
  have hts := atoms_spec (ws := wsX12_digest) B.pre
  have hown : s.vm.findClass RX12 = some m.cls := findClass_of_methodNamed B.named
  have hlocks := B.notSynchronized
  have hS : va_S (q_ge E) s.heap s.heap [] := va_S.rf
  have iX12 : ∀ w ∈ wsX120, w ∈ wsX12_digest := by decide +kernel
  have iX2 : ∀ w ∈ wsX20, w ∈ wsX12_digest := by decide +kernel
  have iX4 : ∀ w ∈ wsX40, w ∈ wsX12_digest := by decide +kernel
  have iX6 : ∀ w ∈ wsX60, w ∈ wsX12_digest := by decide +kernel
  have hl := lv_entry ([.ref x]) (n := 4) (Nat.le_of_ble_eq_true rfl)
  rw [lg_entry_eq]
  generalize (lg_sl ([.ref x]) ++ List.replicate (4 - (lg_sl ([.ref x])).length) Slot.unset).toArray = ls at hl ⊢
  have hl : lv_has ls 4 [(0, .ref x)] := hl
  rw [hk.eq] at hW
  refine lv_ldc2 hx hb hown (hts (.constantLong RX12 204 (1913)) (by decide +kernel)) dX12_digest_0 ?_
  refine lv_lstore_n (lv' := [(1, .long 1913), (0, .ref x)]) hx hb dX12_digest_3 rfl hl (by decide) rfl (fun ls hl => ?_)
  refine lv_lload_n hx hb dX12_digest_4 rfl (lv_at hl 0 rfl) ?_
  refine lv_aload_n hx hb dX12_digest_5 rfl (lv_at hl 1 rfl) ?_
  refine q_get hx hb hts hown hA hW iX12 ((kO_out hxo).trans hX) rfl 2 (by decide) (hts (.fieldLink RX12 26 "HighRecipes" "kitchen" "LHighRecipes$Kitchen;") (by decide +kernel)) (fun _ h9 => h9) (v := .ref k) rfl dX12_digest_6 ?_
  refine q_getN hx hb hts hown hA hW iX6 kO_0 rfl 4 (by decide) (va_Nw.use rfl (hA.2.2.2.1 ("HighRecipes", 82, "HighRecipes$Kitchen", "book", "LHighRecipes$Book;", "HighRecipes") (by decide +kernel))) (fun _ h9 => h9) (v := .ref bk) rfl dX12_digest_9 ?_
  refine q_getN hx hb hts hown hA hW iX2 ((kO_out hbo).trans hB) rfl 4 (by decide) (va_Nw.use rfl (hA.2.2.2.1 ("HighRecipes", 83, "HighRecipes$Book", "panCount", "I", "HighRecipes") (by decide +kernel))) (fun _ h9 => h9) (v := .int (nI pn)) rfl dX12_digest_12 ?_
  refine q_cl (va_runS (As := [.long 1913, .int (nI pn)]) (rest := []) ⟨hx, hb, hml, hown, hts⟩ (kX12_mixed l E (kO E f k bk hd v) n 1913 (nI pn)) (va_cwS 2 hts gX12_digest_X12_mixed rfl rfl rfl (by decide +kernel) ⟨(Nat.le_of_ble_eq_true rfl), (Nat.le_of_ble_eq_true rfl)⟩) (q_pS hA hW hS) rfl rfl hl.1 rfl (lv_room (Nat.le_of_ble_eq_true rfl)) dX12_digest_15 ⟨Nat.le_of_ble_eq_true rfl, Nat.le_of_ble_eq_true rfl⟩) hS (fun r_15 f_15 n_15 H locs hp hW hS => ?_)
  obtain ⟨rfl, rfl, rfl⟩ := hp
  have hW : q_W E (kO E f k bk hd v) n H := hW
  refine lv_lstore_n (lv' := [(1, .long (z_mx 1913 (nI pn))), (0, .ref x)]) hx hb dX12_digest_18 rfl hl (by decide) rfl (fun ls hl => ?_)
  refine lv_lload_n hx hb dX12_digest_19 rfl (lv_at hl 0 rfl) ?_
  refine lv_aload_n hx hb dX12_digest_20 rfl (lv_at hl 1 rfl) ?_
  refine q_get hx hb hts hown hA hW iX12 ((kO_out hxo).trans hX) rfl 2 (by decide) (hts (.fieldLink RX12 26 "HighRecipes" "kitchen" "LHighRecipes$Kitchen;") (by decide +kernel)) (fun _ h9 => h9) (v := .ref k) rfl dX12_digest_21 ?_
  refine q_getN hx hb hts hown hA hW iX6 kO_0 rfl 4 (by decide) (va_Nw.use rfl (hA.2.2.2.1 ("HighRecipes", 82, "HighRecipes$Kitchen", "book", "LHighRecipes$Book;", "HighRecipes") (by decide +kernel))) (fun _ h9 => h9) (v := .ref bk) rfl dX12_digest_24 ?_
  refine q_getN hx hb hts hown hA hW iX2 ((kO_out hbo).trans hB) rfl 5 (by decide) (va_Nw.use rfl (hA.2.2.2.1 ("HighRecipes", 88, "HighRecipes$Book", "recipeCount", "I", "HighRecipes") (by decide +kernel))) (fun _ h9 => h9) (v := .int (nI rc)) rfl dX12_digest_27 ?_
  refine q_cl (va_runS (As := [.long (z_mx 1913 (nI pn)), .int (nI rc)]) (rest := []) ⟨hx, hb, hml, hown, hts⟩ (kX12_mixed l E (kO E f k bk hd v) n (z_mx 1913 (nI pn)) (nI rc)) (va_cwS 2 hts gX12_digest_X12_mixed rfl rfl rfl (by decide +kernel) ⟨(Nat.le_of_ble_eq_true rfl), (Nat.le_of_ble_eq_true rfl)⟩) (q_pS hA hW hS) rfl rfl hl.1 rfl (lv_room (Nat.le_of_ble_eq_true rfl)) dX12_digest_30 ⟨Nat.le_of_ble_eq_true rfl, Nat.le_of_ble_eq_true rfl⟩) hS (fun r_30 f_30 n_30 H locs hp hW hS => ?_)
  obtain ⟨rfl, rfl, rfl⟩ := hp
  have hW : q_W E (kO E f k bk hd v) n H := hW
  refine lv_lstore_n (lv' := [(1, .long (z_mx (z_mx 1913 (nI pn)) (nI rc))), (0, .ref x)]) hx hb dX12_digest_33 rfl hl (by decide) rfl (fun ls hl => ?_)
  refine lv_lload_n hx hb dX12_digest_34 rfl (lv_at hl 0 rfl) ?_
  refine lv_aload_n hx hb dX12_digest_35 rfl (lv_at hl 1 rfl) ?_
  refine q_get hx hb hts hown hA hW iX12 ((kO_out hxo).trans hX) rfl 2 (by decide) (hts (.fieldLink RX12 26 "HighRecipes" "kitchen" "LHighRecipes$Kitchen;") (by decide +kernel)) (fun _ h9 => h9) (v := .ref k) rfl dX12_digest_36 ?_
  refine q_getN hx hb hts hown hA hW iX6 kO_0 rfl 4 (by decide) (va_Nw.use rfl (hA.2.2.2.1 ("HighRecipes", 82, "HighRecipes$Kitchen", "book", "LHighRecipes$Book;", "HighRecipes") (by decide +kernel))) (fun _ h9 => h9) (v := .ref bk) rfl dX12_digest_39 ?_
  refine q_getN hx hb hts hown hA hW iX2 ((kO_out hbo).trans hB) rfl 6 (by decide) (va_Nw.use rfl (hA.2.2.2.1 ("HighRecipes", 91, "HighRecipes$Book", "actCount", "I", "HighRecipes") (by decide +kernel))) (fun _ h9 => h9) (v := .int ac) rfl dX12_digest_42 ?_
  refine q_cl (va_runS (As := [.long (z_mx (z_mx 1913 (nI pn)) (nI rc)), .int ac]) (rest := []) ⟨hx, hb, hml, hown, hts⟩ (kX12_mixed l E (kO E f k bk hd v) n (z_mx (z_mx 1913 (nI pn)) (nI rc)) ac) (va_cwS 2 hts gX12_digest_X12_mixed rfl rfl rfl (by decide +kernel) ⟨(Nat.le_of_ble_eq_true rfl), (Nat.le_of_ble_eq_true rfl)⟩) (q_pS hA hW hS) rfl rfl hl.1 rfl (lv_room (Nat.le_of_ble_eq_true rfl)) dX12_digest_45 ⟨Nat.le_of_ble_eq_true rfl, Nat.le_of_ble_eq_true rfl⟩) hS (fun r_45 f_45 n_45 H locs hp hW hS => ?_)
  obtain ⟨rfl, rfl, rfl⟩ := hp
  have hW : q_W E (kO E f k bk hd v) n H := hW
  refine lv_lstore_n (lv' := [(1, .long (z_mx (z_mx (z_mx 1913 (nI pn)) (nI rc)) ac)), (0, .ref x)]) hx hb dX12_digest_48 rfl hl (by decide) rfl (fun ls hl => ?_)
  refine lv_lload_n hx hb dX12_digest_49 rfl (lv_at hl 0 rfl) ?_
  refine lv_aload_n hx hb dX12_digest_50 rfl (lv_at hl 1 rfl) ?_
  refine q_get hx hb hts hown hA hW iX12 ((kO_out hxo).trans hX) rfl 2 (by decide) (hts (.fieldLink RX12 26 "HighRecipes" "kitchen" "LHighRecipes$Kitchen;") (by decide +kernel)) (fun _ h9 => h9) (v := .ref k) rfl dX12_digest_51 ?_
  refine q_getN hx hb hts hown hA hW iX6 kO_0 rfl 5 (by decide) (va_Nw.use rfl (hA.2.2.2.1 ("HighRecipes", 94, "HighRecipes$Kitchen", "altitude", "I", "HighRecipes") (by decide +kernel))) (fun _ h9 => h9) (v := .int (v 0)) rfl dX12_digest_54 ?_
  refine q_cl (va_runS (As := [.long (z_mx (z_mx (z_mx 1913 (nI pn)) (nI rc)) ac), .int (v 0)]) (rest := []) ⟨hx, hb, hml, hown, hts⟩ (kX12_mixed l E (kO E f k bk hd v) n (z_mx (z_mx (z_mx 1913 (nI pn)) (nI rc)) ac) (v 0)) (va_cwS 2 hts gX12_digest_X12_mixed rfl rfl rfl (by decide +kernel) ⟨(Nat.le_of_ble_eq_true rfl), (Nat.le_of_ble_eq_true rfl)⟩) (q_pS hA hW hS) rfl rfl hl.1 rfl (lv_room (Nat.le_of_ble_eq_true rfl)) dX12_digest_57 ⟨Nat.le_of_ble_eq_true rfl, Nat.le_of_ble_eq_true rfl⟩) hS (fun r_57 f_57 n_57 H locs hp hW hS => ?_)
  obtain ⟨rfl, rfl, rfl⟩ := hp
  have hW : q_W E (kO E f k bk hd v) n H := hW
  refine lv_lstore_n (lv' := [(1, .long (z_mx (z_mx (z_mx (z_mx 1913 (nI pn)) (nI rc)) ac) (v 0))), (0, .ref x)]) hx hb dX12_digest_60 rfl hl (by decide) rfl (fun ls hl => ?_)
  refine lv_lload_n hx hb dX12_digest_61 rfl (lv_at hl 0 rfl) ?_
  refine lv_aload_n hx hb dX12_digest_62 rfl (lv_at hl 1 rfl) ?_
  refine q_get hx hb hts hown hA hW iX12 ((kO_out hxo).trans hX) rfl 2 (by decide) (hts (.fieldLink RX12 26 "HighRecipes" "kitchen" "LHighRecipes$Kitchen;") (by decide +kernel)) (fun _ h9 => h9) (v := .ref k) rfl dX12_digest_63 ?_
  refine q_getN hx hb hts hown hA hW iX6 kO_0 rfl 6 (by decide) (va_Nw.use rfl (hA.2.2.2.1 ("HighRecipes", 100, "HighRecipes$Kitchen", "servings", "I", "HighRecipes") (by decide +kernel))) (fun _ h9 => h9) (v := .int (v 1)) rfl dX12_digest_66 ?_
  refine q_cl (va_runS (As := [.long (z_mx (z_mx (z_mx (z_mx 1913 (nI pn)) (nI rc)) ac) (v 0)), .int (v 1)]) (rest := []) ⟨hx, hb, hml, hown, hts⟩ (kX12_mixed l E (kO E f k bk hd v) n (z_mx (z_mx (z_mx (z_mx 1913 (nI pn)) (nI rc)) ac) (v 0)) (v 1)) (va_cwS 2 hts gX12_digest_X12_mixed rfl rfl rfl (by decide +kernel) ⟨(Nat.le_of_ble_eq_true rfl), (Nat.le_of_ble_eq_true rfl)⟩) (q_pS hA hW hS) rfl rfl hl.1 rfl (lv_room (Nat.le_of_ble_eq_true rfl)) dX12_digest_69 ⟨Nat.le_of_ble_eq_true rfl, Nat.le_of_ble_eq_true rfl⟩) hS (fun r_69 f_69 n_69 H locs hp hW hS => ?_)
  obtain ⟨rfl, rfl, rfl⟩ := hp
  have hW : q_W E (kO E f k bk hd v) n H := hW
  refine lv_lstore_n (lv' := [(1, .long (z_mx (z_mx (z_mx (z_mx (z_mx 1913 (nI pn)) (nI rc)) ac) (v 0)) (v 1))), (0, .ref x)]) hx hb dX12_digest_72 rfl hl (by decide) rfl (fun ls hl => ?_)
  refine lv_lload_n hx hb dX12_digest_73 rfl (lv_at hl 0 rfl) ?_
  refine lv_aload_n hx hb dX12_digest_74 rfl (lv_at hl 1 rfl) ?_
  refine q_get hx hb hts hown hA hW iX12 ((kO_out hxo).trans hX) rfl 2 (by decide) (hts (.fieldLink RX12 26 "HighRecipes" "kitchen" "LHighRecipes$Kitchen;") (by decide +kernel)) (fun _ h9 => h9) (v := .ref k) rfl dX12_digest_75 ?_
  refine q_getN hx hb hts hown hA hW iX6 kO_0 rfl 7 (by decide) (va_Nw.use rfl (hA.2.2.2.1 ("HighRecipes", 103, "HighRecipes$Kitchen", "spoon", "I", "HighRecipes") (by decide +kernel))) (fun _ h9 => h9) (v := .int (v 2)) rfl dX12_digest_78 ?_
  refine q_cl (va_runS (As := [.long (z_mx (z_mx (z_mx (z_mx (z_mx 1913 (nI pn)) (nI rc)) ac) (v 0)) (v 1)), .int (v 2)]) (rest := []) ⟨hx, hb, hml, hown, hts⟩ (kX12_mixed l E (kO E f k bk hd v) n (z_mx (z_mx (z_mx (z_mx (z_mx 1913 (nI pn)) (nI rc)) ac) (v 0)) (v 1)) (v 2)) (va_cwS 2 hts gX12_digest_X12_mixed rfl rfl rfl (by decide +kernel) ⟨(Nat.le_of_ble_eq_true rfl), (Nat.le_of_ble_eq_true rfl)⟩) (q_pS hA hW hS) rfl rfl hl.1 rfl (lv_room (Nat.le_of_ble_eq_true rfl)) dX12_digest_81 ⟨Nat.le_of_ble_eq_true rfl, Nat.le_of_ble_eq_true rfl⟩) hS (fun r_81 f_81 n_81 H locs hp hW hS => ?_)
  obtain ⟨rfl, rfl, rfl⟩ := hp
  have hW : q_W E (kO E f k bk hd v) n H := hW
  refine lv_lstore_n (lv' := [(1, .long (z_mx (z_mx (z_mx (z_mx (z_mx (z_mx 1913 (nI pn)) (nI rc)) ac) (v 0)) (v 1)) (v 2))), (0, .ref x)]) hx hb dX12_digest_84 rfl hl (by decide) rfl (fun ls hl => ?_)
  refine lv_lload_n hx hb dX12_digest_85 rfl (lv_at hl 0 rfl) ?_
  refine lv_aload_n hx hb dX12_digest_86 rfl (lv_at hl 1 rfl) ?_
  refine q_get hx hb hts hown hA hW iX12 ((kO_out hxo).trans hX) rfl 2 (by decide) (hts (.fieldLink RX12 26 "HighRecipes" "kitchen" "LHighRecipes$Kitchen;") (by decide +kernel)) (fun _ h9 => h9) (v := .ref k) rfl dX12_digest_87 ?_
  refine q_getN hx hb hts hown hA hW iX6 kO_0 rfl 8 (by decide) (va_Nw.use rfl (hA.2.2.2.1 ("HighRecipes", 106, "HighRecipes$Kitchen", "minute", "I", "HighRecipes") (by decide +kernel))) (fun _ h9 => h9) (v := .int (v 3)) rfl dX12_digest_90 ?_
  refine q_cl (va_runS (As := [.long (z_mx (z_mx (z_mx (z_mx (z_mx (z_mx 1913 (nI pn)) (nI rc)) ac) (v 0)) (v 1)) (v 2)), .int (v 3)]) (rest := []) ⟨hx, hb, hml, hown, hts⟩ (kX12_mixed l E (kO E f k bk hd v) n (z_mx (z_mx (z_mx (z_mx (z_mx (z_mx 1913 (nI pn)) (nI rc)) ac) (v 0)) (v 1)) (v 2)) (v 3)) (va_cwS 2 hts gX12_digest_X12_mixed rfl rfl rfl (by decide +kernel) ⟨(Nat.le_of_ble_eq_true rfl), (Nat.le_of_ble_eq_true rfl)⟩) (q_pS hA hW hS) rfl rfl hl.1 rfl (lv_room (Nat.le_of_ble_eq_true rfl)) dX12_digest_93 ⟨Nat.le_of_ble_eq_true rfl, Nat.le_of_ble_eq_true rfl⟩) hS (fun r_93 f_93 n_93 H locs hp hW hS => ?_)
  obtain ⟨rfl, rfl, rfl⟩ := hp
  have hW : q_W E (kO E f k bk hd v) n H := hW
  refine lv_lstore_n (lv' := [(1, .long (z_mx (z_mx (z_mx (z_mx (z_mx (z_mx (z_mx 1913 (nI pn)) (nI rc)) ac) (v 0)) (v 1)) (v 2)) (v 3))), (0, .ref x)]) hx hb dX12_digest_96 rfl hl (by decide) rfl (fun ls hl => ?_)
  refine lv_lload_n hx hb dX12_digest_97 rfl (lv_at hl 0 rfl) ?_
  refine lv_aload_n hx hb dX12_digest_98 rfl (lv_at hl 1 rfl) ?_
  refine q_get hx hb hts hown hA hW iX12 ((kO_out hxo).trans hX) rfl 2 (by decide) (hts (.fieldLink RX12 26 "HighRecipes" "kitchen" "LHighRecipes$Kitchen;") (by decide +kernel)) (fun _ h9 => h9) (v := .ref k) rfl dX12_digest_99 ?_
  refine q_getN hx hb hts hown hA hW iX6 kO_0 rfl 1 (by decide) (va_Nw.use rfl (hA.2.2.2.1 ("HighRecipes", 144, "HighRecipes$Kitchen", "warnings", "LHighRecipes$History;", "HighRecipes") (by decide +kernel))) (fun _ h9 => h9) (v := .ref (k + 2)) rfl dX12_digest_102 ?_
  refine q_getN hx hb hts hown hA hW iX4 kO_2 rfl 1 (by decide) (va_Nw.use rfl (hA.2.2.2.1 ("HighRecipes", 148, "HighRecipes$History", "total", "I", "HighRecipes") (by decide +kernel))) (fun _ h9 => h9) (v := .int (v 4)) rfl dX12_digest_105 ?_
  refine q_cl (va_runS (As := [.long (z_mx (z_mx (z_mx (z_mx (z_mx (z_mx (z_mx 1913 (nI pn)) (nI rc)) ac) (v 0)) (v 1)) (v 2)) (v 3)), .int (v 4)]) (rest := []) ⟨hx, hb, hml, hown, hts⟩ (kX12_mixed l E (kO E f k bk hd v) n (z_mx (z_mx (z_mx (z_mx (z_mx (z_mx (z_mx 1913 (nI pn)) (nI rc)) ac) (v 0)) (v 1)) (v 2)) (v 3)) (v 4)) (va_cwS 2 hts gX12_digest_X12_mixed rfl rfl rfl (by decide +kernel) ⟨(Nat.le_of_ble_eq_true rfl), (Nat.le_of_ble_eq_true rfl)⟩) (q_pS hA hW hS) rfl rfl hl.1 rfl (lv_room (Nat.le_of_ble_eq_true rfl)) dX12_digest_108 ⟨Nat.le_of_ble_eq_true rfl, Nat.le_of_ble_eq_true rfl⟩) hS (fun r_108 f_108 n_108 H locs hp hW hS => ?_)
  obtain ⟨rfl, rfl, rfl⟩ := hp
  have hW : q_W E (kO E f k bk hd v) n H := hW
  refine lv_lstore_n (lv' := [(1, .long (z_mx (z_mx (z_mx (z_mx (z_mx (z_mx (z_mx (z_mx 1913 (nI pn)) (nI rc)) ac) (v 0)) (v 1)) (v 2)) (v 3)) (v 4))), (0, .ref x)]) hx hb dX12_digest_111 rfl hl (by decide) rfl (fun ls hl => ?_)
  refine lv_lload_n hx hb dX12_digest_112 rfl (lv_at hl 0 rfl) ?_
  refine lv_aload_n hx hb dX12_digest_113 rfl (lv_at hl 1 rfl) ?_
  refine q_get hx hb hts hown hA hW iX12 ((kO_out hxo).trans hX) rfl 2 (by decide) (hts (.fieldLink RX12 26 "HighRecipes" "kitchen" "LHighRecipes$Kitchen;") (by decide +kernel)) (fun _ h9 => h9) (v := .ref k) rfl dX12_digest_114 ?_
  refine q_getN hx hb hts hown hA hW iX6 kO_0 rfl 2 (by decide) (va_Nw.use rfl (hA.2.2.2.1 ("HighRecipes", 166, "HighRecipes$Kitchen", "notes", "LHighRecipes$History;", "HighRecipes") (by decide +kernel))) (fun _ h9 => h9) (v := .ref (k + 4)) rfl dX12_digest_117 ?_
  refine q_getN hx hb hts hown hA hW iX4 kO_4 rfl 1 (by decide) (va_Nw.use rfl (hA.2.2.2.1 ("HighRecipes", 148, "HighRecipes$History", "total", "I", "HighRecipes") (by decide +kernel))) (fun _ h9 => h9) (v := .int (v 5)) rfl dX12_digest_120 ?_
  refine q_cl (va_runS (As := [.long (z_mx (z_mx (z_mx (z_mx (z_mx (z_mx (z_mx (z_mx 1913 (nI pn)) (nI rc)) ac) (v 0)) (v 1)) (v 2)) (v 3)) (v 4)), .int (v 5)]) (rest := []) ⟨hx, hb, hml, hown, hts⟩ (kX12_mixed l E (kO E f k bk hd v) n (z_mx (z_mx (z_mx (z_mx (z_mx (z_mx (z_mx (z_mx 1913 (nI pn)) (nI rc)) ac) (v 0)) (v 1)) (v 2)) (v 3)) (v 4)) (v 5)) (va_cwS 2 hts gX12_digest_X12_mixed rfl rfl rfl (by decide +kernel) ⟨(Nat.le_of_ble_eq_true rfl), (Nat.le_of_ble_eq_true rfl)⟩) (q_pS hA hW hS) rfl rfl hl.1 rfl (lv_room (Nat.le_of_ble_eq_true rfl)) dX12_digest_123 ⟨Nat.le_of_ble_eq_true rfl, Nat.le_of_ble_eq_true rfl⟩) hS (fun r_123 f_123 n_123 H locs hp hW hS => ?_)
  obtain ⟨rfl, rfl, rfl⟩ := hp
  have hW : q_W E (kO E f k bk hd v) n H := hW
  refine lv_lstore_n (lv' := [(1, .long (z_mx (z_mx (z_mx (z_mx (z_mx (z_mx (z_mx (z_mx (z_mx 1913 (nI pn)) (nI rc)) ac) (v 0)) (v 1)) (v 2)) (v 3)) (v 4)) (v 5))), (0, .ref x)]) hx hb dX12_digest_126 rfl hl (by decide) rfl (fun ls hl => ?_)
  obtain ⟨D9, hD9⟩ : ∃ z : Int64, z = z_mx (z_mx (z_mx (z_mx (z_mx (z_mx (z_mx (z_mx (z_mx 1913 (nI pn)) (nI rc)) ac) (v 0)) (v 1)) (v 2)) (v 3)) (v 4)) (v 5) := ⟨_, rfl⟩
  rw [← hD9] at hl
  refine lv_iconst (v := 1) hx hb dX12_digest_127 (by decide) ?_
  refine lv_istore_n (lv' := [(3, .int 1), (1, .long D9), (0, .ref x)]) hx hb dX12_digest_128 rfl hl (by decide) rfl (fun ls hl => ?_)
  have K129 : ∀ (fu : Nat) (j : Nat) (hj : j ≤ 5) (hm : 5 - j < fu) (H : Heap) (locs : List Loc) (ls : Array Slot), q_W E (kO E f k bk hd v) n H → va_S (q_ge E) s.heap H locs → lv_has ls 4 [(0, .ref x), (1, .long (z_dk v D9 j)), (3, .int (nI (1 + j)))] → W p l e (headSpec wsX12_digest ({ frames := 3, cells := 0, slots := 0, locals := 70 })).room s m ([.ref x] : List Value).toArray below meth c H locs 0 0 (MQ below (q_Ql E (fun r f1 n1 => z_dig pn (nI rc) ac hd v tw tn = r ∧ f = f1 ∧ n = n1)) ([.ref x] : List Value).toArray s 0 0 (q_ge E)) (F0 m 129 ls []) := by
    intro fu
    induction fu with
    | zero =>
      intro j hj hm
      exact absurd hm (Nat.not_lt_zero _)
    | succ fu ih =>
      intro j hj hm H locs ls hW hS hl
      refine lv_iload_n hx hb dX12_digest_129 rfl (lv_at hl 2 rfl) ?_
      refine lv_iconst (v := 5) hx hb dX12_digest_130 (by decide) ?_
      refine lv_icmp_gt (tgt := 153) hx hb dX12_digest_131 (by decide) (fun c_131 => ?_) (fun c_131 => ?_)
      · have ej : j = 5 := by rcases Nat.lt_or_ge j 5 with h9 | h9; exact absurd (show nI 5 < nI (1 + j) from c_131) (nI_nlt (by omega) (by decide)); omega
        refine lv_iconst (v := 0) hx hb dX12_digest_153 (by decide) ?_
        refine lv_istore_n (lv' := [(3, .int 0), (0, .ref x), (1, .long (z_dk v D9 j))]) hx hb dX12_digest_154 rfl hl (by decide) rfl (fun ls hl => ?_)
        have K155 : ∀ (fu : Nat) (j : Nat) (hj : j ≤ pn) (hm : pn - j < fu) (H : Heap) (locs : List Loc) (ls : Array Slot), q_W E (kO E f k bk hd v) n H → va_S (q_ge E) s.heap H locs → lv_has ls 4 [(0, .ref x), (1, .long (z_dgp hd v (z_dg0 (nI pn) (nI rc) ac v) j)), (3, .int (nI j))] → W p l e (headSpec wsX12_digest ({ frames := 3, cells := 0, slots := 0, locals := 70 })).room s m ([.ref x] : List Value).toArray below meth c H locs 0 0 (MQ below (q_Ql E (fun r f1 n1 => z_dig pn (nI rc) ac hd v tw tn = r ∧ f = f1 ∧ n = n1)) ([.ref x] : List Value).toArray s 0 0 (q_ge E)) (F0 m 155 ls []) := by
          intro fu
          induction fu with
          | zero =>
            intro j hj hm
            exact absurd hm (Nat.not_lt_zero _)
          | succ fu ih =>
            intro j hj hm H locs ls hW hS hl
            refine lv_iload_n hx hb dX12_digest_155 rfl (lv_at hl 2 rfl) ?_
            refine lv_aload_n hx hb dX12_digest_156 rfl (lv_at hl 0 rfl) ?_
            refine q_get hx hb hts hown hA hW iX12 ((kO_out hxo).trans hX) rfl 2 (by decide) (hts (.fieldLink RX12 26 "HighRecipes" "kitchen" "LHighRecipes$Kitchen;") (by decide +kernel)) (fun _ h9 => h9) (v := .ref k) rfl dX12_digest_157 ?_
            refine q_getN hx hb hts hown hA hW iX6 kO_0 rfl 4 (by decide) (va_Nw.use rfl (hA.2.2.2.1 ("HighRecipes", 82, "HighRecipes$Kitchen", "book", "LHighRecipes$Book;", "HighRecipes") (by decide +kernel))) (fun _ h9 => h9) (v := .ref bk) rfl dX12_digest_160 ?_
            refine q_getN hx hb hts hown hA hW iX2 ((kO_out hbo).trans hB) rfl 4 (by decide) (va_Nw.use rfl (hA.2.2.2.1 ("HighRecipes", 83, "HighRecipes$Book", "panCount", "I", "HighRecipes") (by decide +kernel))) (fun _ h9 => h9) (v := .int (nI pn)) rfl dX12_digest_163 ?_
            refine lv_icmp_ge (tgt := 188) hx hb dX12_digest_166 (by decide) (fun c_166 => ?_) (fun c_166 => ?_)
            · have ej2 : j = pn := by rcases Nat.lt_or_ge j pn with h9 | h9; exact absurd c_166 (nI_ge h9 (by omega)); omega
              refine lv_lload_n hx hb dX12_digest_188 rfl (lv_at hl 1 rfl) ?_
              refine lv_aload_n hx hb dX12_digest_189 rfl (lv_at hl 0 rfl) ?_
              refine q_get hx hb hts hown hA hW iX12 ((kO_out hxo).trans hX) rfl 2 (by decide) (hts (.fieldLink RX12 26 "HighRecipes" "kitchen" "LHighRecipes$Kitchen;") (by decide +kernel)) (fun _ h9 => h9) (v := .ref k) rfl dX12_digest_190 ?_
              refine q_getN hx hb hts hown hA hW iX6 kO_0 rfl 1 (by decide) (va_Nw.use rfl (hA.2.2.2.1 ("HighRecipes", 144, "HighRecipes$Kitchen", "warnings", "LHighRecipes$History;", "HighRecipes") (by decide +kernel))) (fun _ h9 => h9) (v := .ref (k + 2)) rfl dX12_digest_193 ?_
              refine q_cl (va_runS (As := [.long (z_dgp hd v (z_dg0 (nI pn) (nI rc) ac v) j), .ref (k + 2)]) (rest := []) ⟨hx, hb, hml, hown, hts⟩ (kX12_mixedWithHistory l E (kO E f k bk hd v) n (k + 2) tw 12 v (z_dgp hd v (z_dg0 (nI pn) (nI rc) ac v) j) (kO_2.trans (by rw [h4])) kO_3 ht4) (va_cwS 2 hts gX12_digest_X12_mixedWithHistory rfl rfl rfl (by decide +kernel) ⟨(Nat.le_of_ble_eq_true rfl), (Nat.le_of_ble_eq_true rfl)⟩) (q_pS hA hW hS) rfl rfl hl.1 rfl (lv_room (Nat.le_of_ble_eq_true rfl)) dX12_digest_196 ⟨Nat.le_of_ble_eq_true rfl, Nat.le_of_ble_eq_true rfl⟩) hS (fun r_196 f_196 n_196 H locs hp hW hS => ?_)
              obtain ⟨rfl, rfl, rfl⟩ := hp
              have hW : q_W E (kO E f k bk hd v) n H := hW
              refine lv_aload_n hx hb dX12_digest_199 rfl (lv_at hl 0 rfl) ?_
              refine q_get hx hb hts hown hA hW iX12 ((kO_out hxo).trans hX) rfl 2 (by decide) (hts (.fieldLink RX12 26 "HighRecipes" "kitchen" "LHighRecipes$Kitchen;") (by decide +kernel)) (fun _ h9 => h9) (v := .ref k) rfl dX12_digest_200 ?_
              refine q_getN hx hb hts hown hA hW iX6 kO_0 rfl 2 (by decide) (va_Nw.use rfl (hA.2.2.2.1 ("HighRecipes", 166, "HighRecipes$Kitchen", "notes", "LHighRecipes$History;", "HighRecipes") (by decide +kernel))) (fun _ h9 => h9) (v := .ref (k + 4)) rfl dX12_digest_203 ?_
              refine q_cl (va_runS (As := [.long (z_dgh v tw 12 (z_dgp hd v (z_dg0 (nI pn) (nI rc) ac v) j) (min 20 tw)), .ref (k + 4)]) (rest := []) ⟨hx, hb, hml, hown, hts⟩ (kX12_mixedWithHistory l E (kO E f k bk hd v) n (k + 4) tn 32 v (z_dgh v tw 12 (z_dgp hd v (z_dg0 (nI pn) (nI rc) ac v) j) (min 20 tw)) (kO_4.trans (by rw [h5])) kO_5 ht5) (va_cwS 2 hts gX12_digest_X12_mixedWithHistory rfl rfl rfl (by decide +kernel) ⟨(Nat.le_of_ble_eq_true rfl), (Nat.le_of_ble_eq_true rfl)⟩) (q_pS hA hW hS) rfl rfl hl.1 rfl (lv_room (Nat.le_of_ble_eq_true rfl)) dX12_digest_206 ⟨Nat.le_of_ble_eq_true rfl, Nat.le_of_ble_eq_true rfl⟩) hS (fun r_206 f_206 n_206 H locs hp hW hS => ?_)
              obtain ⟨rfl, rfl, rfl⟩ := hp
              have hW : q_W E (kO E f k bk hd v) n H := hW
              exact q_lret hx hb hr hlocks hW hS ⟨(by rw [ej2]; rfl), hk.eq, rfl⟩ (Nat.le_of_ble_eq_true rfl) (Nat.le_of_ble_eq_true rfl) dX12_digest_209
            · have hlt : j < pn := by rcases Nat.lt_or_ge j pn with h9 | h9; exact h9; exact absurd (nI_le h9 (by omega)) c_166
              refine lv_lload_n hx hb dX12_digest_169 rfl (lv_at hl 1 rfl) ?_
              refine lv_aload_n hx hb dX12_digest_170 rfl (lv_at hl 0 rfl) ?_
              refine q_get hx hb hts hown hA hW iX12 ((kO_out hxo).trans hX) rfl 2 (by decide) (hts (.fieldLink RX12 26 "HighRecipes" "kitchen" "LHighRecipes$Kitchen;") (by decide +kernel)) (fun _ h9 => h9) (v := .ref k) rfl dX12_digest_171 ?_
              refine lv_iload_n hx hb dX12_digest_174 rfl (lv_at hl 2 rfl) ?_
              refine q_cq (va_runV (As := [.int (nI j)]) (rest := [.long (z_dgp hd v (z_dg0 (nI pn) (nI rc) ac v) j)]) ⟨hx, hb, hml, hown, hts⟩ (kX6_panAt l E (kO E f k bk hd v) n k bk hd v pn (nI rc) ac j ((kO_out hbo).trans hB) kO_K (by assumption) (by assumption) hlt) (cwV 1 hts gX12_digest_X6_panAt rfl rfl rfl (by decide +kernel) ⟨(Nat.le_of_ble_eq_true rfl), (Nat.le_of_ble_eq_true rfl)⟩) (q_pV hA hW hS (ci := 6) rfl kO_0) rfl rfl hl.1 rfl (lv_room (Nat.le_of_ble_eq_true rfl)) dX12_digest_175 ⟨Nat.le_of_ble_eq_true rfl, Nat.le_of_ble_eq_true rfl⟩) hS (fun r_175 f_175 n_175 H locs hp hW hS => ?_)
              obtain ⟨rfl, rfl, rfl⟩ := hp
              have hW : q_W E (kO E f k bk hd v) n H := hW
              refine q_cl (va_runS (As := [.long (z_dgp hd v (z_dg0 (nI pn) (nI rc) ac v) j), .ref (k + 12 + j)]) (rest := []) ⟨hx, hb, hml, hown, hts⟩ (kX12_mixedWithPan l E (kO E f k bk hd v) n (z_dgp hd v (z_dg0 (nI pn) (nI rc) ac v) j) (k + 12 + j) (hd j) (v (52 + 4 * j)) (v (53 + 4 * j)) (v (54 + 4 * j)) (v (55 + 4 * j)) (kO_p (q_8 hlt hpn))) (va_cwS 2 hts gX12_digest_X12_mixedWithPan rfl rfl rfl (by decide +kernel) ⟨(Nat.le_of_ble_eq_true rfl), (Nat.le_of_ble_eq_true rfl)⟩) (q_pS hA hW hS) rfl rfl hl.1 rfl (lv_room (Nat.le_of_ble_eq_true rfl)) dX12_digest_178 ⟨Nat.le_of_ble_eq_true rfl, Nat.le_of_ble_eq_true rfl⟩) hS (fun r_178 f_178 n_178 H locs hp hW hS => ?_)
              obtain ⟨rfl, rfl, rfl⟩ := hp
              have hW : q_W E (kO E f k bk hd v) n H := hW
              refine lv_lstore_n (lv' := [(1, .long (z_dgp hd v (z_dg0 (nI pn) (nI rc) ac v) (j + 1))), (0, .ref x), (3, .int (nI j))]) hx hb dX12_digest_181 rfl hl (by decide) rfl (fun ls hl => ?_)
              refine lv_iinc (v := nI (j + 1)) (lv' := [(3, .int (nI (j + 1))), (1, .long (z_dgp hd v (z_dg0 (nI pn) (nI rc) ac v) (j + 1))), (0, .ref x)]) hx hb dX12_digest_182 hl (k := 2) rfl (nI_1 j) (by decide) rfl (fun ls hl => ?_)
              refine lv_goto (tgt := 155) hx hb dX12_digest_185 (by decide) ?_
              exact ih (j + 1) hlt (by omega) _ _ _ hW hS (lv_sub hl [2, 1, 0] rfl)
        rw [show z_dk v D9 j = z_dgp hd v (z_dg0 (nI pn) (nI rc) ac v) 0 from by rw [ej, hD9]; exact z_dg_eq] at hl
        exact K155 _ 0 (Nat.zero_le _) (Nat.lt_succ_self _) _ _ _ hW hS (lv_sub hl [1, 2, 0] rfl)
      · have hlt : j < 5 := by rcases Nat.lt_or_ge j 5 with h9 | h9; exact h9; exact absurd (show nI 5 < nI (1 + j) from nI_lt (by omega) (by omega)) c_131
        refine lv_lload_n hx hb dX12_digest_134 rfl (lv_at hl 1 rfl) ?_
        refine lv_aload_n hx hb dX12_digest_135 rfl (lv_at hl 0 rfl) ?_
        refine q_get hx hb hts hown hA hW iX12 ((kO_out hxo).trans hX) rfl 2 (by decide) (hts (.fieldLink RX12 26 "HighRecipes" "kitchen" "LHighRecipes$Kitchen;") (by decide +kernel)) (fun _ h9 => h9) (v := .ref k) rfl dX12_digest_136 ?_
        refine lv_iload_n hx hb dX12_digest_139 rfl (lv_at hl 2 rfl) ?_
        refine q_ci (va_runV (As := [.int (nI (1 + j))]) (rest := [.long (z_dk v D9 j)]) ⟨hx, hb, hml, hown, hts⟩ (kX6_warningsOfKind l E (kO E f k bk hd v) n k bk hd v (1 + j) kO_K (by omega)) (cwV 1 hts gX12_digest_X6_warningsOfKind rfl rfl rfl (by decide +kernel) ⟨(Nat.le_of_ble_eq_true rfl), (Nat.le_of_ble_eq_true rfl)⟩) (q_pV hA hW hS (ci := 6) rfl kO_0) rfl rfl hl.1 rfl (lv_room (Nat.le_of_ble_eq_true rfl)) dX12_digest_140 ⟨Nat.le_of_ble_eq_true rfl, Nat.le_of_ble_eq_true rfl⟩) hS (fun r_140 f_140 n_140 H locs hp hW hS => ?_)
        obtain ⟨rfl, rfl, rfl⟩ := hp
        have hW : q_W E (kO E f k bk hd v) n H := hW
        rw [show 6 + (1 + j) = 7 + j by omega]
        refine q_cl (va_runS (As := [.long (z_dk v D9 j), .int (v (7 + j))]) (rest := []) ⟨hx, hb, hml, hown, hts⟩ (kX12_mixed l E (kO E f k bk hd v) n (z_dk v D9 j) (v (7 + j))) (va_cwS 2 hts gX12_digest_X12_mixed rfl rfl rfl (by decide +kernel) ⟨(Nat.le_of_ble_eq_true rfl), (Nat.le_of_ble_eq_true rfl)⟩) (q_pS hA hW hS) rfl rfl hl.1 rfl (lv_room (Nat.le_of_ble_eq_true rfl)) dX12_digest_143 ⟨Nat.le_of_ble_eq_true rfl, Nat.le_of_ble_eq_true rfl⟩) hS (fun r_143 f_143 n_143 H locs hp hW hS => ?_)
        obtain ⟨rfl, rfl, rfl⟩ := hp
        have hW : q_W E (kO E f k bk hd v) n H := hW
        refine lv_lstore_n (lv' := [(1, .long (z_dk v D9 (j + 1))), (0, .ref x), (3, .int (nI (1 + j)))]) hx hb dX12_digest_146 rfl hl (by decide) rfl (fun ls hl => ?_)
        refine lv_iinc (v := nI (1 + (j + 1))) (lv' := [(3, .int (nI (1 + (j + 1)))), (1, .long (z_dk v D9 (j + 1))), (0, .ref x)]) hx hb dX12_digest_147 hl (k := 2) rfl (nI_1 (1 + j)) (by decide) rfl (fun ls hl => ?_)
        refine lv_goto (tgt := 129) hx hb dX12_digest_150 (by decide) ?_
        exact ih (j + 1) hlt (by omega) _ _ _ hW hS (lv_sub hl [2, 1, 0] rfl)
  exact K129 _ 0 (Nat.zero_le _) (Nat.lt_succ_self _) _ _ _ hW hS (lv_sub hl [2, 1, 0] rfl)

