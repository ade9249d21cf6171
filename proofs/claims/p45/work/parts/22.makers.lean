/-! the makers; the tape; rows of names -/

set_option maxHeartbeats 4000000 in
set_option maxRecDepth 100000 in
theorem kX9_init (l : Launch) (E : q_E) (f : q_H) (n : Nat) (a : Nat) (h0 : f a = some (rX9 none 0)) (hn : n = a + 1) : Met l yX9_init wsX9_init ({ frames := 1, cells := 1, slots := 1600, locals := 20 }) (q_P E [.ref a] f n) (q_Qv E (fun f1 n1 => va_up (va_up f (a + 1) (some (aB E 1600 (fun _ => 0)))) a (some (rX9 (some (a + 1)) 0)) = f1 ∧ a + 2 = n1)) 1 1600 (q_ge E) := by
  refine Met.ofW (cc := cX9_init) (maxL := 1) (ret := none) (by decide) rfl ?_
  intro p e s m args below meth c s₁ B hml hv
  obtain ⟨rfl, hA, hW⟩ := hv
  have hx := B.exec
  have hb := B.bytes
  have hr := B.returns
  have hts := atoms_spec (ws := wsX9_init) B.pre
  have hown : s.vm.findClass RX9 = some m.cls := findClass_of_methodNamed B.named
  have hlocks := B.notSynchronized
  have hin : meth.name = "<init>" := (name_of_methodNamed B.named B.method).1
  have hS : va_S (q_ge E) s.heap s.heap [] := va_S.rf
  have iX9 : ∀ w ∈ wsX90, w ∈ wsX9_init := by decide +kernel
  have hl := lv_entry ([.ref a]) (n := 1) (Nat.le_of_ble_eq_true rfl)
  rw [lg_entry_eq]
  generalize (lg_sl ([.ref a]) ++ List.replicate (1 - (lg_sl ([.ref a])).length) Slot.unset).toArray = ls at hl ⊢
  have hl : lv_has ls 1 [(0, .ref a)] := hl
  subst hn
  refine lv_aload_n hx hb dX9_init_0 rfl (lv_at hl 0 rfl) ?_
  refine W.objInit hx hb hown (hts (.methodLink RX9 3 objectInit) (by decide +kernel)) (hts (.instanceMethod objectInit) (by decide +kernel)) (hts (.code objectInit ⟨#[0xb1]⟩ 1 none) (by decide +kernel)) rfl (hl.1.trans hml.symm) rfl dX9_init_1 (Nat.le_of_ble_eq_true rfl) (Nat.le_of_ble_eq_true rfl) ?_
  refine lv_aload_n hx hb dX9_init_4 rfl (lv_at hl 0 rfl) ?_
  refine lv_sipush (v := 1600) hx hb dX9_init_5 (by decide) ?_
  refine q_newa (atype := .byte) hx hb hA hW hS (hts (.arrayClass .byte) (by decide +kernel)) (ty := .byte) rfl 2 rfl (fun C h9 => by cases h9) (N' := 1600) (a0 := (1600, .inl (fun _ => 0))) (fun _ => rfl) (by decide) (by decide) (Nat.le_of_ble_eq_true rfl) (Nat.le_of_ble_eq_true rfl) (Nat.le_of_ble_eq_true rfl) dX9_init_8 (fun H hW hS => ?_)
  have hW : q_W E (va_up f (a + 1) (some (aB E 1600 (fun _ => 0)))) (a + 1 + 1) H := hW
  refine q_putF hx hb hts hown hA hW hS iX9 tyX9 tyX9_ok nmX9 (q_ne (by omega) h0) rfl 0 (by decide) (hts (.fieldLink RX9 9 "HighRecipes$Tape" "bytes" "[B") (by decide +kernel)) (fun _ h9 => h9) rfl hin rfl rfl rfl (Nat.le_of_ble_eq_true rfl) dX9_init_10 (fun H locs hW hS => ?_)
  have hW : q_W E (va_up (va_up f (a + 1) (some (aB E 1600 (fun _ => 0)))) a (some (rX9 (some (a + 1)) 0))) (a + 2) H := hW
  exact q_vret hx hb hr hlocks hW hS ⟨rfl, rfl⟩ (Nat.le_of_ble_eq_true rfl) (Nat.le_of_ble_eq_true rfl) dX9_init_13

set_option maxHeartbeats 4000000 in
set_option maxRecDepth 100000 in
theorem kX4_init (l : Launch) (E : q_E) (f : q_H) (n : Nat) (a : Nat) (h0 : f a = some (rX4 none 0)) (hn : n = a + 1) : Met l yX4_init wsX4_init ({ frames := 1, cells := 1, slots := 20, locals := 20 }) (q_P E [.ref a] f n) (q_Qv E (fun f1 n1 => va_up (va_up f (a + 1) (some (aI E 20 (fun _ => 0)))) a (some (rX4 (some (a + 1)) 0)) = f1 ∧ a + 2 = n1)) 1 20 (q_ge E) := by
  refine Met.ofW (cc := cX4_init) (maxL := 1) (ret := none) (by decide) rfl ?_
  intro p e s m args below meth c s₁ B hml hv
  obtain ⟨rfl, hA, hW⟩ := hv
  have hx := B.exec
  have hb := B.bytes
  have hr := B.returns
  have hts := atoms_spec (ws := wsX4_init) B.pre
  have hown : s.vm.findClass RX4 = some m.cls := findClass_of_methodNamed B.named
  have hlocks := B.notSynchronized
  have hin : meth.name = "<init>" := (name_of_methodNamed B.named B.method).1
  have hS : va_S (q_ge E) s.heap s.heap [] := va_S.rf
  have iX4 : ∀ w ∈ wsX40, w ∈ wsX4_init := by decide +kernel
  have hl := lv_entry ([.ref a]) (n := 1) (Nat.le_of_ble_eq_true rfl)
  rw [lg_entry_eq]
  generalize (lg_sl ([.ref a]) ++ List.replicate (1 - (lg_sl ([.ref a])).length) Slot.unset).toArray = ls at hl ⊢
  have hl : lv_has ls 1 [(0, .ref a)] := hl
  subst hn
  refine lv_aload_n hx hb dX4_init_0 rfl (lv_at hl 0 rfl) ?_
  refine W.objInit hx hb hown (hts (.methodLink RX4 1 objectInit) (by decide +kernel)) (hts (.instanceMethod objectInit) (by decide +kernel)) (hts (.code objectInit ⟨#[0xb1]⟩ 1 none) (by decide +kernel)) rfl (hl.1.trans hml.symm) rfl dX4_init_1 (Nat.le_of_ble_eq_true rfl) (Nat.le_of_ble_eq_true rfl) ?_
  refine lv_aload_n hx hb dX4_init_4 rfl (lv_at hl 0 rfl) ?_
  refine lv_bipush (v := 20) hx hb dX4_init_5 (by decide) ?_
  refine q_newa (atype := .int) hx hb hA hW hS (hts (.arrayClass .int) (by decide +kernel)) (ty := .int) rfl 0 rfl (fun C h9 => by cases h9) (N' := 20) (a0 := (20, .inl (fun _ => 0))) (fun _ => rfl) (by decide) (by decide) (Nat.le_of_ble_eq_true rfl) (Nat.le_of_ble_eq_true rfl) (Nat.le_of_ble_eq_true rfl) dX4_init_7 (fun H hW hS => ?_)
  have hW : q_W E (va_up f (a + 1) (some (aI E 20 (fun _ => 0)))) (a + 1 + 1) H := hW
  refine q_putF hx hb hts hown hA hW hS iX4 tyX4 tyX4_ok nmX4 (q_ne (by omega) h0) rfl 0 (by decide) (hts (.fieldLink RX4 9 "HighRecipes$History" "latest" "[I") (by decide +kernel)) (fun _ h9 => h9) rfl hin rfl rfl rfl (Nat.le_of_ble_eq_true rfl) dX4_init_9 (fun H locs hW hS => ?_)
  have hW : q_W E (va_up (va_up f (a + 1) (some (aI E 20 (fun _ => 0)))) a (some (rX4 (some (a + 1)) 0))) (a + 2) H := hW
  exact q_vret hx hb hr hlocks hW hS ⟨rfl, rfl⟩ (Nat.le_of_ble_eq_true rfl) (Nat.le_of_ble_eq_true rfl) dX4_init_12

set_option maxHeartbeats 4000000 in
set_option maxRecDepth 100000 in
theorem kX2_init (l : Launch) (E : q_E) (f : q_H) (n : Nat) (a : Nat) (h0 : f a = some (rX2 none none none none 0 0 0)) (hn : n = a + 1) : Met l yX2_init wsX2_init ({ frames := 1, cells := 4, slots := 28, locals := 20 }) (q_P E [.ref a] f n) (q_Qv E (fun f1 n1 => va_up (va_up (va_up (va_up (va_up f (a + 1) (some (aJ E 8 (fun _ => 0)))) (a + 2) (some (aI E 8 (fun _ => 0)))) (a + 3) (some (aJ E 6 (fun _ => 0)))) (a + 4) (some (aQ E 3 6 (fun _ => none)))) a (some (rX2 (some (a + 1)) (some (a + 2)) (some (a + 3)) (some (a + 4)) 0 0 0)) = f1 ∧ a + 5 = n1)) 4 28 (q_ge E) := by
  refine Met.ofW (cc := cX2_init) (maxL := 1) (ret := none) (by decide) rfl ?_
  intro p e s m args below meth c s₁ B hml hv
  obtain ⟨rfl, hA, hW⟩ := hv
  have hx := B.exec
  have hb := B.bytes
  have hr := B.returns
  have hts := atoms_spec (ws := wsX2_init) B.pre
  have hown : s.vm.findClass RX2 = some m.cls := findClass_of_methodNamed B.named
  have hlocks := B.notSynchronized
  have hin : meth.name = "<init>" := (name_of_methodNamed B.named B.method).1
  have hS : va_S (q_ge E) s.heap s.heap [] := va_S.rf
  have iX2 : ∀ w ∈ wsX20, w ∈ wsX2_init := by decide +kernel
  have hl := lv_entry ([.ref a]) (n := 1) (Nat.le_of_ble_eq_true rfl)
  rw [lg_entry_eq]
  generalize (lg_sl ([.ref a]) ++ List.replicate (1 - (lg_sl ([.ref a])).length) Slot.unset).toArray = ls at hl ⊢
  have hl : lv_has ls 1 [(0, .ref a)] := hl
  subst hn
  refine lv_aload_n hx hb dX2_init_0 rfl (lv_at hl 0 rfl) ?_
  refine W.objInit hx hb hown (hts (.methodLink RX2 1 objectInit) (by decide +kernel)) (hts (.instanceMethod objectInit) (by decide +kernel)) (hts (.code objectInit ⟨#[0xb1]⟩ 1 none) (by decide +kernel)) rfl (hl.1.trans hml.symm) rfl dX2_init_1 (Nat.le_of_ble_eq_true rfl) (Nat.le_of_ble_eq_true rfl) ?_
  refine lv_aload_n hx hb dX2_init_4 rfl (lv_at hl 0 rfl) ?_
  refine lv_bipush (v := 8) hx hb dX2_init_5 (by decide) ?_
  refine q_newa (atype := .long) hx hb hA hW hS (hts (.arrayClass .long) (by decide +kernel)) (ty := .long) rfl 1 rfl (fun C h9 => by cases h9) (N' := 8) (a0 := (8, .inr (.inl (fun _ => 0)))) (fun _ => rfl) (by decide) (by decide) (Nat.le_of_ble_eq_true rfl) (Nat.le_of_ble_eq_true rfl) (Nat.le_of_ble_eq_true rfl) dX2_init_7 (fun H hW hS => ?_)
  have hW : q_W E (va_up f (a + 1) (some (aJ E 8 (fun _ => 0)))) (a + 1 + 1) H := hW
  refine q_putF hx hb hts hown hA hW hS iX2 tyX2 tyX2_ok nmX2 (q_ne (by omega) h0) rfl 0 (by decide) (hts (.fieldLink RX2 9 "HighRecipes$Book" "panNames" "[J") (by decide +kernel)) (fun _ h9 => h9) rfl hin rfl rfl rfl (Nat.le_of_ble_eq_true rfl) dX2_init_9 (fun H locs hW hS => ?_)
  have hW : q_W E (va_up (va_up f (a + 1) (some (aJ E 8 (fun _ => 0)))) a (some (rX2 (some (a + 1)) none none none 0 0 0))) (a + 2) H := hW
  refine lv_aload_n hx hb dX2_init_12 rfl (lv_at hl 0 rfl) ?_
  refine lv_bipush (v := 8) hx hb dX2_init_13 (by decide) ?_
  refine q_newa (atype := .int) hx hb hA hW hS (hts (.arrayClass .int) (by decide +kernel)) (ty := .int) rfl 0 rfl (fun C h9 => by cases h9) (N' := 8) (a0 := (8, .inl (fun _ => 0))) (fun _ => rfl) (by decide) (by decide) (Nat.le_of_ble_eq_true rfl) (Nat.le_of_ble_eq_true rfl) (Nat.le_of_ble_eq_true rfl) dX2_init_15 (fun H hW hS => ?_)
  have hW : q_W E (va_up (va_up (va_up f (a + 1) (some (aJ E 8 (fun _ => 0)))) a (some (rX2 (some (a + 1)) none none none 0 0 0))) (a + 2) (some (aI E 8 (fun _ => 0)))) (a + 2 + 1) H := hW
  refine q_putF hx hb hts hown hA hW hS iX2 tyX2 tyX2_ok nmX2 (q_ne (by omega) q_eq) rfl 1 (by decide) (hts (.fieldLink RX2 13 "HighRecipes$Book" "holds" "[I") (by decide +kernel)) (fun _ h9 => h9) rfl hin rfl rfl rfl (Nat.le_of_ble_eq_true rfl) dX2_init_17 (fun H locs hW hS => ?_)
  have hW : q_W E (va_up (va_up (va_up (va_up f (a + 1) (some (aJ E 8 (fun _ => 0)))) a (some (rX2 (some (a + 1)) none none none 0 0 0))) (a + 2) (some (aI E 8 (fun _ => 0)))) a (some (rX2 (some (a + 1)) (some (a + 2)) none none 0 0 0))) (a + 3) H := hW
  refine lv_aload_n hx hb dX2_init_20 rfl (lv_at hl 0 rfl) ?_
  refine lv_bipush (v := 6) hx hb dX2_init_21 (by decide) ?_
  refine q_newa (atype := .long) hx hb hA hW hS (hts (.arrayClass .long) (by decide +kernel)) (ty := .long) rfl 1 rfl (fun C h9 => by cases h9) (N' := 6) (a0 := (6, .inr (.inl (fun _ => 0)))) (fun _ => rfl) (by decide) (by decide) (Nat.le_of_ble_eq_true rfl) (Nat.le_of_ble_eq_true rfl) (Nat.le_of_ble_eq_true rfl) dX2_init_23 (fun H hW hS => ?_)
  have hW : q_W E (va_up (va_up (va_up (va_up (va_up f (a + 1) (some (aJ E 8 (fun _ => 0)))) a (some (rX2 (some (a + 1)) none none none 0 0 0))) (a + 2) (some (aI E 8 (fun _ => 0)))) a (some (rX2 (some (a + 1)) (some (a + 2)) none none 0 0 0))) (a + 3) (some (aJ E 6 (fun _ => 0)))) (a + 3 + 1) H := hW
  refine q_putF hx hb hts hown hA hW hS iX2 tyX2 tyX2_ok nmX2 (q_ne (by omega) q_eq) rfl 2 (by decide) (hts (.fieldLink RX2 17 "HighRecipes$Book" "recipeNames" "[J") (by decide +kernel)) (fun _ h9 => h9) rfl hin rfl rfl rfl (Nat.le_of_ble_eq_true rfl) dX2_init_25 (fun H locs hW hS => ?_)
  have hW : q_W E (va_up (va_up (va_up (va_up (va_up (va_up f (a + 1) (some (aJ E 8 (fun _ => 0)))) a (some (rX2 (some (a + 1)) none none none 0 0 0))) (a + 2) (some (aI E 8 (fun _ => 0)))) a (some (rX2 (some (a + 1)) (some (a + 2)) none none 0 0 0))) (a + 3) (some (aJ E 6 (fun _ => 0)))) a (some (rX2 (some (a + 1)) (some (a + 2)) (some (a + 3)) none 0 0 0))) (a + 4) H := hW
  refine lv_aload_n hx hb dX2_init_28 rfl (lv_at hl 0 rfl) ?_
  refine lv_bipush (v := 6) hx hb dX2_init_29 (by decide) ?_
  refine q_newq hx hb hown hA hW hS (hts (.classLink RX2 20 "HighRecipes$Act") (by decide +kernel)) (hA.2.2.2.2.2.2.2.1 "HighRecipes$Act" (by decide +kernel)) 3 rfl (N' := 6) (by decide) (by decide) (Nat.le_of_ble_eq_true rfl) (Nat.le_of_ble_eq_true rfl) (Nat.le_of_ble_eq_true rfl) dX2_init_31 (fun H hW hS => ?_)
  have hW : q_W E (va_up (va_up (va_up (va_up (va_up (va_up (va_up f (a + 1) (some (aJ E 8 (fun _ => 0)))) a (some (rX2 (some (a + 1)) none none none 0 0 0))) (a + 2) (some (aI E 8 (fun _ => 0)))) a (some (rX2 (some (a + 1)) (some (a + 2)) none none 0 0 0))) (a + 3) (some (aJ E 6 (fun _ => 0)))) a (some (rX2 (some (a + 1)) (some (a + 2)) (some (a + 3)) none 0 0 0))) (a + 4) (some (aQ E 3 6 (fun _ => none)))) (a + 4 + 1) H := hW
  refine q_putF hx hb hts hown hA hW hS iX2 tyX2 tyX2_ok nmX2 (q_ne (by omega) q_eq) rfl 3 (by decide) (hts (.fieldLink RX2 22 "HighRecipes$Book" "blocks" "[LHighRecipes$Act;") (by decide +kernel)) (fun _ h9 => h9) rfl hin rfl rfl rfl (Nat.le_of_ble_eq_true rfl) dX2_init_34 (fun H locs hW hS => ?_)
  have hW : q_W E (va_up (va_up (va_up (va_up (va_up (va_up (va_up (va_up f (a + 1) (some (aJ E 8 (fun _ => 0)))) a (some (rX2 (some (a + 1)) none none none 0 0 0))) (a + 2) (some (aI E 8 (fun _ => 0)))) a (some (rX2 (some (a + 1)) (some (a + 2)) none none 0 0 0))) (a + 3) (some (aJ E 6 (fun _ => 0)))) a (some (rX2 (some (a + 1)) (some (a + 2)) (some (a + 3)) none 0 0 0))) (a + 4) (some (aQ E 3 6 (fun _ => none)))) a (some (rX2 (some (a + 1)) (some (a + 2)) (some (a + 3)) (some (a + 4)) 0 0 0))) (a + 5) H := hW
  exact q_vret hx hb hr hlocks hW hS ⟨(by funext q; simp only [va_up]; repeat' (split) <;> first | rfl | (exfalso; omega)), rfl⟩ (Nat.le_of_ble_eq_true rfl) (Nat.le_of_ble_eq_true rfl) dX2_init_37

set_option maxHeartbeats 4000000 in
set_option maxRecDepth 100000 in
theorem kX3_init (l : Launch) (E : q_E) (f : q_H) (n : Nat) (a k : Nat) (h0 : f a = some (rX3 none 0 0)) : Met l yX3_init wsX3_init ({ frames := 1, cells := 0, slots := 0, locals := 20 }) (q_P E [.ref a, .ref k] f n) (q_Qv E (fun f1 n1 => va_up f a (some (rX3 (some k) 0 (-1))) = f1 ∧ n = n1)) 0 0 (q_ge E) := by
  refine Met.ofW (cc := cX3_init) (maxL := 2) (ret := none) (by decide) rfl ?_
  intro p e s m args below meth c s₁ B hml hv
  obtain ⟨rfl, hA, hW⟩ := hv
  have hx := B.exec
  have hb := B.bytes
  have hr := B.returns
  have hts := atoms_spec (ws := wsX3_init) B.pre
  have hown : s.vm.findClass RX3 = some m.cls := findClass_of_methodNamed B.named
  have hlocks := B.notSynchronized
  have hin : meth.name = "<init>" := (name_of_methodNamed B.named B.method).1
  have hS : va_S (q_ge E) s.heap s.heap [] := va_S.rf
  have iX3 : ∀ w ∈ wsX30, w ∈ wsX3_init := by decide +kernel
  have hl := lv_entry ([.ref a, .ref k]) (n := 2) (Nat.le_of_ble_eq_true rfl)
  rw [lg_entry_eq]
  generalize (lg_sl ([.ref a, .ref k]) ++ List.replicate (2 - (lg_sl ([.ref a, .ref k])).length) Slot.unset).toArray = ls at hl ⊢
  have hl : lv_has ls 2 [(0, .ref a), (1, .ref k)] := hl
  refine lv_aload_n hx hb dX3_init_0 rfl (lv_at hl 0 rfl) ?_
  refine W.objInit hx hb hown (hts (.methodLink RX3 3 objectInit) (by decide +kernel)) (hts (.instanceMethod objectInit) (by decide +kernel)) (hts (.code objectInit ⟨#[0xb1]⟩ 1 none) (by decide +kernel)) rfl (hl.1.trans hml.symm) rfl dX3_init_1 (Nat.le_of_ble_eq_true rfl) (Nat.le_of_ble_eq_true rfl) ?_
  refine lv_aload_n hx hb dX3_init_4 rfl (lv_at hl 0 rfl) ?_
  refine lv_iconst (v := (-1)) hx hb dX3_init_5 (by decide) ?_
  refine q_put hx hb hts hown hA hW hS iX3 tyX3 tyX3_ok nmX3 h0 rfl 2 (by decide) (hts (.fieldLink RX3 9 "HighRecipes$Cooking" "firstWarningAct" "I") (by decide +kernel)) (fun _ h9 => h9) rfl rfl rfl (Nat.le_of_ble_eq_true rfl) dX3_init_6 (fun H locs hW hS => ?_)
  have hW : q_W E (va_up f a (some (rX3 none 0 (-1)))) n H := hW
  refine lv_aload_n hx hb dX3_init_9 rfl (lv_at hl 0 rfl) ?_
  refine lv_aload_n hx hb dX3_init_10 rfl (lv_at hl 1 rfl) ?_
  refine q_putF hx hb hts hown hA hW hS iX3 tyX3 tyX3_ok nmX3 q_eq rfl 0 (by decide) (hts (.fieldLink RX3 15 "HighRecipes$Cooking" "kitchen" "LHighRecipes$Kitchen;") (by decide +kernel)) (fun _ h9 => h9) rfl hin rfl rfl rfl (Nat.le_of_ble_eq_true rfl) dX3_init_11 (fun H locs hW hS => ?_)
  rw [q_upup] at hW
  have hW : q_W E (va_up f a (some (rX3 (some k) 0 (-1)))) n H := hW
  exact q_vret hx hb hr hlocks hW hS ⟨rfl, rfl⟩ (Nat.le_of_ble_eq_true rfl) (Nat.le_of_ble_eq_true rfl) dX3_init_14

set_option maxHeartbeats 4000000 in
set_option maxRecDepth 100000 in
theorem kX11_init (l : Launch) (E : q_E) (f : q_H) (n : Nat) (a kd : Nat) (h0 : f a = some (rX11 none 0 none none none)) : Met l yX11_init wsX11_init ({ frames := 1, cells := 0, slots := 0, locals := 20 }) (q_P E [.ref a, .ref (E.2.2.2 kd)] f n) (q_Qv E (fun f1 n1 => va_up f a (some (rX11 (some (E.2.2.2 kd)) 0 none none none)) = f1 ∧ n = n1)) 0 0 (q_ge E) := by
  refine Met.ofW (cc := cX11_init) (maxL := 2) (ret := none) (by decide) rfl ?_
  intro p e s m args below meth c s₁ B hml hv
  obtain ⟨rfl, hA, hW⟩ := hv
  have hx := B.exec
  have hb := B.bytes
  have hr := B.returns
  have hts := atoms_spec (ws := wsX11_init) B.pre
  have hown : s.vm.findClass RX11 = some m.cls := findClass_of_methodNamed B.named
  have hlocks := B.notSynchronized
  have hin : meth.name = "<init>" := (name_of_methodNamed B.named B.method).1
  have hS : va_S (q_ge E) s.heap s.heap [] := va_S.rf
  have iX11 : ∀ w ∈ wsX110, w ∈ wsX11_init := by decide +kernel
  have hl := lv_entry ([.ref a, .ref (E.2.2.2 kd)]) (n := 2) (Nat.le_of_ble_eq_true rfl)
  rw [lg_entry_eq]
  generalize (lg_sl ([.ref a, .ref (E.2.2.2 kd)]) ++ List.replicate (2 - (lg_sl ([.ref a, .ref (E.2.2.2 kd)])).length) Slot.unset).toArray = ls at hl ⊢
  have hl : lv_has ls 2 [(0, .ref a), (1, .ref (E.2.2.2 kd))] := hl
  refine lv_aload_n hx hb dX11_init_0 rfl (lv_at hl 0 rfl) ?_
  refine W.objInit hx hb hown (hts (.methodLink RX11 1 objectInit) (by decide +kernel)) (hts (.instanceMethod objectInit) (by decide +kernel)) (hts (.code objectInit ⟨#[0xb1]⟩ 1 none) (by decide +kernel)) rfl (hl.1.trans hml.symm) rfl dX11_init_1 (Nat.le_of_ble_eq_true rfl) (Nat.le_of_ble_eq_true rfl) ?_
  refine lv_aload_n hx hb dX11_init_4 rfl (lv_at hl 0 rfl) ?_
  refine lv_aload_n hx hb dX11_init_5 rfl (lv_at hl 1 rfl) ?_
  refine q_put hx hb hts hown hA hW hS iX11 tyX11 tyX11_ok nmX11 h0 rfl 0 (by decide) (hts (.fieldLink RX11 7 "HighRecipes$Value" "kind" "LHighRecipes$Kind;") (by decide +kernel)) (fun _ h9 => h9) rfl rfl rfl (Nat.le_of_ble_eq_true rfl) dX11_init_6 (fun H locs hW hS => ?_)
  have hW : q_W E (va_up f a (some (rX11 (some (E.2.2.2 kd)) 0 none none none))) n H := hW
  exact q_vret hx hb hr hlocks hW hS ⟨rfl, rfl⟩ (Nat.le_of_ble_eq_true rfl) (Nat.le_of_ble_eq_true rfl) dX11_init_9

set_option maxHeartbeats 4000000 in
set_option maxRecDepth 100000 in
theorem kX1_init (l : Launch) (E : q_E) (f : q_H) (n : Nat) (a kd : Nat) (h0 : f a = some (rX1 none 0 0 0 none none none none none)) : Met l yX1_init wsX1_init ({ frames := 1, cells := 0, slots := 0, locals := 20 }) (q_P E [.ref a, .ref (E.2.2.2 kd)] f n) (q_Qv E (fun f1 n1 => va_up f a (some (rX1 (some (E.2.2.2 kd)) (-1) (-1) 0 none none none none none)) = f1 ∧ n = n1)) 0 0 (q_ge E) := by
  refine Met.ofW (cc := cX1_init) (maxL := 2) (ret := none) (by decide) rfl ?_
  intro p e s m args below meth c s₁ B hml hv
  obtain ⟨rfl, hA, hW⟩ := hv
  have hx := B.exec
  have hb := B.bytes
  have hr := B.returns
  have hts := atoms_spec (ws := wsX1_init) B.pre
  have hown : s.vm.findClass RX1 = some m.cls := findClass_of_methodNamed B.named
  have hlocks := B.notSynchronized
  have hin : meth.name = "<init>" := (name_of_methodNamed B.named B.method).1
  have hS : va_S (q_ge E) s.heap s.heap [] := va_S.rf
  have iX1 : ∀ w ∈ wsX10, w ∈ wsX1_init := by decide +kernel
  have hl := lv_entry ([.ref a, .ref (E.2.2.2 kd)]) (n := 2) (Nat.le_of_ble_eq_true rfl)
  rw [lg_entry_eq]
  generalize (lg_sl ([.ref a, .ref (E.2.2.2 kd)]) ++ List.replicate (2 - (lg_sl ([.ref a, .ref (E.2.2.2 kd)])).length) Slot.unset).toArray = ls at hl ⊢
  have hl : lv_has ls 2 [(0, .ref a), (1, .ref (E.2.2.2 kd))] := hl
  refine lv_aload_n hx hb dX1_init_0 rfl (lv_at hl 0 rfl) ?_
  refine W.objInit hx hb hown (hts (.methodLink RX1 1 objectInit) (by decide +kernel)) (hts (.instanceMethod objectInit) (by decide +kernel)) (hts (.code objectInit ⟨#[0xb1]⟩ 1 none) (by decide +kernel)) rfl (hl.1.trans hml.symm) rfl dX1_init_1 (Nat.le_of_ble_eq_true rfl) (Nat.le_of_ble_eq_true rfl) ?_
  refine lv_aload_n hx hb dX1_init_4 rfl (lv_at hl 0 rfl) ?_
  refine lv_iconst (v := (-1)) hx hb dX1_init_5 (by decide) ?_
  refine q_put hx hb hts hown hA hW hS iX1 tyX1 tyX1_ok nmX1 h0 rfl 1 (by decide) (hts (.fieldLink RX1 7 "HighRecipes$Act" "pan" "I") (by decide +kernel)) (fun _ h9 => h9) rfl rfl rfl (Nat.le_of_ble_eq_true rfl) dX1_init_6 (fun H locs hW hS => ?_)
  have hW : q_W E (va_up f a (some (rX1 none (-1) 0 0 none none none none none))) n H := hW
  refine lv_aload_n hx hb dX1_init_9 rfl (lv_at hl 0 rfl) ?_
  refine lv_iconst (v := (-1)) hx hb dX1_init_10 (by decide) ?_
  refine q_put hx hb hts hown hA hW hS iX1 tyX1 tyX1_ok nmX1 q_eq rfl 2 (by decide) (hts (.fieldLink RX1 13 "HighRecipes$Act" "recipe" "I") (by decide +kernel)) (fun _ h9 => h9) rfl rfl rfl (Nat.le_of_ble_eq_true rfl) dX1_init_11 (fun H locs hW hS => ?_)
  rw [q_upup] at hW
  have hW : q_W E (va_up f a (some (rX1 none (-1) (-1) 0 none none none none none))) n H := hW
  refine lv_aload_n hx hb dX1_init_14 rfl (lv_at hl 0 rfl) ?_
  refine lv_aload_n hx hb dX1_init_15 rfl (lv_at hl 1 rfl) ?_
  refine q_putF hx hb hts hown hA hW hS iX1 tyX1 tyX1_ok nmX1 q_eq rfl 0 (by decide) (hts (.fieldLink RX1 16 "HighRecipes$Act" "kind" "LHighRecipes$Kind;") (by decide +kernel)) (fun _ h9 => h9) rfl hin rfl rfl rfl (Nat.le_of_ble_eq_true rfl) dX1_init_16 (fun H locs hW hS => ?_)
  rw [q_upup] at hW
  have hW : q_W E (va_up f a (some (rX1 (some (E.2.2.2 kd)) (-1) (-1) 0 none none none none none))) n H := hW
  exact q_vret hx hb hr hlocks hW hS ⟨rfl, rfl⟩ (Nat.le_of_ble_eq_true rfl) (Nat.le_of_ble_eq_true rfl) dX1_init_19

set_option maxHeartbeats 4000000 in
set_option maxRecDepth 100000 in
theorem kX10_init (l : Launch) (E : q_E) (f : q_H) (n : Nat) (a : Nat) (h0 : f a = some (rX10 none none none 0 0 none)) (hn : n = a + 1) : Met l yX10_init wsX10_init ({ frames := 1, cells := 3, slots := 1203, locals := 20 }) (q_P E [.ref a] f n) (q_Qv E (fun f1 n1 => va_up (va_up (va_up (va_up f (a + 1) (some (aQ E 5 401 (fun _ => none)))) (a + 2) (some (aI E 401 (fun _ => 0)))) (a + 3) (some (aJ E 401 (fun _ => 0)))) a (some (rX10 (some (a + 1)) (some (a + 2)) (some (a + 3)) 0 0 (some (E.2.2.2 39)))) = f1 ∧ a + 4 = n1)) 3 1203 (q_ge E) := by
  refine Met.ofW (cc := cX10_init) (maxL := 1) (ret := none) (by decide) rfl ?_
  intro p e s m args below meth c s₁ B hml hv
  obtain ⟨rfl, hA, hW⟩ := hv
  have hx := B.exec
  have hb := B.bytes
  have hr := B.returns
  have hts := atoms_spec (ws := wsX10_init) B.pre
  have hown : s.vm.findClass RX10 = some m.cls := findClass_of_methodNamed B.named
  have hlocks := B.notSynchronized
  have hin : meth.name = "<init>" := (name_of_methodNamed B.named B.method).1
  have hS : va_S (q_ge E) s.heap s.heap [] := va_S.rf
  have iX10 : ∀ w ∈ wsX100, w ∈ wsX10_init := by decide +kernel
  have hl := lv_entry ([.ref a]) (n := 1) (Nat.le_of_ble_eq_true rfl)
  rw [lg_entry_eq]
  generalize (lg_sl ([.ref a]) ++ List.replicate (1 - (lg_sl ([.ref a])).length) Slot.unset).toArray = ls at hl ⊢
  have hl : lv_has ls 1 [(0, .ref a)] := hl
  subst hn
  refine lv_aload_n hx hb dX10_init_0 rfl (lv_at hl 0 rfl) ?_
  refine W.objInit hx hb hown (hts (.methodLink RX10 1 objectInit) (by decide +kernel)) (hts (.instanceMethod objectInit) (by decide +kernel)) (hts (.code objectInit ⟨#[0xb1]⟩ 1 none) (by decide +kernel)) rfl (hl.1.trans hml.symm) rfl dX10_init_1 (Nat.le_of_ble_eq_true rfl) (Nat.le_of_ble_eq_true rfl) ?_
  refine lv_aload_n hx hb dX10_init_4 rfl (lv_at hl 0 rfl) ?_
  refine lv_sipush (v := 401) hx hb dX10_init_5 (by decide) ?_
  refine q_newq hx hb hown hA hW hS (hts (.classLink RX10 9 "HighRecipes$Kind") (by decide +kernel)) (hA.2.2.2.2.2.2.2.1 "HighRecipes$Kind" (by decide +kernel)) 5 rfl (N' := 401) (by decide) (by decide) (Nat.le_of_ble_eq_true rfl) (Nat.le_of_ble_eq_true rfl) (Nat.le_of_ble_eq_true rfl) dX10_init_8 (fun H hW hS => ?_)
  have hW : q_W E (va_up f (a + 1) (some (aQ E 5 401 (fun _ => none)))) (a + 1 + 1) H := hW
  refine q_putF hx hb hts hown hA hW hS iX10 tyX10 tyX10_ok nmX10 (q_ne (by omega) h0) rfl 0 (by decide) (hts (.fieldLink RX10 11 "HighRecipes$Tokens" "kinds" "[LHighRecipes$Kind;") (by decide +kernel)) (fun _ h9 => h9) rfl hin rfl rfl rfl (Nat.le_of_ble_eq_true rfl) dX10_init_11 (fun H locs hW hS => ?_)
  have hW : q_W E (va_up (va_up f (a + 1) (some (aQ E 5 401 (fun _ => none)))) a (some (rX10 (some (a + 1)) none none 0 0 none))) (a + 2) H := hW
  refine lv_aload_n hx hb dX10_init_14 rfl (lv_at hl 0 rfl) ?_
  refine lv_sipush (v := 401) hx hb dX10_init_15 (by decide) ?_
  refine q_newa (atype := .int) hx hb hA hW hS (hts (.arrayClass .int) (by decide +kernel)) (ty := .int) rfl 0 rfl (fun C h9 => by cases h9) (N' := 401) (a0 := (401, .inl (fun _ => 0))) (fun _ => rfl) (by decide) (by decide) (Nat.le_of_ble_eq_true rfl) (Nat.le_of_ble_eq_true rfl) (Nat.le_of_ble_eq_true rfl) dX10_init_18 (fun H hW hS => ?_)
  have hW : q_W E (va_up (va_up (va_up f (a + 1) (some (aQ E 5 401 (fun _ => none)))) a (some (rX10 (some (a + 1)) none none 0 0 none))) (a + 2) (some (aI E 401 (fun _ => 0)))) (a + 2 + 1) H := hW
  refine q_putF hx hb hts hown hA hW hS iX10 tyX10 tyX10_ok nmX10 (q_ne (by omega) q_eq) rfl 1 (by decide) (hts (.fieldLink RX10 15 "HighRecipes$Tokens" "positions" "[I") (by decide +kernel)) (fun _ h9 => h9) rfl hin rfl rfl rfl (Nat.le_of_ble_eq_true rfl) dX10_init_20 (fun H locs hW hS => ?_)
  have hW : q_W E (va_up (va_up (va_up (va_up f (a + 1) (some (aQ E 5 401 (fun _ => none)))) a (some (rX10 (some (a + 1)) none none 0 0 none))) (a + 2) (some (aI E 401 (fun _ => 0)))) a (some (rX10 (some (a + 1)) (some (a + 2)) none 0 0 none))) (a + 3) H := hW
  refine lv_aload_n hx hb dX10_init_23 rfl (lv_at hl 0 rfl) ?_
  refine lv_sipush (v := 401) hx hb dX10_init_24 (by decide) ?_
  refine q_newa (atype := .long) hx hb hA hW hS (hts (.arrayClass .long) (by decide +kernel)) (ty := .long) rfl 1 rfl (fun C h9 => by cases h9) (N' := 401) (a0 := (401, .inr (.inl (fun _ => 0)))) (fun _ => rfl) (by decide) (by decide) (Nat.le_of_ble_eq_true rfl) (Nat.le_of_ble_eq_true rfl) (Nat.le_of_ble_eq_true rfl) dX10_init_27 (fun H hW hS => ?_)
  have hW : q_W E (va_up (va_up (va_up (va_up (va_up f (a + 1) (some (aQ E 5 401 (fun _ => none)))) a (some (rX10 (some (a + 1)) none none 0 0 none))) (a + 2) (some (aI E 401 (fun _ => 0)))) a (some (rX10 (some (a + 1)) (some (a + 2)) none 0 0 none))) (a + 3) (some (aJ E 401 (fun _ => 0)))) (a + 3 + 1) H := hW
  refine q_putF hx hb hts hown hA hW hS iX10 tyX10 tyX10_ok nmX10 (q_ne (by omega) q_eq) rfl 2 (by decide) (hts (.fieldLink RX10 19 "HighRecipes$Tokens" "worths" "[J") (by decide +kernel)) (fun _ h9 => h9) rfl hin rfl rfl rfl (Nat.le_of_ble_eq_true rfl) dX10_init_29 (fun H locs hW hS => ?_)
  have hW : q_W E (va_up (va_up (va_up (va_up (va_up (va_up f (a + 1) (some (aQ E 5 401 (fun _ => none)))) a (some (rX10 (some (a + 1)) none none 0 0 none))) (a + 2) (some (aI E 401 (fun _ => 0)))) a (some (rX10 (some (a + 1)) (some (a + 2)) none 0 0 none))) (a + 3) (some (aJ E 401 (fun _ => 0)))) a (some (rX10 (some (a + 1)) (some (a + 2)) (some (a + 3)) 0 0 none))) (a + 4) H := hW
  refine lv_aload_n hx hb dX10_init_32 rfl (lv_at hl 0 rfl) ?_
  refine va_gets (n := "END") (v := .ref (E.2.2.2 39)) hx hb (hA.2.2.1.1.1 39 (by decide)).1 hS hown (hts (.fieldLink RX10 23 "HighRecipes$Kind" "END" "LHighRecipes$Kind;") (by decide +kernel)) (fun _ h9 => h9) dX10_init_33 ?_
  refine q_put hx hb hts hown hA hW hS iX10 tyX10 tyX10_ok nmX10 q_eq rfl 5 (by decide) (hts (.fieldLink RX10 27 "HighRecipes$Tokens" "kind" "LHighRecipes$Kind;") (by decide +kernel)) (fun _ h9 => h9) rfl rfl rfl (Nat.le_of_ble_eq_true rfl) dX10_init_36 (fun H locs hW hS => ?_)
  rw [q_upup] at hW
  have hW : q_W E (va_up (va_up (va_up (va_up (va_up (va_up f (a + 1) (some (aQ E 5 401 (fun _ => none)))) a (some (rX10 (some (a + 1)) none none 0 0 none))) (a + 2) (some (aI E 401 (fun _ => 0)))) a (some (rX10 (some (a + 1)) (some (a + 2)) none 0 0 none))) (a + 3) (some (aJ E 401 (fun _ => 0)))) a (some (rX10 (some (a + 1)) (some (a + 2)) (some (a + 3)) 0 0 (some (E.2.2.2 39))))) (a + 4) H := hW
  exact q_vret hx hb hr hlocks hW hS ⟨(by funext q; simp only [va_up]; repeat' (split) <;> first | rfl | (exfalso; omega)), rfl⟩ (Nat.le_of_ble_eq_true rfl) (Nat.le_of_ble_eq_true rfl) dX10_init_39

def t_at (g : Nat → Int32) (L j : Nat) : Int32 := if j < L then g j &&& 255 else -1
def t_b (x k : Int32) : Int32 := (((x.toUInt32 >>> (k.toUInt32 &&& Int32.toUInt32 31)).toInt32).toInt8.toInt32).toInt8.toInt32
def t_four (g : Nat → Int32) (L : Nat) (x : Int32) : Nat → Int32 := upd (upd (upd (upd g L (t_b x 24)) (L + 1) (t_b x 16)) (L + 2) (t_b x 8)) (L + 3) (t_b x 0)

set_option maxHeartbeats 4000000 in
set_option maxRecDepth 100000 in
theorem kX9_byteAt (l : Launch) (E : q_E) (f : q_H) (n : Nat) (x L : Nat) (g : Nat → Int32) (j : Nat) (h0 : f x = some (cTape x (nI L))) (h1 : f (x + 1) = some (aB E 1600 g)) (hL : L ≤ 1600) (hj : j < 2 ^ 31) : Met l yX9_byteAt wsX9_byteAt ({ frames := 0, cells := 0, slots := 0, locals := 0 }) (q_P E [.ref x, .int (nI j)] f n) (q_Qi E (fun r f1 n1 => t_at g L j = r ∧ f = f1 ∧ n = n1)) 0 0 (q_ge E) := by
  refine Met.ofW (cc := cX9_byteAt) (maxL := 2) (ret := (some .int)) (by decide) rfl ?_
  intro p e s m args below meth c s₁ B hml hv
  obtain ⟨rfl, hA, hW⟩ := hv
  have hx := B.exec
  have hb := B.bytes
  have hr := B.returns
  have hts := atoms_spec (ws := wsX9_byteAt) B.pre
  have hown : s.vm.findClass RX9 = some m.cls := findClass_of_methodNamed B.named
  have hlocks := B.notSynchronized
  have hS : va_S (q_ge E) s.heap s.heap [] := va_S.rf
  have iX9 : ∀ w ∈ wsX90, w ∈ wsX9_byteAt := by decide +kernel
  have hl := lv_entry ([.ref x, .int (nI j)]) (n := 2) (Nat.le_of_ble_eq_true rfl)
  rw [lg_entry_eq]
  generalize (lg_sl ([.ref x, .int (nI j)]) ++ List.replicate (2 - (lg_sl ([.ref x, .int (nI j)])).length) Slot.unset).toArray = ls at hl ⊢
  have hl : lv_has ls 2 [(0, .ref x), (1, .int (nI j))] := hl
  refine lv_iload_n hx hb dX9_byteAt_0 rfl (lv_at hl 1 rfl) ?_
  refine lv_if_lt (tgt := 21) hx hb dX9_byteAt_1 (by decide) (fun c_1 => absurd c_1 (nI_pos hj)) (fun c_1 => ?_)
  refine lv_iload_n hx hb dX9_byteAt_4 rfl (lv_at hl 1 rfl) ?_
  refine lv_aload_n hx hb dX9_byteAt_5 rfl (lv_at hl 0 rfl) ?_
  refine q_get hx hb hts hown hA hW iX9 h0 rfl 1 (by decide) (hts (.fieldLink RX9 15 "HighRecipes$Tape" "length" "I") (by decide +kernel)) (fun _ h9 => h9) (v := .int (nI L)) rfl dX9_byteAt_6 ?_
  refine lv_icmp_ge (tgt := 21) hx hb dX9_byteAt_9 (by decide) (fun c_9 => ?_) (fun c_9 => ?_)
  · have hlt : ¬ j < L := fun h9 => nI_ge h9 (by omega) c_9
    refine lv_iconst (v := (-1)) hx hb dX9_byteAt_21 (by decide) ?_
    exact q_iret hx hb hr hlocks hW hS ⟨(if_neg hlt), rfl, rfl⟩ (Nat.le_of_ble_eq_true rfl) (Nat.le_of_ble_eq_true rfl) dX9_byteAt_22
  · have hlt : j < L := by rcases Nat.lt_or_ge j L with h9 | h9; exact h9; exact absurd (nI_le h9 hj) c_9
    refine lv_iload_n hx hb dX9_byteAt_12 rfl (lv_at hl 1 rfl) ?_
    refine lv_aload_n hx hb dX9_byteAt_13 rfl (lv_at hl 0 rfl) ?_
    refine q_get hx hb hts hown hA hW iX9 h0 rfl 0 (by decide) (hts (.fieldLink RX9 9 "HighRecipes$Tape" "bytes" "[B") (by decide +kernel)) (fun _ h9 => h9) (v := .ref (x + 1)) rfl dX9_byteAt_14 ?_
    refine q_alen hx hb hA hW 2 rfl h1 (v := Int32.ofNat 1600) rfl dX9_byteAt_17 ?_
    refine lv_icmp_lt (tgt := 23) hx hb dX9_byteAt_18 (by decide) (fun c_18 => ?_) (fun c_18 => absurd (nI_lt (show j < 1600 by omega) (by decide)) c_18)
    refine lv_aload_n hx hb dX9_byteAt_23 rfl (lv_at hl 0 rfl) ?_
    refine q_get hx hb hts hown hA hW iX9 h0 rfl 0 (by decide) (hts (.fieldLink RX9 9 "HighRecipes$Tape" "bytes" "[B") (by decide +kernel)) (fun _ h9 => h9) (v := .ref (x + 1)) rfl dX9_byteAt_24 ?_
    refine lv_iload_n hx hb dX9_byteAt_27 rfl (lv_at hl 1 rfl) ?_
    refine q_bald hx hb hA hW h1 (vp_in_nI (show j < 1600 by omega) (by decide)) dX9_byteAt_28 ?_
    rw [nI_clamp hj]
    refine lv_sipush (v := 255) hx hb dX9_byteAt_29 (by decide) ?_
    refine lv_iand hx hb dX9_byteAt_32 ?_
    exact q_iret hx hb hr hlocks hW hS ⟨(if_pos hlt), rfl, rfl⟩ (Nat.le_of_ble_eq_true rfl) (Nat.le_of_ble_eq_true rfl) dX9_byteAt_33

set_option maxHeartbeats 4000000 in
set_option maxRecDepth 100000 in
theorem kX9_append (l : Launch) (E : q_E) (f : q_H) (n : Nat) (x L : Nat) (g : Nat → Int32) (x9 : Int32) (h0 : f x = some (cTape x (nI L))) (h1 : f (x + 1) = some (aB E 1600 g)) (hL : L + 4 ≤ 1600) : Met l yX9_append wsX9_append ({ frames := 0, cells := 0, slots := 0, locals := 0 }) (q_P E [.ref x, .int x9] f n) (q_Qv E (fun f1 n1 => va_up (va_up f x (some (cTape x (nI (L + 4))))) (x + 1) (some (aB E 1600 (t_four g L x9))) = f1 ∧ n = n1)) 0 0 (q_ge E) := by
  refine Met.ofW (cc := cX9_append) (maxL := 3) (ret := none) (by decide) rfl ?_
  intro p e s m args below meth c s₁ B hml hv
  obtain ⟨rfl, hA, hW⟩ := hv
  have hx := B.exec
  have hb := B.bytes
  have hr := B.returns
  have hts := atoms_spec (ws := wsX9_append) B.pre
  have hown : s.vm.findClass RX9 = some m.cls := findClass_of_methodNamed B.named
  have hlocks := B.notSynchronized
  have hS : va_S (q_ge E) s.heap s.heap [] := va_S.rf
  have iX9 : ∀ w ∈ wsX90, w ∈ wsX9_append := by decide +kernel
  have hl := lv_entry ([.ref x, .int x9]) (n := 3) (Nat.le_of_ble_eq_true rfl)
  rw [lg_entry_eq]
  generalize (lg_sl ([.ref x, .int x9]) ++ List.replicate (3 - (lg_sl ([.ref x, .int x9])).length) Slot.unset).toArray = ls at hl ⊢
  have hl : lv_has ls 3 [(0, .ref x), (1, .int x9)] := hl
  refine lv_bipush (v := 24) hx hb dX9_append_0 (by decide) ?_
  refine lv_istore_n (lv' := [(2, .int 24), (0, .ref x), (1, .int x9)]) hx hb dX9_append_2 rfl hl (by decide) rfl (fun ls hl => ?_)
  refine lv_iload_n hx hb dX9_append_3 rfl (lv_at hl 0 rfl) ?_
  refine lv_if_lt (tgt := 55) hx hb dX9_append_4 (by decide) (fun c_4 => absurd c_4 (by decide)) (fun c_4 => ?_)
  refine lv_aload_n hx hb dX9_append_7 rfl (lv_at hl 1 rfl) ?_
  refine q_get hx hb hts hown hA hW iX9 h0 rfl 1 (by decide) (hts (.fieldLink RX9 15 "HighRecipes$Tape" "length" "I") (by decide +kernel)) (fun _ h9 => h9) (v := .int (nI L)) rfl dX9_append_8 ?_
  refine lv_if_lt (tgt := 49) hx hb dX9_append_11 (by decide) (fun c_11 => absurd c_11 (nI_pos (by omega))) (fun c_11 => ?_)
  refine lv_aload_n hx hb dX9_append_14 rfl (lv_at hl 1 rfl) ?_
  refine q_get hx hb hts hown hA hW iX9 h0 rfl 1 (by decide) (hts (.fieldLink RX9 15 "HighRecipes$Tape" "length" "I") (by decide +kernel)) (fun _ h9 => h9) (v := .int (nI L)) rfl dX9_append_15 ?_
  refine lv_aload_n hx hb dX9_append_18 rfl (lv_at hl 1 rfl) ?_
  refine q_get hx hb hts hown hA hW iX9 h0 rfl 0 (by decide) (hts (.fieldLink RX9 9 "HighRecipes$Tape" "bytes" "[B") (by decide +kernel)) (fun _ h9 => h9) (v := .ref (x + 1)) rfl dX9_append_19 ?_
  refine q_alen hx hb hA hW 2 rfl h1 (v := Int32.ofNat 1600) rfl dX9_append_22 ?_
  refine lv_icmp_ge (tgt := 49) hx hb dX9_append_23 (by decide) (fun c_23 => absurd c_23 (nI_ge (show L < 1600 by omega) (by decide))) (fun c_23 => ?_)
  refine lv_aload_n hx hb dX9_append_26 rfl (lv_at hl 1 rfl) ?_
  refine q_get hx hb hts hown hA hW iX9 h0 rfl 0 (by decide) (hts (.fieldLink RX9 9 "HighRecipes$Tape" "bytes" "[B") (by decide +kernel)) (fun _ h9 => h9) (v := .ref (x + 1)) rfl dX9_append_27 ?_
  refine lv_aload_n hx hb dX9_append_30 rfl (lv_at hl 1 rfl) ?_
  refine q_get hx hb hts hown hA hW iX9 h0 rfl 1 (by decide) (hts (.fieldLink RX9 15 "HighRecipes$Tape" "length" "I") (by decide +kernel)) (fun _ h9 => h9) (v := .int (nI L)) rfl dX9_append_31 ?_
  refine lv_iload_n hx hb dX9_append_34 rfl (lv_at hl 2 rfl) ?_
  refine lv_iload_n hx hb dX9_append_35 rfl (lv_at hl 0 rfl) ?_
  refine lv_iushr hx hb dX9_append_36 rfl ?_
  refine lv_i2b hx hb dX9_append_37 rfl ?_
  refine q_bast hx hb hA hW hS h1 (vp_in_nI (by omega) (by decide)) dX9_append_38 (fun H locs hW hS => ?_)
  rw [show (nI L).toNatClampNeg = L from (nI_clamp (by omega))] at hW
  have hW : q_W E (va_up f (x + 1) (some (aB E 1600 (upd g L (((x9.toUInt32 >>> ((24 : Int32).toUInt32 &&& Int32.toUInt32 31)).toInt32).toInt8.toInt32).toInt8.toInt32)))) n H := hW
  refine lv_aload_n hx hb dX9_append_39 rfl (lv_at hl 1 rfl) ?_
  refine lv_dup hx hb dX9_append_40 rfl ?_
  refine q_get hx hb hts hown hA hW iX9 (q_ne (by omega) h0) rfl 1 (by decide) (hts (.fieldLink RX9 15 "HighRecipes$Tape" "length" "I") (by decide +kernel)) (fun _ h9 => h9) (v := .int (nI L)) rfl dX9_append_41 ?_
  refine lv_iconst (v := 1) hx hb dX9_append_44 (by decide) ?_
  refine lv_iadd hx hb dX9_append_45 ?_
  rw [nI_1]
  refine q_put hx hb hts hown hA hW hS iX9 tyX9 tyX9_ok nmX9 (q_ne (by omega) h0) rfl 1 (by decide) (hts (.fieldLink RX9 15 "HighRecipes$Tape" "length" "I") (by decide +kernel)) (fun _ h9 => h9) rfl rfl rfl (Nat.le_of_ble_eq_true rfl) dX9_append_46 (fun H locs hW hS => ?_)
  have hW : q_W E (va_up (va_up f (x + 1) (some (aB E 1600 (upd g L (((x9.toUInt32 >>> ((24 : Int32).toUInt32 &&& Int32.toUInt32 31)).toInt32).toInt8.toInt32).toInt8.toInt32)))) x (some (cTape x (nI (L + 1))))) n H := hW
  refine lv_iinc (v := 16) (lv' := [(2, .int 16), (0, .ref x), (1, .int x9)]) hx hb dX9_append_49 hl (k := 0) rfl (by decide) (by decide) rfl (fun ls hl => ?_)
  refine lv_goto (tgt := 3) hx hb dX9_append_52 (by decide) ?_
  refine lv_iload_n hx hb dX9_append_3 rfl (lv_at hl 0 rfl) ?_
  refine lv_if_lt (tgt := 55) hx hb dX9_append_4 (by decide) (fun c_4 => absurd c_4 (by decide)) (fun c_4 => ?_)
  refine lv_aload_n hx hb dX9_append_7 rfl (lv_at hl 1 rfl) ?_
  refine q_get hx hb hts hown hA hW iX9 q_eq rfl 1 (by decide) (hts (.fieldLink RX9 15 "HighRecipes$Tape" "length" "I") (by decide +kernel)) (fun _ h9 => h9) (v := .int (nI (L + 1))) rfl dX9_append_8 ?_
  refine lv_if_lt (tgt := 49) hx hb dX9_append_11 (by decide) (fun c_11 => absurd c_11 (nI_pos (by omega))) (fun c_11 => ?_)
  refine lv_aload_n hx hb dX9_append_14 rfl (lv_at hl 1 rfl) ?_
  refine q_get hx hb hts hown hA hW iX9 q_eq rfl 1 (by decide) (hts (.fieldLink RX9 15 "HighRecipes$Tape" "length" "I") (by decide +kernel)) (fun _ h9 => h9) (v := .int (nI (L + 1))) rfl dX9_append_15 ?_
  refine lv_aload_n hx hb dX9_append_18 rfl (lv_at hl 1 rfl) ?_
  refine q_get hx hb hts hown hA hW iX9 q_eq rfl 0 (by decide) (hts (.fieldLink RX9 9 "HighRecipes$Tape" "bytes" "[B") (by decide +kernel)) (fun _ h9 => h9) (v := .ref (x + 1)) rfl dX9_append_19 ?_
  refine q_alen hx hb hA hW 2 rfl (q_ne (by omega) q_eq) (v := Int32.ofNat 1600) rfl dX9_append_22 ?_
  refine lv_icmp_ge (tgt := 49) hx hb dX9_append_23 (by decide) (fun c_23 => absurd c_23 (nI_ge (show L + 1 < 1600 by omega) (by decide))) (fun c_23 => ?_)
  refine lv_aload_n hx hb dX9_append_26 rfl (lv_at hl 1 rfl) ?_
  refine q_get hx hb hts hown hA hW iX9 q_eq rfl 0 (by decide) (hts (.fieldLink RX9 9 "HighRecipes$Tape" "bytes" "[B") (by decide +kernel)) (fun _ h9 => h9) (v := .ref (x + 1)) rfl dX9_append_27 ?_
  refine lv_aload_n hx hb dX9_append_30 rfl (lv_at hl 1 rfl) ?_
  refine q_get hx hb hts hown hA hW iX9 q_eq rfl 1 (by decide) (hts (.fieldLink RX9 15 "HighRecipes$Tape" "length" "I") (by decide +kernel)) (fun _ h9 => h9) (v := .int (nI (L + 1))) rfl dX9_append_31 ?_
  refine lv_iload_n hx hb dX9_append_34 rfl (lv_at hl 2 rfl) ?_
  refine lv_iload_n hx hb dX9_append_35 rfl (lv_at hl 0 rfl) ?_
  refine lv_iushr hx hb dX9_append_36 rfl ?_
  refine lv_i2b hx hb dX9_append_37 rfl ?_
  refine q_bast hx hb hA hW hS (q_ne (by omega) q_eq) (vp_in_nI (by omega) (by decide)) dX9_append_38 (fun H locs hW hS => ?_)
  rw [show (nI (L + 1)).toNatClampNeg = L + 1 from (nI_clamp (by omega))] at hW
  have hW : q_W E (va_up (va_up (va_up f (x + 1) (some (aB E 1600 (upd g L (((x9.toUInt32 >>> ((24 : Int32).toUInt32 &&& Int32.toUInt32 31)).toInt32).toInt8.toInt32).toInt8.toInt32)))) x (some (cTape x (nI (L + 1))))) (x + 1) (some (aB E 1600 (upd (upd g L (((x9.toUInt32 >>> ((24 : Int32).toUInt32 &&& Int32.toUInt32 31)).toInt32).toInt8.toInt32).toInt8.toInt32) (L + 1) (((x9.toUInt32 >>> ((16 : Int32).toUInt32 &&& Int32.toUInt32 31)).toInt32).toInt8.toInt32).toInt8.toInt32)))) n H := hW
  refine lv_aload_n hx hb dX9_append_39 rfl (lv_at hl 1 rfl) ?_
  refine lv_dup hx hb dX9_append_40 rfl ?_
  refine q_get hx hb hts hown hA hW iX9 (q_ne (by omega) q_eq) rfl 1 (by decide) (hts (.fieldLink RX9 15 "HighRecipes$Tape" "length" "I") (by decide +kernel)) (fun _ h9 => h9) (v := .int (nI (L + 1))) rfl dX9_append_41 ?_
  refine lv_iconst (v := 1) hx hb dX9_append_44 (by decide) ?_
  refine lv_iadd hx hb dX9_append_45 ?_
  rw [nI_1]
  refine q_put hx hb hts hown hA hW hS iX9 tyX9 tyX9_ok nmX9 (q_ne (by omega) q_eq) rfl 1 (by decide) (hts (.fieldLink RX9 15 "HighRecipes$Tape" "length" "I") (by decide +kernel)) (fun _ h9 => h9) rfl rfl rfl (Nat.le_of_ble_eq_true rfl) dX9_append_46 (fun H locs hW hS => ?_)
  have hW : q_W E (va_up (va_up (va_up (va_up f (x + 1) (some (aB E 1600 (upd g L (((x9.toUInt32 >>> ((24 : Int32).toUInt32 &&& Int32.toUInt32 31)).toInt32).toInt8.toInt32).toInt8.toInt32)))) x (some (cTape x (nI (L + 1))))) (x + 1) (some (aB E 1600 (upd (upd g L (((x9.toUInt32 >>> ((24 : Int32).toUInt32 &&& Int32.toUInt32 31)).toInt32).toInt8.toInt32).toInt8.toInt32) (L + 1) (((x9.toUInt32 >>> ((16 : Int32).toUInt32 &&& Int32.toUInt32 31)).toInt32).toInt8.toInt32).toInt8.toInt32)))) x (some (cTape x (nI (L + 2))))) n H := hW
  refine lv_iinc (v := 8) (lv' := [(2, .int 8), (0, .ref x), (1, .int x9)]) hx hb dX9_append_49 hl (k := 0) rfl (by decide) (by decide) rfl (fun ls hl => ?_)
  refine lv_goto (tgt := 3) hx hb dX9_append_52 (by decide) ?_
  refine lv_iload_n hx hb dX9_append_3 rfl (lv_at hl 0 rfl) ?_
  refine lv_if_lt (tgt := 55) hx hb dX9_append_4 (by decide) (fun c_4 => absurd c_4 (by decide)) (fun c_4 => ?_)
  refine lv_aload_n hx hb dX9_append_7 rfl (lv_at hl 1 rfl) ?_
  refine q_get hx hb hts hown hA hW iX9 q_eq rfl 1 (by decide) (hts (.fieldLink RX9 15 "HighRecipes$Tape" "length" "I") (by decide +kernel)) (fun _ h9 => h9) (v := .int (nI (L + 2))) rfl dX9_append_8 ?_
  refine lv_if_lt (tgt := 49) hx hb dX9_append_11 (by decide) (fun c_11 => absurd c_11 (nI_pos (by omega))) (fun c_11 => ?_)
  refine lv_aload_n hx hb dX9_append_14 rfl (lv_at hl 1 rfl) ?_
  refine q_get hx hb hts hown hA hW iX9 q_eq rfl 1 (by decide) (hts (.fieldLink RX9 15 "HighRecipes$Tape" "length" "I") (by decide +kernel)) (fun _ h9 => h9) (v := .int (nI (L + 2))) rfl dX9_append_15 ?_
  refine lv_aload_n hx hb dX9_append_18 rfl (lv_at hl 1 rfl) ?_
  refine q_get hx hb hts hown hA hW iX9 q_eq rfl 0 (by decide) (hts (.fieldLink RX9 9 "HighRecipes$Tape" "bytes" "[B") (by decide +kernel)) (fun _ h9 => h9) (v := .ref (x + 1)) rfl dX9_append_19 ?_
  refine q_alen hx hb hA hW 2 rfl (q_ne (by omega) q_eq) (v := Int32.ofNat 1600) rfl dX9_append_22 ?_
  refine lv_icmp_ge (tgt := 49) hx hb dX9_append_23 (by decide) (fun c_23 => absurd c_23 (nI_ge (show L + 2 < 1600 by omega) (by decide))) (fun c_23 => ?_)
  refine lv_aload_n hx hb dX9_append_26 rfl (lv_at hl 1 rfl) ?_
  refine q_get hx hb hts hown hA hW iX9 q_eq rfl 0 (by decide) (hts (.fieldLink RX9 9 "HighRecipes$Tape" "bytes" "[B") (by decide +kernel)) (fun _ h9 => h9) (v := .ref (x + 1)) rfl dX9_append_27 ?_
  refine lv_aload_n hx hb dX9_append_30 rfl (lv_at hl 1 rfl) ?_
  refine q_get hx hb hts hown hA hW iX9 q_eq rfl 1 (by decide) (hts (.fieldLink RX9 15 "HighRecipes$Tape" "length" "I") (by decide +kernel)) (fun _ h9 => h9) (v := .int (nI (L + 2))) rfl dX9_append_31 ?_
  refine lv_iload_n hx hb dX9_append_34 rfl (lv_at hl 2 rfl) ?_
  refine lv_iload_n hx hb dX9_append_35 rfl (lv_at hl 0 rfl) ?_
  refine lv_iushr hx hb dX9_append_36 rfl ?_
  refine lv_i2b hx hb dX9_append_37 rfl ?_
  refine q_bast hx hb hA hW hS (q_ne (by omega) q_eq) (vp_in_nI (by omega) (by decide)) dX9_append_38 (fun H locs hW hS => ?_)
  rw [show (nI (L + 2)).toNatClampNeg = L + 2 from (nI_clamp (by omega))] at hW
  have hW : q_W E (va_up (va_up (va_up (va_up (va_up f (x + 1) (some (aB E 1600 (upd g L (((x9.toUInt32 >>> ((24 : Int32).toUInt32 &&& Int32.toUInt32 31)).toInt32).toInt8.toInt32).toInt8.toInt32)))) x (some (cTape x (nI (L + 1))))) (x + 1) (some (aB E 1600 (upd (upd g L (((x9.toUInt32 >>> ((24 : Int32).toUInt32 &&& Int32.toUInt32 31)).toInt32).toInt8.toInt32).toInt8.toInt32) (L + 1) (((x9.toUInt32 >>> ((16 : Int32).toUInt32 &&& Int32.toUInt32 31)).toInt32).toInt8.toInt32).toInt8.toInt32)))) x (some (cTape x (nI (L + 2))))) (x + 1) (some (aB E 1600 (upd (upd (upd g L (((x9.toUInt32 >>> ((24 : Int32).toUInt32 &&& Int32.toUInt32 31)).toInt32).toInt8.toInt32).toInt8.toInt32) (L + 1) (((x9.toUInt32 >>> ((16 : Int32).toUInt32 &&& Int32.toUInt32 31)).toInt32).toInt8.toInt32).toInt8.toInt32) (L + 2) (((x9.toUInt32 >>> ((8 : Int32).toUInt32 &&& Int32.toUInt32 31)).toInt32).toInt8.toInt32).toInt8.toInt32)))) n H := hW
  refine lv_aload_n hx hb dX9_append_39 rfl (lv_at hl 1 rfl) ?_
  refine lv_dup hx hb dX9_append_40 rfl ?_
  refine q_get hx hb hts hown hA hW iX9 (q_ne (by omega) q_eq) rfl 1 (by decide) (hts (.fieldLink RX9 15 "HighRecipes$Tape" "length" "I") (by decide +kernel)) (fun _ h9 => h9) (v := .int (nI (L + 2))) rfl dX9_append_41 ?_
  refine lv_iconst (v := 1) hx hb dX9_append_44 (by decide) ?_
  refine lv_iadd hx hb dX9_append_45 ?_
  rw [nI_1]
  refine q_put hx hb hts hown hA hW hS iX9 tyX9 tyX9_ok nmX9 (q_ne (by omega) q_eq) rfl 1 (by decide) (hts (.fieldLink RX9 15 "HighRecipes$Tape" "length" "I") (by decide +kernel)) (fun _ h9 => h9) rfl rfl rfl (Nat.le_of_ble_eq_true rfl) dX9_append_46 (fun H locs hW hS => ?_)
  have hW : q_W E (va_up (va_up (va_up (va_up (va_up (va_up f (x + 1) (some (aB E 1600 (upd g L (((x9.toUInt32 >>> ((24 : Int32).toUInt32 &&& Int32.toUInt32 31)).toInt32).toInt8.toInt32).toInt8.toInt32)))) x (some (cTape x (nI (L + 1))))) (x + 1) (some (aB E 1600 (upd (upd g L (((x9.toUInt32 >>> ((24 : Int32).toUInt32 &&& Int32.toUInt32 31)).toInt32).toInt8.toInt32).toInt8.toInt32) (L + 1) (((x9.toUInt32 >>> ((16 : Int32).toUInt32 &&& Int32.toUInt32 31)).toInt32).toInt8.toInt32).toInt8.toInt32)))) x (some (cTape x (nI (L + 2))))) (x + 1) (some (aB E 1600 (upd (upd (upd g L (((x9.toUInt32 >>> ((24 : Int32).toUInt32 &&& Int32.toUInt32 31)).toInt32).toInt8.toInt32).toInt8.toInt32) (L + 1) (((x9.toUInt32 >>> ((16 : Int32).toUInt32 &&& Int32.toUInt32 31)).toInt32).toInt8.toInt32).toInt8.toInt32) (L + 2) (((x9.toUInt32 >>> ((8 : Int32).toUInt32 &&& Int32.toUInt32 31)).toInt32).toInt8.toInt32).toInt8.toInt32)))) x (some (cTape x (nI (L + 3))))) n H := hW
  refine lv_iinc (v := 0) (lv' := [(2, .int 0), (0, .ref x), (1, .int x9)]) hx hb dX9_append_49 hl (k := 0) rfl (by decide) (by decide) rfl (fun ls hl => ?_)
  refine lv_goto (tgt := 3) hx hb dX9_append_52 (by decide) ?_
  refine lv_iload_n hx hb dX9_append_3 rfl (lv_at hl 0 rfl) ?_
  refine lv_if_lt (tgt := 55) hx hb dX9_append_4 (by decide) (fun c_4 => absurd c_4 (by decide)) (fun c_4 => ?_)
  refine lv_aload_n hx hb dX9_append_7 rfl (lv_at hl 1 rfl) ?_
  refine q_get hx hb hts hown hA hW iX9 q_eq rfl 1 (by decide) (hts (.fieldLink RX9 15 "HighRecipes$Tape" "length" "I") (by decide +kernel)) (fun _ h9 => h9) (v := .int (nI (L + 3))) rfl dX9_append_8 ?_
  refine lv_if_lt (tgt := 49) hx hb dX9_append_11 (by decide) (fun c_11 => absurd c_11 (nI_pos (by omega))) (fun c_11 => ?_)
  refine lv_aload_n hx hb dX9_append_14 rfl (lv_at hl 1 rfl) ?_
  refine q_get hx hb hts hown hA hW iX9 q_eq rfl 1 (by decide) (hts (.fieldLink RX9 15 "HighRecipes$Tape" "length" "I") (by decide +kernel)) (fun _ h9 => h9) (v := .int (nI (L + 3))) rfl dX9_append_15 ?_
  refine lv_aload_n hx hb dX9_append_18 rfl (lv_at hl 1 rfl) ?_
  refine q_get hx hb hts hown hA hW iX9 q_eq rfl 0 (by decide) (hts (.fieldLink RX9 9 "HighRecipes$Tape" "bytes" "[B") (by decide +kernel)) (fun _ h9 => h9) (v := .ref (x + 1)) rfl dX9_append_19 ?_
  refine q_alen hx hb hA hW 2 rfl (q_ne (by omega) q_eq) (v := Int32.ofNat 1600) rfl dX9_append_22 ?_
  refine lv_icmp_ge (tgt := 49) hx hb dX9_append_23 (by decide) (fun c_23 => absurd c_23 (nI_ge (show L + 3 < 1600 by omega) (by decide))) (fun c_23 => ?_)
  refine lv_aload_n hx hb dX9_append_26 rfl (lv_at hl 1 rfl) ?_
  refine q_get hx hb hts hown hA hW iX9 q_eq rfl 0 (by decide) (hts (.fieldLink RX9 9 "HighRecipes$Tape" "bytes" "[B") (by decide +kernel)) (fun _ h9 => h9) (v := .ref (x + 1)) rfl dX9_append_27 ?_
  refine lv_aload_n hx hb dX9_append_30 rfl (lv_at hl 1 rfl) ?_
  refine q_get hx hb hts hown hA hW iX9 q_eq rfl 1 (by decide) (hts (.fieldLink RX9 15 "HighRecipes$Tape" "length" "I") (by decide +kernel)) (fun _ h9 => h9) (v := .int (nI (L + 3))) rfl dX9_append_31 ?_
  refine lv_iload_n hx hb dX9_append_34 rfl (lv_at hl 2 rfl) ?_
  refine lv_iload_n hx hb dX9_append_35 rfl (lv_at hl 0 rfl) ?_
  refine lv_iushr hx hb dX9_append_36 rfl ?_
  refine lv_i2b hx hb dX9_append_37 rfl ?_
  refine q_bast hx hb hA hW hS (q_ne (by omega) q_eq) (vp_in_nI (by omega) (by decide)) dX9_append_38 (fun H locs hW hS => ?_)
  rw [show (nI (L + 3)).toNatClampNeg = L + 3 from (nI_clamp (by omega))] at hW
  have hW : q_W E (va_up (va_up (va_up (va_up (va_up (va_up (va_up f (x + 1) (some (aB E 1600 (upd g L (((x9.toUInt32 >>> ((24 : Int32).toUInt32 &&& Int32.toUInt32 31)).toInt32).toInt8.toInt32).toInt8.toInt32)))) x (some (cTape x (nI (L + 1))))) (x + 1) (some (aB E 1600 (upd (upd g L (((x9.toUInt32 >>> ((24 : Int32).toUInt32 &&& Int32.toUInt32 31)).toInt32).toInt8.toInt32).toInt8.toInt32) (L + 1) (((x9.toUInt32 >>> ((16 : Int32).toUInt32 &&& Int32.toUInt32 31)).toInt32).toInt8.toInt32).toInt8.toInt32)))) x (some (cTape x (nI (L + 2))))) (x + 1) (some (aB E 1600 (upd (upd (upd g L (((x9.toUInt32 >>> ((24 : Int32).toUInt32 &&& Int32.toUInt32 31)).toInt32).toInt8.toInt32).toInt8.toInt32) (L + 1) (((x9.toUInt32 >>> ((16 : Int32).toUInt32 &&& Int32.toUInt32 31)).toInt32).toInt8.toInt32).toInt8.toInt32) (L + 2) (((x9.toUInt32 >>> ((8 : Int32).toUInt32 &&& Int32.toUInt32 31)).toInt32).toInt8.toInt32).toInt8.toInt32)))) x (some (cTape x (nI (L + 3))))) (x + 1) (some (aB E 1600 (upd (upd (upd (upd g L (((x9.toUInt32 >>> ((24 : Int32).toUInt32 &&& Int32.toUInt32 31)).toInt32).toInt8.toInt32).toInt8.toInt32) (L + 1) (((x9.toUInt32 >>> ((16 : Int32).toUInt32 &&& Int32.toUInt32 31)).toInt32).toInt8.toInt32).toInt8.toInt32) (L + 2) (((x9.toUInt32 >>> ((8 : Int32).toUInt32 &&& Int32.toUInt32 31)).toInt32).toInt8.toInt32).toInt8.toInt32) (L + 3) (((x9.toUInt32 >>> ((0 : Int32).toUInt32 &&& Int32.toUInt32 31)).toInt32).toInt8.toInt32).toInt8.toInt32)))) n H := hW
  refine lv_aload_n hx hb dX9_append_39 rfl (lv_at hl 1 rfl) ?_
  refine lv_dup hx hb dX9_append_40 rfl ?_
  refine q_get hx hb hts hown hA hW iX9 (q_ne (by omega) q_eq) rfl 1 (by decide) (hts (.fieldLink RX9 15 "HighRecipes$Tape" "length" "I") (by decide +kernel)) (fun _ h9 => h9) (v := .int (nI (L + 3))) rfl dX9_append_41 ?_
  refine lv_iconst (v := 1) hx hb dX9_append_44 (by decide) ?_
  refine lv_iadd hx hb dX9_append_45 ?_
  rw [nI_1]
  refine q_put hx hb hts hown hA hW hS iX9 tyX9 tyX9_ok nmX9 (q_ne (by omega) q_eq) rfl 1 (by decide) (hts (.fieldLink RX9 15 "HighRecipes$Tape" "length" "I") (by decide +kernel)) (fun _ h9 => h9) rfl rfl rfl (Nat.le_of_ble_eq_true rfl) dX9_append_46 (fun H locs hW hS => ?_)
  have hW : q_W E (va_up (va_up (va_up (va_up (va_up (va_up (va_up (va_up f (x + 1) (some (aB E 1600 (upd g L (((x9.toUInt32 >>> ((24 : Int32).toUInt32 &&& Int32.toUInt32 31)).toInt32).toInt8.toInt32).toInt8.toInt32)))) x (some (cTape x (nI (L + 1))))) (x + 1) (some (aB E 1600 (upd (upd g L (((x9.toUInt32 >>> ((24 : Int32).toUInt32 &&& Int32.toUInt32 31)).toInt32).toInt8.toInt32).toInt8.toInt32) (L + 1) (((x9.toUInt32 >>> ((16 : Int32).toUInt32 &&& Int32.toUInt32 31)).toInt32).toInt8.toInt32).toInt8.toInt32)))) x (some (cTape x (nI (L + 2))))) (x + 1) (some (aB E 1600 (upd (upd (upd g L (((x9.toUInt32 >>> ((24 : Int32).toUInt32 &&& Int32.toUInt32 31)).toInt32).toInt8.toInt32).toInt8.toInt32) (L + 1) (((x9.toUInt32 >>> ((16 : Int32).toUInt32 &&& Int32.toUInt32 31)).toInt32).toInt8.toInt32).toInt8.toInt32) (L + 2) (((x9.toUInt32 >>> ((8 : Int32).toUInt32 &&& Int32.toUInt32 31)).toInt32).toInt8.toInt32).toInt8.toInt32)))) x (some (cTape x (nI (L + 3))))) (x + 1) (some (aB E 1600 (upd (upd (upd (upd g L (((x9.toUInt32 >>> ((24 : Int32).toUInt32 &&& Int32.toUInt32 31)).toInt32).toInt8.toInt32).toInt8.toInt32) (L + 1) (((x9.toUInt32 >>> ((16 : Int32).toUInt32 &&& Int32.toUInt32 31)).toInt32).toInt8.toInt32).toInt8.toInt32) (L + 2) (((x9.toUInt32 >>> ((8 : Int32).toUInt32 &&& Int32.toUInt32 31)).toInt32).toInt8.toInt32).toInt8.toInt32) (L + 3) (((x9.toUInt32 >>> ((0 : Int32).toUInt32 &&& Int32.toUInt32 31)).toInt32).toInt8.toInt32).toInt8.toInt32)))) x (some (cTape x (nI (L + 4))))) n H := hW
  refine lv_iinc (v := (-8)) (lv' := [(2, .int (-8)), (0, .ref x), (1, .int x9)]) hx hb dX9_append_49 hl (k := 0) rfl (by decide) (by decide) rfl (fun ls hl => ?_)
  refine lv_goto (tgt := 3) hx hb dX9_append_52 (by decide) ?_
  refine lv_iload_n hx hb dX9_append_3 rfl (lv_at hl 0 rfl) ?_
  refine lv_if_lt (tgt := 55) hx hb dX9_append_4 (by decide) (fun c_4 => ?_) (fun c_4 => absurd (by decide) c_4)
  exact q_vret hx hb hr hlocks hW hS ⟨(by funext q; by_cases h1 : q = x <;> by_cases h2 : q = x + 1 <;> simp [va_up, h1, h2, t_four, t_b]), rfl⟩ (Nat.le_of_ble_eq_true rfl) (Nat.le_of_ble_eq_true rfl) dX9_append_55

