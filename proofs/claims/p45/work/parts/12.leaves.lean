/-! cells by their fields; numbers as Java reckons them -/
abbrev cPan (h w m t d : Int32) : va_E := .inr (7, [.int h, .int w, .int m, .int t, .int d])
abbrev aI (E : q_E) (N : Nat) (g : Nat → Int32) : va_E := .inl (E.2.1 0, N, .inl g)
abbrev aJ (E : q_E) (N : Nat) (g : Nat → Int64) : va_E := .inl (E.2.1 1, N, .inr (.inl g))
abbrev aB (E : q_E) (N : Nat) (g : Nat → Int32) : va_E := .inl (E.2.1 2, N, .inl g)
abbrev aQ (E : q_E) (t N : Nat) (g : Nat → Option Nat) : va_E := .inl (E.2.1 t, N, .inr (.inr (.inr (.inr g))))
abbrev q_max (x y : Int32) : Int32 := if x < y then y else x
abbrev q_min (x y : Int32) : Int32 := if y < x then y else x
abbrev q_quot (x y : Int32) : Int32 := if y = 0 then 0 else x / y
abbrev q_clamp (x lo hi : Int32) : Int32 := q_max lo (q_min hi x)
abbrev z_boil (high : Int32) : Int32 := 100 - high / 3
abbrev z_slow (high : Int32) : Int32 := 100 + 5 * (100 - z_boil high)
abbrev z_long (told high : Int32) : Int32 := (told * z_slow high + 99) / 100

set_option maxHeartbeats 4000000 in
set_option maxRecDepth 100000 in
theorem kX12_quotient (l : Launch) (E : q_E) (f : q_H) (n : Nat) (x y : Int32)  : Met l yX12_quotient wsX12_quotient ({ frames := 0, cells := 0, slots := 0, locals := 0 }) (q_P E [.int x, .int y] f n) (q_Qi E (fun r f1 n1 => q_quot x y = r ∧ f = f1 ∧ n = n1)) 0 0 (q_ge E) := by
  refine Met.ofW (cc := cX12_quotient) (maxL := 2) (ret := (some .int)) (by decide) rfl ?_
  intro p e s m args below meth c s₁ B hml hv
  obtain ⟨rfl, hA, hW⟩ := hv
  have hx := B.exec
  have hb := B.bytes
  have hr := B.returns
  have hts := atoms_spec (ws := wsX12_quotient) B.pre
  have hown : s.vm.findClass RX12 = some m.cls := findClass_of_methodNamed B.named
  have hlocks := B.notSynchronized
  have hS : va_S (q_ge E) s.heap s.heap [] := va_S.rf
  have hl := lv_entry ([.int x, .int y]) (n := 2) (Nat.le_of_ble_eq_true rfl)
  rw [lg_entry_eq]
  generalize (lg_sl ([.int x, .int y]) ++ List.replicate (2 - (lg_sl ([.int x, .int y])).length) Slot.unset).toArray = ls at hl ⊢
  have hl : lv_has ls 2 [(0, .int x), (1, .int y)] := hl
  refine lv_iload_n hx hb dX12_quotient_0 rfl (lv_at hl 1 rfl) ?_
  refine lv_if_ne (tgt := 8) hx hb dX12_quotient_1 (by decide) (fun c_1 => ?_) (fun c_1 => ?_)
  · refine lv_iload_n hx hb dX12_quotient_8 rfl (lv_at hl 0 rfl) ?_
    refine lv_iload_n hx hb dX12_quotient_9 rfl (lv_at hl 1 rfl) ?_
    refine lv_idiv hx hb dX12_quotient_10 c_1 ?_
    exact q_iret hx hb hr hlocks hW hS ⟨(by simp [q_quot, c_1]), rfl, rfl⟩ (Nat.le_of_ble_eq_true rfl) (Nat.le_of_ble_eq_true rfl) dX12_quotient_11
  · refine lv_iconst (v := 0) hx hb dX12_quotient_4 (by decide) ?_
    refine lv_goto (tgt := 11) hx hb dX12_quotient_5 (by decide) ?_
    exact q_iret hx hb hr hlocks hW hS ⟨(by simp [q_quot, c_1]), rfl, rfl⟩ (Nat.le_of_ble_eq_true rfl) (Nat.le_of_ble_eq_true rfl) dX12_quotient_11

set_option maxHeartbeats 4000000 in
set_option maxRecDepth 100000 in
theorem kX12_clamped (l : Launch) (E : q_E) (f : q_H) (n : Nat) (x lo hi : Int32)  : Met l yX12_clamped wsX12_clamped ({ frames := 1, cells := 0, slots := 0, locals := 21 }) (q_P E [.int x, .int lo, .int hi] f n) (q_Qi E (fun r f1 n1 => q_clamp x lo hi = r ∧ f = f1 ∧ n = n1)) 0 0 (q_ge E) := by
  refine Met.ofW (cc := cX12_clamped) (maxL := 3) (ret := (some .int)) (by decide) rfl ?_
  intro p e s m args below meth c s₁ B hml hv
  obtain ⟨rfl, hA, hW⟩ := hv
  have hx := B.exec
  have hb := B.bytes
  have hr := B.returns
  have hts := atoms_spec (ws := wsX12_clamped) B.pre
  have hown : s.vm.findClass RX12 = some m.cls := findClass_of_methodNamed B.named
  have hlocks := B.notSynchronized
  have hS : va_S (q_ge E) s.heap s.heap [] := va_S.rf
  have hl := lv_entry ([.int x, .int lo, .int hi]) (n := 3) (Nat.le_of_ble_eq_true rfl)
  rw [lg_entry_eq]
  generalize (lg_sl ([.int x, .int lo, .int hi]) ++ List.replicate (3 - (lg_sl ([.int x, .int lo, .int hi])).length) Slot.unset).toArray = ls at hl ⊢
  have hl : lv_has ls 3 [(0, .int x), (1, .int lo), (2, .int hi)] := hl
  refine lv_iload_n hx hb dX12_clamped_0 rfl (lv_at hl 1 rfl) ?_
  refine lv_iload_n hx hb dX12_clamped_1 rfl (lv_at hl 2 rfl) ?_
  refine lv_iload_n hx hb dX12_clamped_2 rfl (lv_at hl 0 rfl) ?_
  refine va_mmin hx hb (hml.trans hl.1.symm) hown (hts (.methodLink RX12 232 Lib.Math.min.name) (by decide +kernel)) (hts (.static Lib.Math.min.name) (by decide +kernel)) (hts (.initialized "java/lang/Math") (by decide +kernel)) (hts (.code Lib.Math.min.name Lib.Math.min.code 2 (some .int)) (by decide +kernel)) (Nat.le_of_ble_eq_true rfl) (Nat.le_of_ble_eq_true rfl) (Nat.le_of_ble_eq_true rfl) (Nat.le_of_ble_eq_true rfl) dX12_clamped_3 ?_
  refine va_mmax hx hb (hml.trans hl.1.symm) hown (hts (.methodLink RX12 237 Lib.Math.max.name) (by decide +kernel)) (hts (.static Lib.Math.max.name) (by decide +kernel)) (hts (.initialized "java/lang/Math") (by decide +kernel)) (hts (.code Lib.Math.max.name Lib.Math.max.code 2 (some .int)) (by decide +kernel)) (Nat.le_of_ble_eq_true rfl) (Nat.le_of_ble_eq_true rfl) (Nat.le_of_ble_eq_true rfl) (Nat.le_of_ble_eq_true rfl) dX12_clamped_6 ?_
  exact q_iret hx hb hr hlocks hW hS ⟨rfl, rfl, rfl⟩ (Nat.le_of_ble_eq_true rfl) (Nat.le_of_ble_eq_true rfl) dX12_clamped_9

set_option maxHeartbeats 4000000 in
set_option maxRecDepth 100000 in
theorem kX6_boilingHeatAt (l : Launch) (E : q_E) (f : q_H) (n : Nat) (x : Int32)  : Met l yX6_boilingHeatAt wsX6_boilingHeatAt ({ frames := 0, cells := 0, slots := 0, locals := 0 }) (q_P E [.int x] f n) (q_Qi E (fun r f1 n1 => z_boil x = r ∧ f = f1 ∧ n = n1)) 0 0 (q_ge E) := by
  refine Met.ofW (cc := cX6_boilingHeatAt) (maxL := 1) (ret := (some .int)) (by decide) rfl ?_
  intro p e s m args below meth c s₁ B hml hv
  obtain ⟨rfl, hA, hW⟩ := hv
  have hx := B.exec
  have hb := B.bytes
  have hr := B.returns
  have hts := atoms_spec (ws := wsX6_boilingHeatAt) B.pre
  have hown : s.vm.findClass RX6 = some m.cls := findClass_of_methodNamed B.named
  have hlocks := B.notSynchronized
  have hS : va_S (q_ge E) s.heap s.heap [] := va_S.rf
  have hl := lv_entry ([.int x]) (n := 1) (Nat.le_of_ble_eq_true rfl)
  rw [lg_entry_eq]
  generalize (lg_sl ([.int x]) ++ List.replicate (1 - (lg_sl ([.int x])).length) Slot.unset).toArray = ls at hl ⊢
  have hl : lv_has ls 1 [(0, .int x)] := hl
  refine lv_bipush (v := 100) hx hb dX6_boilingHeatAt_0 (by decide) ?_
  refine lv_iload_n hx hb dX6_boilingHeatAt_2 rfl (lv_at hl 0 rfl) ?_
  refine lv_iconst (v := 3) hx hb dX6_boilingHeatAt_3 (by decide) ?_
  refine lv_idiv hx hb dX6_boilingHeatAt_4 (by decide) ?_
  refine lv_isub hx hb dX6_boilingHeatAt_5 ?_
  exact q_iret hx hb hr hlocks hW hS ⟨rfl, rfl, rfl⟩ (Nat.le_of_ble_eq_true rfl) (Nat.le_of_ble_eq_true rfl) dX6_boilingHeatAt_6

set_option maxHeartbeats 4000000 in
set_option maxRecDepth 100000 in
theorem kX6_slowness (l : Launch) (E : q_E) (f : q_H) (n : Nat) (x : Int32)  : Met l yX6_slowness wsX6_slowness ({ frames := 1, cells := 0, slots := 0, locals := 20 }) (q_P E [.int x] f n) (q_Qi E (fun r f1 n1 => z_slow x = r ∧ f = f1 ∧ n = n1)) 0 0 (q_ge E) := by
  refine Met.ofW (cc := cX6_slowness) (maxL := 1) (ret := (some .int)) (by decide) rfl ?_
  intro p e s m args below meth c s₁ B hml hv
  obtain ⟨rfl, hA, hW⟩ := hv
  have hx := B.exec
  have hb := B.bytes
  have hr := B.returns
  have hts := atoms_spec (ws := wsX6_slowness) B.pre
  have hown : s.vm.findClass RX6 = some m.cls := findClass_of_methodNamed B.named
  have hlocks := B.notSynchronized
  have hS : va_S (q_ge E) s.heap s.heap [] := va_S.rf
  have hl := lv_entry ([.int x]) (n := 1) (Nat.le_of_ble_eq_true rfl)
  rw [lg_entry_eq]
  generalize (lg_sl ([.int x]) ++ List.replicate (1 - (lg_sl ([.int x])).length) Slot.unset).toArray = ls at hl ⊢
  have hl : lv_has ls 1 [(0, .int x)] := hl
  refine lv_bipush (v := 100) hx hb dX6_slowness_0 (by decide) ?_
  refine lv_iconst (v := 5) hx hb dX6_slowness_2 (by decide) ?_
  refine lv_bipush (v := 100) hx hb dX6_slowness_3 (by decide) ?_
  refine lv_iload_n hx hb dX6_slowness_5 rfl (lv_at hl 0 rfl) ?_
  refine q_ci (va_runS (As := [.int x]) (rest := [.int 100, .int 5, .int 100]) ⟨hx, hb, hml, hown, hts⟩ (kX6_boilingHeatAt l E f n x) (va_cwS 1 hts gX6_slowness_X6_boilingHeatAt rfl rfl rfl (by decide +kernel) ⟨(Nat.le_of_ble_eq_true rfl), (Nat.le_of_ble_eq_true rfl)⟩) (q_pS hA hW hS) rfl rfl hl.1 rfl (lv_room (Nat.le_of_ble_eq_true rfl)) dX6_slowness_6 ⟨Nat.le_of_ble_eq_true rfl, Nat.le_of_ble_eq_true rfl⟩) hS (fun r_6 f_6 n_6 H locs hp hW hS => ?_)
  obtain ⟨rfl, rfl, rfl⟩ := hp
  have hW : q_W E (f) n H := hW
  refine lv_isub hx hb dX6_slowness_9 ?_
  refine lv_imul hx hb dX6_slowness_10 ?_
  refine lv_iadd hx hb dX6_slowness_11 ?_
  exact q_iret hx hb hr hlocks hW hS ⟨rfl, rfl, rfl⟩ (Nat.le_of_ble_eq_true rfl) (Nat.le_of_ble_eq_true rfl) dX6_slowness_12

set_option maxHeartbeats 4000000 in
set_option maxRecDepth 100000 in
theorem kX6_boilingMinutes (l : Launch) (E : q_E) (f : q_H) (n : Nat) (t x : Int32)  : Met l yX6_boilingMinutes wsX6_boilingMinutes ({ frames := 2, cells := 0, slots := 0, locals := 40 }) (q_P E [.int t, .int x] f n) (q_Qi E (fun r f1 n1 => z_long t x = r ∧ f = f1 ∧ n = n1)) 0 0 (q_ge E) := by
  refine Met.ofW (cc := cX6_boilingMinutes) (maxL := 2) (ret := (some .int)) (by decide) rfl ?_
  intro p e s m args below meth c s₁ B hml hv
  obtain ⟨rfl, hA, hW⟩ := hv
  have hx := B.exec
  have hb := B.bytes
  have hr := B.returns
  have hts := atoms_spec (ws := wsX6_boilingMinutes) B.pre
  have hown : s.vm.findClass RX6 = some m.cls := findClass_of_methodNamed B.named
  have hlocks := B.notSynchronized
  have hS : va_S (q_ge E) s.heap s.heap [] := va_S.rf
  have hl := lv_entry ([.int t, .int x]) (n := 2) (Nat.le_of_ble_eq_true rfl)
  rw [lg_entry_eq]
  generalize (lg_sl ([.int t, .int x]) ++ List.replicate (2 - (lg_sl ([.int t, .int x])).length) Slot.unset).toArray = ls at hl ⊢
  have hl : lv_has ls 2 [(0, .int t), (1, .int x)] := hl
  refine lv_iload_n hx hb dX6_boilingMinutes_0 rfl (lv_at hl 0 rfl) ?_
  refine lv_iload_n hx hb dX6_boilingMinutes_1 rfl (lv_at hl 1 rfl) ?_
  refine q_ci (va_runS (As := [.int x]) (rest := [.int t]) ⟨hx, hb, hml, hown, hts⟩ (kX6_slowness l E f n x) (va_cwS 1 hts gX6_boilingMinutes_X6_slowness rfl rfl rfl (by decide +kernel) ⟨(Nat.le_of_ble_eq_true rfl), (Nat.le_of_ble_eq_true rfl)⟩) (q_pS hA hW hS) rfl rfl hl.1 rfl (lv_room (Nat.le_of_ble_eq_true rfl)) dX6_boilingMinutes_2 ⟨Nat.le_of_ble_eq_true rfl, Nat.le_of_ble_eq_true rfl⟩) hS (fun r_2 f_2 n_2 H locs hp hW hS => ?_)
  obtain ⟨rfl, rfl, rfl⟩ := hp
  have hW : q_W E (f) n H := hW
  refine lv_imul hx hb dX6_boilingMinutes_5 ?_
  refine lv_bipush (v := 99) hx hb dX6_boilingMinutes_6 (by decide) ?_
  refine lv_iadd hx hb dX6_boilingMinutes_8 ?_
  refine lv_bipush (v := 100) hx hb dX6_boilingMinutes_9 (by decide) ?_
  refine lv_idiv hx hb dX6_boilingMinutes_11 (by decide) ?_
  exact q_iret hx hb hr hlocks hW hS ⟨rfl, rfl, rfl⟩ (Nat.le_of_ble_eq_true rfl) (Nat.le_of_ble_eq_true rfl) dX6_boilingMinutes_12

set_option maxHeartbeats 4000000 in
set_option maxRecDepth 100000 in
theorem kX7_init (l : Launch) (E : q_E) (f : q_H) (n : Nat) (a : Nat) (h w ml t d : Int32) (h0 : f a = some (cPan h w ml t d)) : Met l yX7_init wsX7_init ({ frames := 1, cells := 0, slots := 0, locals := 20 }) (q_P E [.ref a] f n) (q_Qv E (fun f1 n1 => va_up f a (some (cPan h w ml 20 d)) = f1 ∧ n = n1)) 0 0 (q_ge E) := by
  refine Met.ofW (cc := cX7_init) (maxL := 1) (ret := none) (by decide) rfl ?_
  intro p e s m args below meth c s₁ B hml hv
  obtain ⟨rfl, hA, hW⟩ := hv
  have hx := B.exec
  have hb := B.bytes
  have hr := B.returns
  have hts := atoms_spec (ws := wsX7_init) B.pre
  have hown : s.vm.findClass RX7 = some m.cls := findClass_of_methodNamed B.named
  have hlocks := B.notSynchronized
  have hin : meth.name = "<init>" := (name_of_methodNamed B.named B.method).1
  have hS : va_S (q_ge E) s.heap s.heap [] := va_S.rf
  have iX7 : ∀ w ∈ wsX70, w ∈ wsX7_init := by decide +kernel
  have hl := lv_entry ([.ref a]) (n := 1) (Nat.le_of_ble_eq_true rfl)
  rw [lg_entry_eq]
  generalize (lg_sl ([.ref a]) ++ List.replicate (1 - (lg_sl ([.ref a])).length) Slot.unset).toArray = ls at hl ⊢
  have hl : lv_has ls 1 [(0, .ref a)] := hl
  refine lv_aload_n hx hb dX7_init_0 rfl (lv_at hl 0 rfl) ?_
  refine W.objInit hx hb hown (hts (.methodLink RX7 3 objectInit) (by decide +kernel)) (hts (.instanceMethod objectInit) (by decide +kernel)) (hts (.code objectInit ⟨#[0xb1]⟩ 1 none) (by decide +kernel)) rfl (hl.1.trans hml.symm) rfl dX7_init_1 (Nat.le_of_ble_eq_true rfl) (Nat.le_of_ble_eq_true rfl) ?_
  refine lv_aload_n hx hb dX7_init_4 rfl (lv_at hl 0 rfl) ?_
  refine lv_bipush (v := 20) hx hb dX7_init_5 (by decide) ?_
  refine q_put hx hb hts hown hA hW hS iX7 tyX7 tyX7_ok nmX7 h0 rfl 3 (by decide) (hts (.fieldLink RX7 9 "HighRecipes$Pan" "heat" "I") (by decide +kernel)) (fun _ h9 => h9) rfl rfl rfl (Nat.le_of_ble_eq_true rfl) dX7_init_7 (fun H locs hW hS => ?_)
  have hW : q_W E (va_up f a (some (cPan h w ml 20 d))) n H := hW
  exact q_vret hx hb hr hlocks hW hS ⟨rfl, rfl⟩ (Nat.le_of_ble_eq_true rfl) (Nat.le_of_ble_eq_true rfl) dX7_init_10

set_option maxHeartbeats 4000000 in
set_option maxRecDepth 100000 in
theorem kX7_clear (l : Launch) (E : q_E) (f : q_H) (n : Nat) (a : Nat) (h w ml t d : Int32) (h0 : f a = some (cPan h w ml t d)) : Met l yX7_clear wsX7_clear ({ frames := 0, cells := 0, slots := 0, locals := 0 }) (q_P E [.ref a] f n) (q_Qv E (fun f1 n1 => va_up f a (some (cPan h 0 0 20 0)) = f1 ∧ n = n1)) 0 0 (q_ge E) := by
  refine Met.ofW (cc := cX7_clear) (maxL := 1) (ret := none) (by decide) rfl ?_
  intro p e s m args below meth c s₁ B hml hv
  obtain ⟨rfl, hA, hW⟩ := hv
  have hx := B.exec
  have hb := B.bytes
  have hr := B.returns
  have hts := atoms_spec (ws := wsX7_clear) B.pre
  have hown : s.vm.findClass RX7 = some m.cls := findClass_of_methodNamed B.named
  have hlocks := B.notSynchronized
  have hS : va_S (q_ge E) s.heap s.heap [] := va_S.rf
  have iX7 : ∀ w ∈ wsX70, w ∈ wsX7_clear := by decide +kernel
  have hl := lv_entry ([.ref a]) (n := 1) (Nat.le_of_ble_eq_true rfl)
  rw [lg_entry_eq]
  generalize (lg_sl ([.ref a]) ++ List.replicate (1 - (lg_sl ([.ref a])).length) Slot.unset).toArray = ls at hl ⊢
  have hl : lv_has ls 1 [(0, .ref a)] := hl
  refine lv_aload_n hx hb dX7_clear_0 rfl (lv_at hl 0 rfl) ?_
  refine lv_iconst (v := 0) hx hb dX7_clear_1 (by decide) ?_
  refine q_put hx hb hts hown hA hW hS iX7 tyX7 tyX7_ok nmX7 h0 rfl 1 (by decide) (hts (.fieldLink RX7 15 "HighRecipes$Pan" "water" "I") (by decide +kernel)) (fun _ h9 => h9) rfl rfl rfl (Nat.le_of_ble_eq_true rfl) dX7_clear_2 (fun H locs hW hS => ?_)
  have hW : q_W E (va_up f a (some (cPan h 0 ml t d))) n H := hW
  refine lv_aload_n hx hb dX7_clear_5 rfl (lv_at hl 0 rfl) ?_
  refine lv_iconst (v := 0) hx hb dX7_clear_6 (by decide) ?_
  refine q_put hx hb hts hown hA hW hS iX7 tyX7 tyX7_ok nmX7 q_eq rfl 2 (by decide) (hts (.fieldLink RX7 18 "HighRecipes$Pan" "meal" "I") (by decide +kernel)) (fun _ h9 => h9) rfl rfl rfl (Nat.le_of_ble_eq_true rfl) dX7_clear_7 (fun H locs hW hS => ?_)
  rw [q_upup] at hW
  have hW : q_W E (va_up f a (some (cPan h 0 0 t d))) n H := hW
  refine lv_aload_n hx hb dX7_clear_10 rfl (lv_at hl 0 rfl) ?_
  refine lv_bipush (v := 20) hx hb dX7_clear_11 (by decide) ?_
  refine q_put hx hb hts hown hA hW hS iX7 tyX7 tyX7_ok nmX7 q_eq rfl 3 (by decide) (hts (.fieldLink RX7 9 "HighRecipes$Pan" "heat" "I") (by decide +kernel)) (fun _ h9 => h9) rfl rfl rfl (Nat.le_of_ble_eq_true rfl) dX7_clear_13 (fun H locs hW hS => ?_)
  rw [q_upup] at hW
  have hW : q_W E (va_up f a (some (cPan h 0 0 20 d))) n H := hW
  refine lv_aload_n hx hb dX7_clear_16 rfl (lv_at hl 0 rfl) ?_
  refine lv_iconst (v := 0) hx hb dX7_clear_17 (by decide) ?_
  refine q_put hx hb hts hown hA hW hS iX7 tyX7 tyX7_ok nmX7 q_eq rfl 4 (by decide) (hts (.fieldLink RX7 21 "HighRecipes$Pan" "done" "I") (by decide +kernel)) (fun _ h9 => h9) rfl rfl rfl (Nat.le_of_ble_eq_true rfl) dX7_clear_18 (fun H locs hW hS => ?_)
  rw [q_upup] at hW
  have hW : q_W E (va_up f a (some (cPan h 0 0 20 0))) n H := hW
  exact q_vret hx hb hr hlocks hW hS ⟨rfl, rfl⟩ (Nat.le_of_ble_eq_true rfl) (Nat.le_of_ble_eq_true rfl) dX7_clear_21

set_option maxHeartbeats 4000000 in
set_option maxRecDepth 100000 in
theorem kX7_inside (l : Launch) (E : q_E) (f : q_H) (n : Nat) (a : Nat) (h w ml t d : Int32) (h0 : f a = some (cPan h w ml t d)) : Met l yX7_inside wsX7_inside ({ frames := 0, cells := 0, slots := 0, locals := 0 }) (q_P E [.ref a] f n) (q_Qi E (fun r f1 n1 => w + ml = r ∧ f = f1 ∧ n = n1)) 0 0 (q_ge E) := by
  refine Met.ofW (cc := cX7_inside) (maxL := 1) (ret := (some .int)) (by decide) rfl ?_
  intro p e s m args below meth c s₁ B hml hv
  obtain ⟨rfl, hA, hW⟩ := hv
  have hx := B.exec
  have hb := B.bytes
  have hr := B.returns
  have hts := atoms_spec (ws := wsX7_inside) B.pre
  have hown : s.vm.findClass RX7 = some m.cls := findClass_of_methodNamed B.named
  have hlocks := B.notSynchronized
  have hS : va_S (q_ge E) s.heap s.heap [] := va_S.rf
  have iX7 : ∀ w ∈ wsX70, w ∈ wsX7_inside := by decide +kernel
  have hl := lv_entry ([.ref a]) (n := 1) (Nat.le_of_ble_eq_true rfl)
  rw [lg_entry_eq]
  generalize (lg_sl ([.ref a]) ++ List.replicate (1 - (lg_sl ([.ref a])).length) Slot.unset).toArray = ls at hl ⊢
  have hl : lv_has ls 1 [(0, .ref a)] := hl
  refine lv_aload_n hx hb dX7_inside_0 rfl (lv_at hl 0 rfl) ?_
  refine q_get hx hb hts hown hA hW iX7 h0 rfl 1 (by decide) (hts (.fieldLink RX7 15 "HighRecipes$Pan" "water" "I") (by decide +kernel)) (fun _ h9 => h9) (v := .int w) rfl dX7_inside_1 ?_
  refine lv_aload_n hx hb dX7_inside_4 rfl (lv_at hl 0 rfl) ?_
  refine q_get hx hb hts hown hA hW iX7 h0 rfl 2 (by decide) (hts (.fieldLink RX7 18 "HighRecipes$Pan" "meal" "I") (by decide +kernel)) (fun _ h9 => h9) (v := .int ml) rfl dX7_inside_5 ?_
  refine lv_iadd hx hb dX7_inside_8 ?_
  exact q_iret hx hb hr hlocks hW hS ⟨rfl, rfl, rfl⟩ (Nat.le_of_ble_eq_true rfl) (Nat.le_of_ble_eq_true rfl) dX7_inside_9

set_option maxHeartbeats 4000000 in
set_option maxRecDepth 100000 in
theorem kX7_space (l : Launch) (E : q_E) (f : q_H) (n : Nat) (a : Nat) (h w ml t d : Int32) (h0 : f a = some (cPan h w ml t d)) : Met l yX7_space wsX7_space ({ frames := 0, cells := 0, slots := 0, locals := 0 }) (q_P E [.ref a] f n) (q_Qi E (fun r f1 n1 => h - w - ml = r ∧ f = f1 ∧ n = n1)) 0 0 (q_ge E) := by
  refine Met.ofW (cc := cX7_space) (maxL := 1) (ret := (some .int)) (by decide) rfl ?_
  intro p e s m args below meth c s₁ B hml hv
  obtain ⟨rfl, hA, hW⟩ := hv
  have hx := B.exec
  have hb := B.bytes
  have hr := B.returns
  have hts := atoms_spec (ws := wsX7_space) B.pre
  have hown : s.vm.findClass RX7 = some m.cls := findClass_of_methodNamed B.named
  have hlocks := B.notSynchronized
  have hS : va_S (q_ge E) s.heap s.heap [] := va_S.rf
  have iX7 : ∀ w ∈ wsX70, w ∈ wsX7_space := by decide +kernel
  have hl := lv_entry ([.ref a]) (n := 1) (Nat.le_of_ble_eq_true rfl)
  rw [lg_entry_eq]
  generalize (lg_sl ([.ref a]) ++ List.replicate (1 - (lg_sl ([.ref a])).length) Slot.unset).toArray = ls at hl ⊢
  have hl : lv_has ls 1 [(0, .ref a)] := hl
  refine lv_aload_n hx hb dX7_space_0 rfl (lv_at hl 0 rfl) ?_
  refine q_get hx hb hts hown hA hW iX7 h0 rfl 0 (by decide) (hts (.fieldLink RX7 24 "HighRecipes$Pan" "holds" "I") (by decide +kernel)) (fun _ h9 => h9) (v := .int h) rfl dX7_space_1 ?_
  refine lv_aload_n hx hb dX7_space_4 rfl (lv_at hl 0 rfl) ?_
  refine q_get hx hb hts hown hA hW iX7 h0 rfl 1 (by decide) (hts (.fieldLink RX7 15 "HighRecipes$Pan" "water" "I") (by decide +kernel)) (fun _ h9 => h9) (v := .int w) rfl dX7_space_5 ?_
  refine lv_isub hx hb dX7_space_8 ?_
  refine lv_aload_n hx hb dX7_space_9 rfl (lv_at hl 0 rfl) ?_
  refine q_get hx hb hts hown hA hW iX7 h0 rfl 2 (by decide) (hts (.fieldLink RX7 18 "HighRecipes$Pan" "meal" "I") (by decide +kernel)) (fun _ h9 => h9) (v := .int ml) rfl dX7_space_10 ?_
  refine lv_isub hx hb dX7_space_13 ?_
  exact q_iret hx hb hr hlocks hW hS ⟨rfl, rfl, rfl⟩ (Nat.le_of_ble_eq_true rfl) (Nat.le_of_ble_eq_true rfl) dX7_space_14

set_option maxHeartbeats 4000000 in
set_option maxRecDepth 100000 in
theorem kX7_cool (l : Launch) (E : q_E) (f : q_H) (n : Nat) (a : Nat) (h w ml t d : Int32) (k : Int32) (h0 : f a = some (cPan h w ml t d)) : Met l yX7_cool wsX7_cool ({ frames := 1, cells := 0, slots := 0, locals := 21 }) (q_P E [.ref a, .int k] f n) (q_Qv E (fun f1 n1 => va_up f a (some (cPan h w ml (q_max 20 (t - k / 2)) d)) = f1 ∧ n = n1)) 0 0 (q_ge E) := by
  refine Met.ofW (cc := cX7_cool) (maxL := 2) (ret := none) (by decide) rfl ?_
  intro p e s m args below meth c s₁ B hml hv
  obtain ⟨rfl, hA, hW⟩ := hv
  have hx := B.exec
  have hb := B.bytes
  have hr := B.returns
  have hts := atoms_spec (ws := wsX7_cool) B.pre
  have hown : s.vm.findClass RX7 = some m.cls := findClass_of_methodNamed B.named
  have hlocks := B.notSynchronized
  have hS : va_S (q_ge E) s.heap s.heap [] := va_S.rf
  have iX7 : ∀ w ∈ wsX70, w ∈ wsX7_cool := by decide +kernel
  have hl := lv_entry ([.ref a, .int k]) (n := 2) (Nat.le_of_ble_eq_true rfl)
  rw [lg_entry_eq]
  generalize (lg_sl ([.ref a, .int k]) ++ List.replicate (2 - (lg_sl ([.ref a, .int k])).length) Slot.unset).toArray = ls at hl ⊢
  have hl : lv_has ls 2 [(0, .ref a), (1, .int k)] := hl
  refine lv_aload_n hx hb dX7_cool_0 rfl (lv_at hl 0 rfl) ?_
  refine lv_bipush (v := 20) hx hb dX7_cool_1 (by decide) ?_
  refine lv_aload_n hx hb dX7_cool_3 rfl (lv_at hl 0 rfl) ?_
  refine q_get hx hb hts hown hA hW iX7 h0 rfl 3 (by decide) (hts (.fieldLink RX7 9 "HighRecipes$Pan" "heat" "I") (by decide +kernel)) (fun _ h9 => h9) (v := .int t) rfl dX7_cool_4 ?_
  refine lv_iload_n hx hb dX7_cool_7 rfl (lv_at hl 1 rfl) ?_
  refine lv_iconst (v := 2) hx hb dX7_cool_8 (by decide) ?_
  refine lv_idiv hx hb dX7_cool_9 (by decide) ?_
  refine lv_isub hx hb dX7_cool_10 ?_
  refine va_mmax hx hb (hml.trans hl.1.symm) hown (hts (.methodLink RX7 43 Lib.Math.max.name) (by decide +kernel)) (hts (.static Lib.Math.max.name) (by decide +kernel)) (hts (.initialized "java/lang/Math") (by decide +kernel)) (hts (.code Lib.Math.max.name Lib.Math.max.code 2 (some .int)) (by decide +kernel)) (Nat.le_of_ble_eq_true rfl) (Nat.le_of_ble_eq_true rfl) (Nat.le_of_ble_eq_true rfl) (Nat.le_of_ble_eq_true rfl) dX7_cool_11 ?_
  refine q_put hx hb hts hown hA hW hS iX7 tyX7 tyX7_ok nmX7 h0 rfl 3 (by decide) (hts (.fieldLink RX7 9 "HighRecipes$Pan" "heat" "I") (by decide +kernel)) (fun _ h9 => h9) rfl rfl rfl (Nat.le_of_ble_eq_true rfl) dX7_cool_14 (fun H locs hW hS => ?_)
  have hW : q_W E (va_up f a (some (cPan h w ml (q_max 20 (t - (k / 2))) d))) n H := hW
  exact q_vret hx hb hr hlocks hW hS ⟨rfl, rfl⟩ (Nat.le_of_ble_eq_true rfl) (Nat.le_of_ble_eq_true rfl) dX7_cool_17

