/-! the reference cooks -/
set_option maxHeartbeats 4000000 in
set_option maxRecDepth 100000 in
theorem kX14_joined_56 (l : Launch) (E : q_E) (f : q_H) (n : Nat) (x y : Int32)  : Met l yX14_joined wsX14_joined ({ frames := 0, cells := 0, slots := 0, locals := 0 }) (q_P E [.int 56, .int x, .int y] f n) (q_Qi E (fun r f1 n1 => x + y = r ∧ f = f1 ∧ n = n1)) 0 0 (q_ge E) := by
  refine Met.ofW (cc := cX14_joined) (maxL := 3) (ret := (some .int)) (by decide) rfl ?_
  intro p e s m args below meth c s₁ B hml hv
  obtain ⟨rfl, hA, hW⟩ := hv
  have hx := B.exec
  have hb := B.bytes
  have hr := B.returns
  have hts := atoms_spec (ws := wsX14_joined) B.pre
  have hown : s.vm.findClass RX14 = some m.cls := findClass_of_methodNamed B.named
  have hlocks := B.notSynchronized
  have hS : va_S (q_ge E) s.heap s.heap [] := va_S.rf
  have hl := lv_entry ([.int 56, .int x, .int y]) (n := 3) (Nat.le_of_ble_eq_true rfl)
  rw [lg_entry_eq]
  generalize (lg_sl ([.int 56, .int x, .int y]) ++ List.replicate (3 - (lg_sl ([.int 56, .int x, .int y])).length) Slot.unset).toArray = ls at hl ⊢
  have hl : lv_has ls 3 [(0, .int 56), (1, .int x), (2, .int y)] := hl
  refine lv_iload_n hx hb dX14_joined_0 rfl (lv_at hl 0 rfl) ?_
  refine lv_tableIn (x := 56) (off := 27) (tgt := 28) hx hb dX14_joined_1 (by decide) (by decide) (by decide) (by decide) ?_
  refine lv_iload_n hx hb dX14_joined_28 rfl (lv_at hl 1 rfl) ?_
  refine lv_iload_n hx hb dX14_joined_29 rfl (lv_at hl 2 rfl) ?_
  refine lv_iadd hx hb dX14_joined_30 ?_
  exact q_iret hx hb hr hlocks hW hS ⟨rfl, rfl, rfl⟩ (Nat.le_of_ble_eq_true rfl) (Nat.le_of_ble_eq_true rfl) dX14_joined_31

set_option maxHeartbeats 4000000 in
set_option maxRecDepth 100000 in
theorem kX14_joined_57 (l : Launch) (E : q_E) (f : q_H) (n : Nat) (x y : Int32)  : Met l yX14_joined wsX14_joined ({ frames := 0, cells := 0, slots := 0, locals := 0 }) (q_P E [.int 57, .int x, .int y] f n) (q_Qi E (fun r f1 n1 => x - y = r ∧ f = f1 ∧ n = n1)) 0 0 (q_ge E) := by
  refine Met.ofW (cc := cX14_joined) (maxL := 3) (ret := (some .int)) (by decide) rfl ?_
  intro p e s m args below meth c s₁ B hml hv
  obtain ⟨rfl, hA, hW⟩ := hv
  have hx := B.exec
  have hb := B.bytes
  have hr := B.returns
  have hts := atoms_spec (ws := wsX14_joined) B.pre
  have hown : s.vm.findClass RX14 = some m.cls := findClass_of_methodNamed B.named
  have hlocks := B.notSynchronized
  have hS : va_S (q_ge E) s.heap s.heap [] := va_S.rf
  have hl := lv_entry ([.int 57, .int x, .int y]) (n := 3) (Nat.le_of_ble_eq_true rfl)
  rw [lg_entry_eq]
  generalize (lg_sl ([.int 57, .int x, .int y]) ++ List.replicate (3 - (lg_sl ([.int 57, .int x, .int y])).length) Slot.unset).toArray = ls at hl ⊢
  have hl : lv_has ls 3 [(0, .int 57), (1, .int x), (2, .int y)] := hl
  refine lv_iload_n hx hb dX14_joined_0 rfl (lv_at hl 0 rfl) ?_
  refine lv_tableIn (x := 57) (off := 31) (tgt := 32) hx hb dX14_joined_1 (by decide) (by decide) (by decide) (by decide) ?_
  refine lv_iload_n hx hb dX14_joined_32 rfl (lv_at hl 1 rfl) ?_
  refine lv_iload_n hx hb dX14_joined_33 rfl (lv_at hl 2 rfl) ?_
  refine lv_isub hx hb dX14_joined_34 ?_
  exact q_iret hx hb hr hlocks hW hS ⟨rfl, rfl, rfl⟩ (Nat.le_of_ble_eq_true rfl) (Nat.le_of_ble_eq_true rfl) dX14_joined_35

set_option maxHeartbeats 4000000 in
set_option maxRecDepth 100000 in
theorem kX14_joined_58 (l : Launch) (E : q_E) (f : q_H) (n : Nat) (x y : Int32)  : Met l yX14_joined wsX14_joined ({ frames := 0, cells := 0, slots := 0, locals := 0 }) (q_P E [.int 58, .int x, .int y] f n) (q_Qi E (fun r f1 n1 => x * y = r ∧ f = f1 ∧ n = n1)) 0 0 (q_ge E) := by
  refine Met.ofW (cc := cX14_joined) (maxL := 3) (ret := (some .int)) (by decide) rfl ?_
  intro p e s m args below meth c s₁ B hml hv
  obtain ⟨rfl, hA, hW⟩ := hv
  have hx := B.exec
  have hb := B.bytes
  have hr := B.returns
  have hts := atoms_spec (ws := wsX14_joined) B.pre
  have hown : s.vm.findClass RX14 = some m.cls := findClass_of_methodNamed B.named
  have hlocks := B.notSynchronized
  have hS : va_S (q_ge E) s.heap s.heap [] := va_S.rf
  have hl := lv_entry ([.int 58, .int x, .int y]) (n := 3) (Nat.le_of_ble_eq_true rfl)
  rw [lg_entry_eq]
  generalize (lg_sl ([.int 58, .int x, .int y]) ++ List.replicate (3 - (lg_sl ([.int 58, .int x, .int y])).length) Slot.unset).toArray = ls at hl ⊢
  have hl : lv_has ls 3 [(0, .int 58), (1, .int x), (2, .int y)] := hl
  refine lv_iload_n hx hb dX14_joined_0 rfl (lv_at hl 0 rfl) ?_
  refine lv_tableIn (x := 58) (off := 35) (tgt := 36) hx hb dX14_joined_1 (by decide) (by decide) (by decide) (by decide) ?_
  refine lv_iload_n hx hb dX14_joined_36 rfl (lv_at hl 1 rfl) ?_
  refine lv_iload_n hx hb dX14_joined_37 rfl (lv_at hl 2 rfl) ?_
  refine lv_imul hx hb dX14_joined_38 ?_
  exact q_iret hx hb hr hlocks hW hS ⟨rfl, rfl, rfl⟩ (Nat.le_of_ble_eq_true rfl) (Nat.le_of_ble_eq_true rfl) dX14_joined_39

set_option maxHeartbeats 4000000 in
set_option maxRecDepth 100000 in
theorem kX14_joined_59 (l : Launch) (E : q_E) (f : q_H) (n : Nat) (x y : Int32)  : Met l yX14_joined wsX14_joined ({ frames := 0, cells := 0, slots := 0, locals := 0 }) (q_P E [.int 59, .int x, .int y] f n) (q_Qi E (fun r f1 n1 => q_quot x y = r ∧ f = f1 ∧ n = n1)) 0 0 (q_ge E) := by
  refine Met.ofW (cc := cX14_joined) (maxL := 3) (ret := (some .int)) (by decide) rfl ?_
  intro p e s m args below meth c s₁ B hml hv
  obtain ⟨rfl, hA, hW⟩ := hv
  have hx := B.exec
  have hb := B.bytes
  have hr := B.returns
  have hts := atoms_spec (ws := wsX14_joined) B.pre
  have hown : s.vm.findClass RX14 = some m.cls := findClass_of_methodNamed B.named
  have hlocks := B.notSynchronized
  have hS : va_S (q_ge E) s.heap s.heap [] := va_S.rf
  have hl := lv_entry ([.int 59, .int x, .int y]) (n := 3) (Nat.le_of_ble_eq_true rfl)
  rw [lg_entry_eq]
  generalize (lg_sl ([.int 59, .int x, .int y]) ++ List.replicate (3 - (lg_sl ([.int 59, .int x, .int y])).length) Slot.unset).toArray = ls at hl ⊢
  have hl : lv_has ls 3 [(0, .int 59), (1, .int x), (2, .int y)] := hl
  refine lv_iload_n hx hb dX14_joined_0 rfl (lv_at hl 0 rfl) ?_
  refine lv_tableOut (x := 59) (tgt := 40) hx hb dX14_joined_1 (by decide) (by decide) ?_
  refine lv_iload_n hx hb dX14_joined_40 rfl (lv_at hl 2 rfl) ?_
  refine lv_if_ne (tgt := 48) hx hb dX14_joined_41 (by decide) (fun c_41 => ?_) (fun c_41 => ?_)
  · refine lv_iload_n hx hb dX14_joined_48 rfl (lv_at hl 1 rfl) ?_
    refine lv_iload_n hx hb dX14_joined_49 rfl (lv_at hl 2 rfl) ?_
    refine lv_idiv hx hb dX14_joined_50 c_41 ?_
    exact q_iret hx hb hr hlocks hW hS ⟨(if_neg c_41), rfl, rfl⟩ (Nat.le_of_ble_eq_true rfl) (Nat.le_of_ble_eq_true rfl) dX14_joined_51
  · refine lv_iconst (v := 0) hx hb dX14_joined_44 (by decide) ?_
    refine lv_goto (tgt := 51) hx hb dX14_joined_45 (by decide) ?_
    exact q_iret hx hb hr hlocks hW hS ⟨(if_pos c_41), rfl, rfl⟩ (Nat.le_of_ble_eq_true rfl) (Nat.le_of_ble_eq_true rfl) dX14_joined_51

set_option maxHeartbeats 4000000 in
set_option maxRecDepth 100000 in
theorem kX14_reckon_41 (l : Launch) (E : q_E) (f : q_H) (n : Nat) (M : Nat) (r : q_R) (a dp : Nat)  (hm : RM E f M r) (ha : a < 400) (hs : (r 22) a = 41) : Met l yX14_reckon wsX14_reckon ({ frames := 3 * dp + 3, cells := 0, slots := 0, locals := 100 * dp + 100 }) (q_P E [.ref M, .int (nI a)] f n) (q_Qi E (fun r0 f1 n1 => (r 23) a = r0 ∧ f = f1 ∧ n = n1)) 0 0 (q_ge E) := by
  refine Met.ofW (cc := cX14_reckon) (maxL := 3) (ret := (some .int)) (by decide) rfl ?_
  intro p e s m args below meth c s₁ B hml hv
  obtain ⟨rfl, hA, hW⟩ := hv
  have hx := B.exec
  have hb := B.bytes
  have hr := B.returns
  have hts := atoms_spec (ws := wsX14_reckon) B.pre
  have hown : s.vm.findClass RX14 = some m.cls := findClass_of_methodNamed B.named
  have hlocks := B.notSynchronized
  have hS : va_S (q_ge E) s.heap s.heap [] := va_S.rf
  have iX13 : ∀ w ∈ wsX130, w ∈ wsX14_reckon := by decide +kernel
  have iX14 : ∀ w ∈ wsX140, w ∈ wsX14_reckon := by decide +kernel
  have hl := lv_entry ([.ref M, .int (nI a)]) (n := 3) (Nat.le_of_ble_eq_true rfl)
  rw [lg_entry_eq]
  generalize (lg_sl ([.ref M, .int (nI a)]) ++ List.replicate (3 - (lg_sl ([.ref M, .int (nI a)])).length) Slot.unset).toArray = ls at hl ⊢
  have hl : lv_has ls 3 [(0, .ref M), (1, .int (nI a))] := hl
  have hmE := hm.eq
  rw [hm.eq] at hW
  refine lv_aload_n hx hb dX14_reckon_0 rfl (lv_at hl 0 rfl) ?_
  refine q_get hx hb hts hown hA hW iX14 rO_0 rfl 17 (by decide) (hts (.fieldLink RX14 38 "HighRecipesModel" "told" "LHighRecipesModel$Book;") (by decide +kernel)) (fun _ h9 => h9) (v := .ref (M + 8)) rfl dX14_reckon_1 ?_
  refine q_getN hx hb hts hown hA hW iX13 rO_8 rfl 19 (by decide) (va_Nw.use rfl (hA.2.2.2.1 ("HighRecipesModel", 165, "HighRecipesModel$Book", "left", "[I", "HighRecipesModel") (by decide +kernel))) (fun _ h9 => h9) (v := .ref (M + 23)) rfl dX14_reckon_4 ?_
  refine lv_iload_n hx hb dX14_reckon_7 rfl (lv_at hl 1 rfl) ?_
  refine q_ald hx hb hA hW (rO_23 (g := r 23) rfl) a rfl (by omega) (by decide) (x := (r 23) a) rfl dX14_reckon_8 ?_
  refine lv_istore_n (lv' := [(2, .int ((r 23) a)), (0, .ref M), (1, .int (nI a))]) hx hb dX14_reckon_9 rfl hl (by decide) rfl (fun ls hl => ?_)
  refine lv_aload_n hx hb dX14_reckon_10 rfl (lv_at hl 1 rfl) ?_
  refine q_get hx hb hts hown hA hW iX14 rO_0 rfl 17 (by decide) (hts (.fieldLink RX14 38 "HighRecipesModel" "told" "LHighRecipesModel$Book;") (by decide +kernel)) (fun _ h9 => h9) (v := .ref (M + 8)) rfl dX14_reckon_11 ?_
  refine q_getN hx hb hts hown hA hW iX13 rO_8 rfl 18 (by decide) (va_Nw.use rfl (hA.2.2.2.1 ("HighRecipesModel", 162, "HighRecipesModel$Book", "sort", "[I", "HighRecipesModel") (by decide +kernel))) (fun _ h9 => h9) (v := .ref (M + 22)) rfl dX14_reckon_14 ?_
  refine lv_iload_n hx hb dX14_reckon_17 rfl (lv_at hl 2 rfl) ?_
  refine q_ald hx hb hA hW (rO_22 (g := r 22) rfl) a rfl (by omega) (by decide) (x := 41) hs dX14_reckon_18 ?_
  refine lv_tableIn (x := 41) (off := 165) (tgt := 184) hx hb dX14_reckon_19 (by decide) (by decide) (by decide) (by decide) ?_
  refine lv_iload_n hx hb dX14_reckon_184 rfl (lv_at hl 0 rfl) ?_
  exact q_iret hx hb hr hlocks hW hS ⟨rfl, hmE, rfl⟩ (Nat.le_of_ble_eq_true rfl) (Nat.le_of_ble_eq_true rfl) dX14_reckon_185

set_option maxHeartbeats 4000000 in
set_option maxRecDepth 100000 in
theorem kX14_reckon_19 (l : Launch) (E : q_E) (f : q_H) (n : Nat) (M : Nat) (r : q_R) (a dp : Nat)  (hm : RM E f M r) (ha : a < 400) (hs : (r 22) a = 19) : Met l yX14_reckon wsX14_reckon ({ frames := 3 * dp + 3, cells := 0, slots := 0, locals := 100 * dp + 100 }) (q_P E [.ref M, .int (nI a)] f n) (q_Qi E (fun r0 f1 n1 => (r 42) 0 = r0 ∧ f = f1 ∧ n = n1)) 0 0 (q_ge E) := by
  refine Met.ofW (cc := cX14_reckon) (maxL := 3) (ret := (some .int)) (by decide) rfl ?_
  intro p e s m args below meth c s₁ B hml hv
  obtain ⟨rfl, hA, hW⟩ := hv
  have hx := B.exec
  have hb := B.bytes
  have hr := B.returns
  have hts := atoms_spec (ws := wsX14_reckon) B.pre
  have hown : s.vm.findClass RX14 = some m.cls := findClass_of_methodNamed B.named
  have hlocks := B.notSynchronized
  have hS : va_S (q_ge E) s.heap s.heap [] := va_S.rf
  have iX13 : ∀ w ∈ wsX130, w ∈ wsX14_reckon := by decide +kernel
  have iX14 : ∀ w ∈ wsX140, w ∈ wsX14_reckon := by decide +kernel
  have hl := lv_entry ([.ref M, .int (nI a)]) (n := 3) (Nat.le_of_ble_eq_true rfl)
  rw [lg_entry_eq]
  generalize (lg_sl ([.ref M, .int (nI a)]) ++ List.replicate (3 - (lg_sl ([.ref M, .int (nI a)])).length) Slot.unset).toArray = ls at hl ⊢
  have hl : lv_has ls 3 [(0, .ref M), (1, .int (nI a))] := hl
  have hmE := hm.eq
  rw [hm.eq] at hW
  refine lv_aload_n hx hb dX14_reckon_0 rfl (lv_at hl 0 rfl) ?_
  refine q_get hx hb hts hown hA hW iX14 rO_0 rfl 17 (by decide) (hts (.fieldLink RX14 38 "HighRecipesModel" "told" "LHighRecipesModel$Book;") (by decide +kernel)) (fun _ h9 => h9) (v := .ref (M + 8)) rfl dX14_reckon_1 ?_
  refine q_getN hx hb hts hown hA hW iX13 rO_8 rfl 19 (by decide) (va_Nw.use rfl (hA.2.2.2.1 ("HighRecipesModel", 165, "HighRecipesModel$Book", "left", "[I", "HighRecipesModel") (by decide +kernel))) (fun _ h9 => h9) (v := .ref (M + 23)) rfl dX14_reckon_4 ?_
  refine lv_iload_n hx hb dX14_reckon_7 rfl (lv_at hl 1 rfl) ?_
  refine q_ald hx hb hA hW (rO_23 (g := r 23) rfl) a rfl (by omega) (by decide) (x := (r 23) a) rfl dX14_reckon_8 ?_
  refine lv_istore_n (lv' := [(2, .int ((r 23) a)), (0, .ref M), (1, .int (nI a))]) hx hb dX14_reckon_9 rfl hl (by decide) rfl (fun ls hl => ?_)
  refine lv_aload_n hx hb dX14_reckon_10 rfl (lv_at hl 1 rfl) ?_
  refine q_get hx hb hts hown hA hW iX14 rO_0 rfl 17 (by decide) (hts (.fieldLink RX14 38 "HighRecipesModel" "told" "LHighRecipesModel$Book;") (by decide +kernel)) (fun _ h9 => h9) (v := .ref (M + 8)) rfl dX14_reckon_11 ?_
  refine q_getN hx hb hts hown hA hW iX13 rO_8 rfl 18 (by decide) (va_Nw.use rfl (hA.2.2.2.1 ("HighRecipesModel", 162, "HighRecipesModel$Book", "sort", "[I", "HighRecipesModel") (by decide +kernel))) (fun _ h9 => h9) (v := .ref (M + 22)) rfl dX14_reckon_14 ?_
  refine lv_iload_n hx hb dX14_reckon_17 rfl (lv_at hl 2 rfl) ?_
  refine q_ald hx hb hA hW (rO_22 (g := r 22) rfl) a rfl (by omega) (by decide) (x := 19) hs dX14_reckon_18 ?_
  refine lv_tableIn (x := 19) (off := 167) (tgt := 186) hx hb dX14_reckon_19 (by decide) (by decide) (by decide) (by decide) ?_
  refine lv_aload_n hx hb dX14_reckon_186 rfl (lv_at hl 1 rfl) ?_
  refine q_get hx hb hts hown hA hW iX14 rO_0 rfl 19 (by decide) (hts (.fieldLink RX14 45 "HighRecipesModel" "now" "[I") (by decide +kernel)) (fun _ h9 => h9) (v := .ref (M + 42)) rfl dX14_reckon_187 ?_
  refine lv_iconst (v := 0) hx hb dX14_reckon_190 (by decide) ?_
  refine q_ald hx hb hA hW (rO_42 (g := r 42) rfl) 0 rfl (by decide) (by decide) (x := (r 42) 0) rfl dX14_reckon_191 ?_
  exact q_iret hx hb hr hlocks hW hS ⟨rfl, hmE, rfl⟩ (Nat.le_of_ble_eq_true rfl) (Nat.le_of_ble_eq_true rfl) dX14_reckon_192

set_option maxHeartbeats 4000000 in
set_option maxRecDepth 100000 in
theorem kX14_reckon_20 (l : Launch) (E : q_E) (f : q_H) (n : Nat) (M : Nat) (r : q_R) (a dp : Nat)  (hm : RM E f M r) (ha : a < 400) (hs : (r 22) a = 20) : Met l yX14_reckon wsX14_reckon ({ frames := 3 * dp + 3, cells := 0, slots := 0, locals := 100 * dp + 100 }) (q_P E [.ref M, .int (nI a)] f n) (q_Qi E (fun r0 f1 n1 => z_boil ((r 42) 0) = r0 ∧ f = f1 ∧ n = n1)) 0 0 (q_ge E) := by
  refine Met.ofW (cc := cX14_reckon) (maxL := 3) (ret := (some .int)) (by decide) rfl ?_
  intro p e s m args below meth c s₁ B hml hv
  obtain ⟨rfl, hA, hW⟩ := hv
  have hx := B.exec
  have hb := B.bytes
  have hr := B.returns
  have hts := atoms_spec (ws := wsX14_reckon) B.pre
  have hown : s.vm.findClass RX14 = some m.cls := findClass_of_methodNamed B.named
  have hlocks := B.notSynchronized
  have hS : va_S (q_ge E) s.heap s.heap [] := va_S.rf
  have iX13 : ∀ w ∈ wsX130, w ∈ wsX14_reckon := by decide +kernel
  have iX14 : ∀ w ∈ wsX140, w ∈ wsX14_reckon := by decide +kernel
  have hl := lv_entry ([.ref M, .int (nI a)]) (n := 3) (Nat.le_of_ble_eq_true rfl)
  rw [lg_entry_eq]
  generalize (lg_sl ([.ref M, .int (nI a)]) ++ List.replicate (3 - (lg_sl ([.ref M, .int (nI a)])).length) Slot.unset).toArray = ls at hl ⊢
  have hl : lv_has ls 3 [(0, .ref M), (1, .int (nI a))] := hl
  have hmE := hm.eq
  rw [hm.eq] at hW
  refine lv_aload_n hx hb dX14_reckon_0 rfl (lv_at hl 0 rfl) ?_
  refine q_get hx hb hts hown hA hW iX14 rO_0 rfl 17 (by decide) (hts (.fieldLink RX14 38 "HighRecipesModel" "told" "LHighRecipesModel$Book;") (by decide +kernel)) (fun _ h9 => h9) (v := .ref (M + 8)) rfl dX14_reckon_1 ?_
  refine q_getN hx hb hts hown hA hW iX13 rO_8 rfl 19 (by decide) (va_Nw.use rfl (hA.2.2.2.1 ("HighRecipesModel", 165, "HighRecipesModel$Book", "left", "[I", "HighRecipesModel") (by decide +kernel))) (fun _ h9 => h9) (v := .ref (M + 23)) rfl dX14_reckon_4 ?_
  refine lv_iload_n hx hb dX14_reckon_7 rfl (lv_at hl 1 rfl) ?_
  refine q_ald hx hb hA hW (rO_23 (g := r 23) rfl) a rfl (by omega) (by decide) (x := (r 23) a) rfl dX14_reckon_8 ?_
  refine lv_istore_n (lv' := [(2, .int ((r 23) a)), (0, .ref M), (1, .int (nI a))]) hx hb dX14_reckon_9 rfl hl (by decide) rfl (fun ls hl => ?_)
  refine lv_aload_n hx hb dX14_reckon_10 rfl (lv_at hl 1 rfl) ?_
  refine q_get hx hb hts hown hA hW iX14 rO_0 rfl 17 (by decide) (hts (.fieldLink RX14 38 "HighRecipesModel" "told" "LHighRecipesModel$Book;") (by decide +kernel)) (fun _ h9 => h9) (v := .ref (M + 8)) rfl dX14_reckon_11 ?_
  refine q_getN hx hb hts hown hA hW iX13 rO_8 rfl 18 (by decide) (va_Nw.use rfl (hA.2.2.2.1 ("HighRecipesModel", 162, "HighRecipesModel$Book", "sort", "[I", "HighRecipesModel") (by decide +kernel))) (fun _ h9 => h9) (v := .ref (M + 22)) rfl dX14_reckon_14 ?_
  refine lv_iload_n hx hb dX14_reckon_17 rfl (lv_at hl 2 rfl) ?_
  refine q_ald hx hb hA hW (rO_22 (g := r 22) rfl) a rfl (by omega) (by decide) (x := 20) hs dX14_reckon_18 ?_
  refine lv_tableIn (x := 20) (off := 174) (tgt := 193) hx hb dX14_reckon_19 (by decide) (by decide) (by decide) (by decide) ?_
  refine lv_aload_n hx hb dX14_reckon_193 rfl (lv_at hl 1 rfl) ?_
  refine q_ci (va_runV (As := []) (rest := []) ⟨hx, hb, hml, hown, hts⟩ (kX14_boiling l E (rO E f M r) n M r rO_K) (cwV 0 hts gX14_reckon_X14_boiling rfl rfl rfl (by decide +kernel) ⟨(by show 1 + 1 ≤ 3 * dp + 3; omega), (by show 8 + (1 + 11) + 20 ≤ 100 * dp + 100; omega)⟩) (q_pV hA hW hS (ci := 12) rfl rO_0) rfl rfl hl.1 rfl (lv_room (Nat.le_of_ble_eq_true rfl)) dX14_reckon_194 ⟨Nat.le_of_ble_eq_true rfl, Nat.le_of_ble_eq_true rfl⟩) hS (fun r_194 f_194 n_194 H locs hp hW hS => ?_)
  obtain ⟨rfl, rfl, rfl⟩ := hp
  have hW : q_W E (rO E f M r) n H := hW
  exact q_iret hx hb hr hlocks hW hS ⟨rfl, hmE, rfl⟩ (Nat.le_of_ble_eq_true rfl) (Nat.le_of_ble_eq_true rfl) dX14_reckon_197

set_option maxHeartbeats 4000000 in
set_option maxRecDepth 100000 in
theorem kX14_reckon_21 (l : Launch) (E : q_E) (f : q_H) (n : Nat) (M : Nat) (r : q_R) (a dp : Nat)  (hm : RM E f M r) (ha : a < 400) (hs : (r 22) a = 21) : Met l yX14_reckon wsX14_reckon ({ frames := 3 * dp + 3, cells := 0, slots := 0, locals := 100 * dp + 100 }) (q_P E [.ref M, .int (nI a)] f n) (q_Qi E (fun r0 f1 n1 => (r 42) 3 = r0 ∧ f = f1 ∧ n = n1)) 0 0 (q_ge E) := by
  refine Met.ofW (cc := cX14_reckon) (maxL := 3) (ret := (some .int)) (by decide) rfl ?_
  intro p e s m args below meth c s₁ B hml hv
  obtain ⟨rfl, hA, hW⟩ := hv
  have hx := B.exec
  have hb := B.bytes
  have hr := B.returns
  have hts := atoms_spec (ws := wsX14_reckon) B.pre
  have hown : s.vm.findClass RX14 = some m.cls := findClass_of_methodNamed B.named
  have hlocks := B.notSynchronized
  have hS : va_S (q_ge E) s.heap s.heap [] := va_S.rf
  have iX13 : ∀ w ∈ wsX130, w ∈ wsX14_reckon := by decide +kernel
  have iX14 : ∀ w ∈ wsX140, w ∈ wsX14_reckon := by decide +kernel
  have hl := lv_entry ([.ref M, .int (nI a)]) (n := 3) (Nat.le_of_ble_eq_true rfl)
  rw [lg_entry_eq]
  generalize (lg_sl ([.ref M, .int (nI a)]) ++ List.replicate (3 - (lg_sl ([.ref M, .int (nI a)])).length) Slot.unset).toArray = ls at hl ⊢
  have hl : lv_has ls 3 [(0, .ref M), (1, .int (nI a))] := hl
  have hmE := hm.eq
  rw [hm.eq] at hW
  refine lv_aload_n hx hb dX14_reckon_0 rfl (lv_at hl 0 rfl) ?_
  refine q_get hx hb hts hown hA hW iX14 rO_0 rfl 17 (by decide) (hts (.fieldLink RX14 38 "HighRecipesModel" "told" "LHighRecipesModel$Book;") (by decide +kernel)) (fun _ h9 => h9) (v := .ref (M + 8)) rfl dX14_reckon_1 ?_
  refine q_getN hx hb hts hown hA hW iX13 rO_8 rfl 19 (by decide) (va_Nw.use rfl (hA.2.2.2.1 ("HighRecipesModel", 165, "HighRecipesModel$Book", "left", "[I", "HighRecipesModel") (by decide +kernel))) (fun _ h9 => h9) (v := .ref (M + 23)) rfl dX14_reckon_4 ?_
  refine lv_iload_n hx hb dX14_reckon_7 rfl (lv_at hl 1 rfl) ?_
  refine q_ald hx hb hA hW (rO_23 (g := r 23) rfl) a rfl (by omega) (by decide) (x := (r 23) a) rfl dX14_reckon_8 ?_
  refine lv_istore_n (lv' := [(2, .int ((r 23) a)), (0, .ref M), (1, .int (nI a))]) hx hb dX14_reckon_9 rfl hl (by decide) rfl (fun ls hl => ?_)
  refine lv_aload_n hx hb dX14_reckon_10 rfl (lv_at hl 1 rfl) ?_
  refine q_get hx hb hts hown hA hW iX14 rO_0 rfl 17 (by decide) (hts (.fieldLink RX14 38 "HighRecipesModel" "told" "LHighRecipesModel$Book;") (by decide +kernel)) (fun _ h9 => h9) (v := .ref (M + 8)) rfl dX14_reckon_11 ?_
  refine q_getN hx hb hts hown hA hW iX13 rO_8 rfl 18 (by decide) (va_Nw.use rfl (hA.2.2.2.1 ("HighRecipesModel", 162, "HighRecipesModel$Book", "sort", "[I", "HighRecipesModel") (by decide +kernel))) (fun _ h9 => h9) (v := .ref (M + 22)) rfl dX14_reckon_14 ?_
  refine lv_iload_n hx hb dX14_reckon_17 rfl (lv_at hl 2 rfl) ?_
  refine q_ald hx hb hA hW (rO_22 (g := r 22) rfl) a rfl (by omega) (by decide) (x := 21) hs dX14_reckon_18 ?_
  refine lv_tableIn (x := 21) (off := 179) (tgt := 198) hx hb dX14_reckon_19 (by decide) (by decide) (by decide) (by decide) ?_
  refine lv_aload_n hx hb dX14_reckon_198 rfl (lv_at hl 1 rfl) ?_
  refine q_get hx hb hts hown hA hW iX14 rO_0 rfl 19 (by decide) (hts (.fieldLink RX14 45 "HighRecipesModel" "now" "[I") (by decide +kernel)) (fun _ h9 => h9) (v := .ref (M + 42)) rfl dX14_reckon_199 ?_
  refine lv_iconst (v := 3) hx hb dX14_reckon_202 (by decide) ?_
  refine q_ald hx hb hA hW (rO_42 (g := r 42) rfl) 3 rfl (by decide) (by decide) (x := (r 42) 3) rfl dX14_reckon_203 ?_
  exact q_iret hx hb hr hlocks hW hS ⟨rfl, hmE, rfl⟩ (Nat.le_of_ble_eq_true rfl) (Nat.le_of_ble_eq_true rfl) dX14_reckon_204

set_option maxHeartbeats 4000000 in
set_option maxRecDepth 100000 in
theorem kX14_reckon_22 (l : Launch) (E : q_E) (f : q_H) (n : Nat) (M : Nat) (r : q_R) (a dp : Nat)  (hm : RM E f M r) (ha : a < 400) (hs : (r 22) a = 22) : Met l yX14_reckon wsX14_reckon ({ frames := 3 * dp + 3, cells := 0, slots := 0, locals := 100 * dp + 100 }) (q_P E [.ref M, .int (nI a)] f n) (q_Qi E (fun r0 f1 n1 => (r 42) 1 = r0 ∧ f = f1 ∧ n = n1)) 0 0 (q_ge E) := by
  refine Met.ofW (cc := cX14_reckon) (maxL := 3) (ret := (some .int)) (by decide) rfl ?_
  intro p e s m args below meth c s₁ B hml hv
  obtain ⟨rfl, hA, hW⟩ := hv
  have hx := B.exec
  have hb := B.bytes
  have hr := B.returns
  have hts := atoms_spec (ws := wsX14_reckon) B.pre
  have hown : s.vm.findClass RX14 = some m.cls := findClass_of_methodNamed B.named
  have hlocks := B.notSynchronized
  have hS : va_S (q_ge E) s.heap s.heap [] := va_S.rf
  have iX13 : ∀ w ∈ wsX130, w ∈ wsX14_reckon := by decide +kernel
  have iX14 : ∀ w ∈ wsX140, w ∈ wsX14_reckon := by decide +kernel
  have hl := lv_entry ([.ref M, .int (nI a)]) (n := 3) (Nat.le_of_ble_eq_true rfl)
  rw [lg_entry_eq]
  generalize (lg_sl ([.ref M, .int (nI a)]) ++ List.replicate (3 - (lg_sl ([.ref M, .int (nI a)])).length) Slot.unset).toArray = ls at hl ⊢
  have hl : lv_has ls 3 [(0, .ref M), (1, .int (nI a))] := hl
  have hmE := hm.eq
  rw [hm.eq] at hW
  refine lv_aload_n hx hb dX14_reckon_0 rfl (lv_at hl 0 rfl) ?_
  refine q_get hx hb hts hown hA hW iX14 rO_0 rfl 17 (by decide) (hts (.fieldLink RX14 38 "HighRecipesModel" "told" "LHighRecipesModel$Book;") (by decide +kernel)) (fun _ h9 => h9) (v := .ref (M + 8)) rfl dX14_reckon_1 ?_
  refine q_getN hx hb hts hown hA hW iX13 rO_8 rfl 19 (by decide) (va_Nw.use rfl (hA.2.2.2.1 ("HighRecipesModel", 165, "HighRecipesModel$Book", "left", "[I", "HighRecipesModel") (by decide +kernel))) (fun _ h9 => h9) (v := .ref (M + 23)) rfl dX14_reckon_4 ?_
  refine lv_iload_n hx hb dX14_reckon_7 rfl (lv_at hl 1 rfl) ?_
  refine q_ald hx hb hA hW (rO_23 (g := r 23) rfl) a rfl (by omega) (by decide) (x := (r 23) a) rfl dX14_reckon_8 ?_
  refine lv_istore_n (lv' := [(2, .int ((r 23) a)), (0, .ref M), (1, .int (nI a))]) hx hb dX14_reckon_9 rfl hl (by decide) rfl (fun ls hl => ?_)
  refine lv_aload_n hx hb dX14_reckon_10 rfl (lv_at hl 1 rfl) ?_
  refine q_get hx hb hts hown hA hW iX14 rO_0 rfl 17 (by decide) (hts (.fieldLink RX14 38 "HighRecipesModel" "told" "LHighRecipesModel$Book;") (by decide +kernel)) (fun _ h9 => h9) (v := .ref (M + 8)) rfl dX14_reckon_11 ?_
  refine q_getN hx hb hts hown hA hW iX13 rO_8 rfl 18 (by decide) (va_Nw.use rfl (hA.2.2.2.1 ("HighRecipesModel", 162, "HighRecipesModel$Book", "sort", "[I", "HighRecipesModel") (by decide +kernel))) (fun _ h9 => h9) (v := .ref (M + 22)) rfl dX14_reckon_14 ?_
  refine lv_iload_n hx hb dX14_reckon_17 rfl (lv_at hl 2 rfl) ?_
  refine q_ald hx hb hA hW (rO_22 (g := r 22) rfl) a rfl (by omega) (by decide) (x := 22) hs dX14_reckon_18 ?_
  refine lv_tableIn (x := 22) (off := 186) (tgt := 205) hx hb dX14_reckon_19 (by decide) (by decide) (by decide) (by decide) ?_
  refine lv_aload_n hx hb dX14_reckon_205 rfl (lv_at hl 1 rfl) ?_
  refine q_get hx hb hts hown hA hW iX14 rO_0 rfl 19 (by decide) (hts (.fieldLink RX14 45 "HighRecipesModel" "now" "[I") (by decide +kernel)) (fun _ h9 => h9) (v := .ref (M + 42)) rfl dX14_reckon_206 ?_
  refine lv_iconst (v := 1) hx hb dX14_reckon_209 (by decide) ?_
  refine q_ald hx hb hA hW (rO_42 (g := r 42) rfl) 1 rfl (by decide) (by decide) (x := (r 42) 1) rfl dX14_reckon_210 ?_
  exact q_iret hx hb hr hlocks hW hS ⟨rfl, hmE, rfl⟩ (Nat.le_of_ble_eq_true rfl) (Nat.le_of_ble_eq_true rfl) dX14_reckon_211

set_option maxHeartbeats 4000000 in
set_option maxRecDepth 100000 in
theorem kX14_reckon_23 (l : Launch) (E : q_E) (f : q_H) (n : Nat) (M : Nat) (r : q_R) (a dp : Nat)  (hm : RM E f M r) (ha : a < 400) (hs : (r 22) a = 23) : Met l yX14_reckon wsX14_reckon ({ frames := 3 * dp + 3, cells := 0, slots := 0, locals := 100 * dp + 100 }) (q_P E [.ref M, .int (nI a)] f n) (q_Qi E (fun r0 f1 n1 => (r 42) 2 = r0 ∧ f = f1 ∧ n = n1)) 0 0 (q_ge E) := by
  refine Met.ofW (cc := cX14_reckon) (maxL := 3) (ret := (some .int)) (by decide) rfl ?_
  intro p e s m args below meth c s₁ B hml hv
  obtain ⟨rfl, hA, hW⟩ := hv
  have hx := B.exec
  have hb := B.bytes
  have hr := B.returns
  have hts := atoms_spec (ws := wsX14_reckon) B.pre
  have hown : s.vm.findClass RX14 = some m.cls := findClass_of_methodNamed B.named
  have hlocks := B.notSynchronized
  have hS : va_S (q_ge E) s.heap s.heap [] := va_S.rf
  have iX13 : ∀ w ∈ wsX130, w ∈ wsX14_reckon := by decide +kernel
  have iX14 : ∀ w ∈ wsX140, w ∈ wsX14_reckon := by decide +kernel
  have hl := lv_entry ([.ref M, .int (nI a)]) (n := 3) (Nat.le_of_ble_eq_true rfl)
  rw [lg_entry_eq]
  generalize (lg_sl ([.ref M, .int (nI a)]) ++ List.replicate (3 - (lg_sl ([.ref M, .int (nI a)])).length) Slot.unset).toArray = ls at hl ⊢
  have hl : lv_has ls 3 [(0, .ref M), (1, .int (nI a))] := hl
  have hmE := hm.eq
  rw [hm.eq] at hW
  refine lv_aload_n hx hb dX14_reckon_0 rfl (lv_at hl 0 rfl) ?_
  refine q_get hx hb hts hown hA hW iX14 rO_0 rfl 17 (by decide) (hts (.fieldLink RX14 38 "HighRecipesModel" "told" "LHighRecipesModel$Book;") (by decide +kernel)) (fun _ h9 => h9) (v := .ref (M + 8)) rfl dX14_reckon_1 ?_
  refine q_getN hx hb hts hown hA hW iX13 rO_8 rfl 19 (by decide) (va_Nw.use rfl (hA.2.2.2.1 ("HighRecipesModel", 165, "HighRecipesModel$Book", "left", "[I", "HighRecipesModel") (by decide +kernel))) (fun _ h9 => h9) (v := .ref (M + 23)) rfl dX14_reckon_4 ?_
  refine lv_iload_n hx hb dX14_reckon_7 rfl (lv_at hl 1 rfl) ?_
  refine q_ald hx hb hA hW (rO_23 (g := r 23) rfl) a rfl (by omega) (by decide) (x := (r 23) a) rfl dX14_reckon_8 ?_
  refine lv_istore_n (lv' := [(2, .int ((r 23) a)), (0, .ref M), (1, .int (nI a))]) hx hb dX14_reckon_9 rfl hl (by decide) rfl (fun ls hl => ?_)
  refine lv_aload_n hx hb dX14_reckon_10 rfl (lv_at hl 1 rfl) ?_
  refine q_get hx hb hts hown hA hW iX14 rO_0 rfl 17 (by decide) (hts (.fieldLink RX14 38 "HighRecipesModel" "told" "LHighRecipesModel$Book;") (by decide +kernel)) (fun _ h9 => h9) (v := .ref (M + 8)) rfl dX14_reckon_11 ?_
  refine q_getN hx hb hts hown hA hW iX13 rO_8 rfl 18 (by decide) (va_Nw.use rfl (hA.2.2.2.1 ("HighRecipesModel", 162, "HighRecipesModel$Book", "sort", "[I", "HighRecipesModel") (by decide +kernel))) (fun _ h9 => h9) (v := .ref (M + 22)) rfl dX14_reckon_14 ?_
  refine lv_iload_n hx hb dX14_reckon_17 rfl (lv_at hl 2 rfl) ?_
  refine q_ald hx hb hA hW (rO_22 (g := r 22) rfl) a rfl (by omega) (by decide) (x := 23) hs dX14_reckon_18 ?_
  refine lv_tableIn (x := 23) (off := 193) (tgt := 212) hx hb dX14_reckon_19 (by decide) (by decide) (by decide) (by decide) ?_
  refine lv_aload_n hx hb dX14_reckon_212 rfl (lv_at hl 1 rfl) ?_
  refine q_get hx hb hts hown hA hW iX14 rO_0 rfl 19 (by decide) (hts (.fieldLink RX14 45 "HighRecipesModel" "now" "[I") (by decide +kernel)) (fun _ h9 => h9) (v := .ref (M + 42)) rfl dX14_reckon_213 ?_
  refine lv_iconst (v := 2) hx hb dX14_reckon_216 (by decide) ?_
  refine q_ald hx hb hA hW (rO_42 (g := r 42) rfl) 2 rfl (by decide) (by decide) (x := (r 42) 2) rfl dX14_reckon_217 ?_
  exact q_iret hx hb hr hlocks hW hS ⟨rfl, hmE, rfl⟩ (Nat.le_of_ble_eq_true rfl) (Nat.le_of_ble_eq_true rfl) dX14_reckon_218

set_option maxHeartbeats 4000000 in
set_option maxRecDepth 100000 in
theorem kX14_reckon_4 (l : Launch) (E : q_E) (f : q_H) (n : Nat) (M : Nat) (r : q_R) (pn : Nat) (a dp : Nat) (i : Nat)  (hm : RM E f M r) (hpn : pn ≤ 8) (ha : a < 400) (hs : (r 22) a = 4) (hi : i < pn) (hl0 : (r 23) a = nI i) : Met l yX14_reckon wsX14_reckon ({ frames := 3 * dp + 3, cells := 0, slots := 0, locals := 100 * dp + 100 }) (q_P E [.ref M, .int (nI a)] f n) (q_Qi E (fun r0 f1 n1 => (r 42) (52 + 4 * i) = r0 ∧ f = f1 ∧ n = n1)) 0 0 (q_ge E) := by
  refine Met.ofW (cc := cX14_reckon) (maxL := 3) (ret := (some .int)) (by decide) rfl ?_
  intro p e s m args below meth c s₁ B hml hv
  obtain ⟨rfl, hA, hW⟩ := hv
  have hx := B.exec
  have hb := B.bytes
  have hr := B.returns
  have hts := atoms_spec (ws := wsX14_reckon) B.pre
  have hown : s.vm.findClass RX14 = some m.cls := findClass_of_methodNamed B.named
  have hlocks := B.notSynchronized
  have hS : va_S (q_ge E) s.heap s.heap [] := va_S.rf
  have iX13 : ∀ w ∈ wsX130, w ∈ wsX14_reckon := by decide +kernel
  have iX14 : ∀ w ∈ wsX140, w ∈ wsX14_reckon := by decide +kernel
  have hl := lv_entry ([.ref M, .int (nI a)]) (n := 3) (Nat.le_of_ble_eq_true rfl)
  rw [lg_entry_eq]
  generalize (lg_sl ([.ref M, .int (nI a)]) ++ List.replicate (3 - (lg_sl ([.ref M, .int (nI a)])).length) Slot.unset).toArray = ls at hl ⊢
  have hl : lv_has ls 3 [(0, .ref M), (1, .int (nI a))] := hl
  have hmE := hm.eq
  rw [hm.eq] at hW
  refine lv_aload_n hx hb dX14_reckon_0 rfl (lv_at hl 0 rfl) ?_
  refine q_get hx hb hts hown hA hW iX14 rO_0 rfl 17 (by decide) (hts (.fieldLink RX14 38 "HighRecipesModel" "told" "LHighRecipesModel$Book;") (by decide +kernel)) (fun _ h9 => h9) (v := .ref (M + 8)) rfl dX14_reckon_1 ?_
  refine q_getN hx hb hts hown hA hW iX13 rO_8 rfl 19 (by decide) (va_Nw.use rfl (hA.2.2.2.1 ("HighRecipesModel", 165, "HighRecipesModel$Book", "left", "[I", "HighRecipesModel") (by decide +kernel))) (fun _ h9 => h9) (v := .ref (M + 23)) rfl dX14_reckon_4 ?_
  refine lv_iload_n hx hb dX14_reckon_7 rfl (lv_at hl 1 rfl) ?_
  refine q_ald hx hb hA hW (rO_23 (g := r 23) rfl) a rfl (by omega) (by decide) (x := nI i) hl0 dX14_reckon_8 ?_
  refine lv_istore_n (lv' := [(2, .int (nI i)), (0, .ref M), (1, .int (nI a))]) hx hb dX14_reckon_9 rfl hl (by decide) rfl (fun ls hl => ?_)
  refine lv_aload_n hx hb dX14_reckon_10 rfl (lv_at hl 1 rfl) ?_
  refine q_get hx hb hts hown hA hW iX14 rO_0 rfl 17 (by decide) (hts (.fieldLink RX14 38 "HighRecipesModel" "told" "LHighRecipesModel$Book;") (by decide +kernel)) (fun _ h9 => h9) (v := .ref (M + 8)) rfl dX14_reckon_11 ?_
  refine q_getN hx hb hts hown hA hW iX13 rO_8 rfl 18 (by decide) (va_Nw.use rfl (hA.2.2.2.1 ("HighRecipesModel", 162, "HighRecipesModel$Book", "sort", "[I", "HighRecipesModel") (by decide +kernel))) (fun _ h9 => h9) (v := .ref (M + 22)) rfl dX14_reckon_14 ?_
  refine lv_iload_n hx hb dX14_reckon_17 rfl (lv_at hl 2 rfl) ?_
  refine q_ald hx hb hA hW (rO_22 (g := r 22) rfl) a rfl (by omega) (by decide) (x := 4) hs dX14_reckon_18 ?_
  refine lv_tableIn (x := 4) (off := 200) (tgt := 219) hx hb dX14_reckon_19 (by decide) (by decide) (by decide) (by decide) ?_
  refine lv_aload_n hx hb dX14_reckon_219 rfl (lv_at hl 1 rfl) ?_
  refine q_get hx hb hts hown hA hW iX14 rO_0 rfl 19 (by decide) (hts (.fieldLink RX14 45 "HighRecipesModel" "now" "[I") (by decide +kernel)) (fun _ h9 => h9) (v := .ref (M + 42)) rfl dX14_reckon_220 ?_
  refine lv_iload_n hx hb dX14_reckon_223 rfl (lv_at hl 0 rfl) ?_
  refine lv_iconst (v := 0) hx hb dX14_reckon_224 (by decide) ?_
  refine q_ci (va_runS (As := [.int (nI i), .int 0]) (rest := [.ref (M + 42)]) ⟨hx, hb, hml, hown, hts⟩ (kX14_of_0 l E (rO E f M r) n i) (va_cwS 2 hts gX14_reckon_X14_of rfl rfl rfl (by decide +kernel) ⟨(by show 0 + 1 ≤ 3 * dp + 3; omega), (by show 8 + (2 + 11) + 0 ≤ 100 * dp + 100; omega)⟩) (q_pS hA hW hS) rfl rfl hl.1 rfl (lv_room (Nat.le_of_ble_eq_true rfl)) dX14_reckon_225 ⟨Nat.le_of_ble_eq_true rfl, Nat.le_of_ble_eq_true rfl⟩) hS (fun r_225 f_225 n_225 H locs hp hW hS => ?_)
  obtain ⟨rfl, rfl, rfl⟩ := hp
  have hW : q_W E (rO E f M r) n H := hW
  refine q_ald hx hb hA hW (rO_42 (g := r 42) rfl) (52 + 4 * i) rfl (by omega) (by decide) (x := (r 42) (52 + 4 * i)) rfl dX14_reckon_228 ?_
  exact q_iret hx hb hr hlocks hW hS ⟨rfl, hmE, rfl⟩ (Nat.le_of_ble_eq_true rfl) (Nat.le_of_ble_eq_true rfl) dX14_reckon_229

set_option maxHeartbeats 4000000 in
set_option maxRecDepth 100000 in
theorem kX14_reckon_5 (l : Launch) (E : q_E) (f : q_H) (n : Nat) (M : Nat) (r : q_R) (pn : Nat) (a dp : Nat) (i : Nat)  (hm : RM E f M r) (hpn : pn ≤ 8) (ha : a < 400) (hs : (r 22) a = 5) (hi : i < pn) (hl0 : (r 23) a = nI i) : Met l yX14_reckon wsX14_reckon ({ frames := 3 * dp + 3, cells := 0, slots := 0, locals := 100 * dp + 100 }) (q_P E [.ref M, .int (nI a)] f n) (q_Qi E (fun r0 f1 n1 => (r 42) (53 + 4 * i) = r0 ∧ f = f1 ∧ n = n1)) 0 0 (q_ge E) := by
  refine Met.ofW (cc := cX14_reckon) (maxL := 3) (ret := (some .int)) (by decide) rfl ?_
  intro p e s m args below meth c s₁ B hml hv
  obtain ⟨rfl, hA, hW⟩ := hv
  have hx := B.exec
  have hb := B.bytes
  have hr := B.returns
  have hts := atoms_spec (ws := wsX14_reckon) B.pre
  have hown : s.vm.findClass RX14 = some m.cls := findClass_of_methodNamed B.named
  have hlocks := B.notSynchronized
  have hS : va_S (q_ge E) s.heap s.heap [] := va_S.rf
  have iX13 : ∀ w ∈ wsX130, w ∈ wsX14_reckon := by decide +kernel
  have iX14 : ∀ w ∈ wsX140, w ∈ wsX14_reckon := by decide +kernel
  have hl := lv_entry ([.ref M, .int (nI a)]) (n := 3) (Nat.le_of_ble_eq_true rfl)
  rw [lg_entry_eq]
  generalize (lg_sl ([.ref M, .int (nI a)]) ++ List.replicate (3 - (lg_sl ([.ref M, .int (nI a)])).length) Slot.unset).toArray = ls at hl ⊢
  have hl : lv_has ls 3 [(0, .ref M), (1, .int (nI a))] := hl
  have hmE := hm.eq
  rw [hm.eq] at hW
  refine lv_aload_n hx hb dX14_reckon_0 rfl (lv_at hl 0 rfl) ?_
  refine q_get hx hb hts hown hA hW iX14 rO_0 rfl 17 (by decide) (hts (.fieldLink RX14 38 "HighRecipesModel" "told" "LHighRecipesModel$Book;") (by decide +kernel)) (fun _ h9 => h9) (v := .ref (M + 8)) rfl dX14_reckon_1 ?_
  refine q_getN hx hb hts hown hA hW iX13 rO_8 rfl 19 (by decide) (va_Nw.use rfl (hA.2.2.2.1 ("HighRecipesModel", 165, "HighRecipesModel$Book", "left", "[I", "HighRecipesModel") (by decide +kernel))) (fun _ h9 => h9) (v := .ref (M + 23)) rfl dX14_reckon_4 ?_
  refine lv_iload_n hx hb dX14_reckon_7 rfl (lv_at hl 1 rfl) ?_
  refine q_ald hx hb hA hW (rO_23 (g := r 23) rfl) a rfl (by omega) (by decide) (x := nI i) hl0 dX14_reckon_8 ?_
  refine lv_istore_n (lv' := [(2, .int (nI i)), (0, .ref M), (1, .int (nI a))]) hx hb dX14_reckon_9 rfl hl (by decide) rfl (fun ls hl => ?_)
  refine lv_aload_n hx hb dX14_reckon_10 rfl (lv_at hl 1 rfl) ?_
  refine q_get hx hb hts hown hA hW iX14 rO_0 rfl 17 (by decide) (hts (.fieldLink RX14 38 "HighRecipesModel" "told" "LHighRecipesModel$Book;") (by decide +kernel)) (fun _ h9 => h9) (v := .ref (M + 8)) rfl dX14_reckon_11 ?_
  refine q_getN hx hb hts hown hA hW iX13 rO_8 rfl 18 (by decide) (va_Nw.use rfl (hA.2.2.2.1 ("HighRecipesModel", 162, "HighRecipesModel$Book", "sort", "[I", "HighRecipesModel") (by decide +kernel))) (fun _ h9 => h9) (v := .ref (M + 22)) rfl dX14_reckon_14 ?_
  refine lv_iload_n hx hb dX14_reckon_17 rfl (lv_at hl 2 rfl) ?_
  refine q_ald hx hb hA hW (rO_22 (g := r 22) rfl) a rfl (by omega) (by decide) (x := 5) hs dX14_reckon_18 ?_
  refine lv_tableIn (x := 5) (off := 211) (tgt := 230) hx hb dX14_reckon_19 (by decide) (by decide) (by decide) (by decide) ?_
  refine lv_aload_n hx hb dX14_reckon_230 rfl (lv_at hl 1 rfl) ?_
  refine q_get hx hb hts hown hA hW iX14 rO_0 rfl 19 (by decide) (hts (.fieldLink RX14 45 "HighRecipesModel" "now" "[I") (by decide +kernel)) (fun _ h9 => h9) (v := .ref (M + 42)) rfl dX14_reckon_231 ?_
  refine lv_iload_n hx hb dX14_reckon_234 rfl (lv_at hl 0 rfl) ?_
  refine lv_iconst (v := 1) hx hb dX14_reckon_235 (by decide) ?_
  refine q_ci (va_runS (As := [.int (nI i), .int 1]) (rest := [.ref (M + 42)]) ⟨hx, hb, hml, hown, hts⟩ (kX14_of_1 l E (rO E f M r) n i) (va_cwS 2 hts gX14_reckon_X14_of rfl rfl rfl (by decide +kernel) ⟨(by show 0 + 1 ≤ 3 * dp + 3; omega), (by show 8 + (2 + 11) + 0 ≤ 100 * dp + 100; omega)⟩) (q_pS hA hW hS) rfl rfl hl.1 rfl (lv_room (Nat.le_of_ble_eq_true rfl)) dX14_reckon_236 ⟨Nat.le_of_ble_eq_true rfl, Nat.le_of_ble_eq_true rfl⟩) hS (fun r_236 f_236 n_236 H locs hp hW hS => ?_)
  obtain ⟨rfl, rfl, rfl⟩ := hp
  have hW : q_W E (rO E f M r) n H := hW
  refine q_ald hx hb hA hW (rO_42 (g := r 42) rfl) (53 + 4 * i) rfl (by omega) (by decide) (x := (r 42) (53 + 4 * i)) rfl dX14_reckon_239 ?_
  exact q_iret hx hb hr hlocks hW hS ⟨rfl, hmE, rfl⟩ (Nat.le_of_ble_eq_true rfl) (Nat.le_of_ble_eq_true rfl) dX14_reckon_240

set_option maxHeartbeats 4000000 in
set_option maxRecDepth 100000 in
theorem kX14_reckon_7 (l : Launch) (E : q_E) (f : q_H) (n : Nat) (M : Nat) (r : q_R) (pn : Nat) (a dp : Nat) (i : Nat)  (hm : RM E f M r) (hpn : pn ≤ 8) (ha : a < 400) (hs : (r 22) a = 7) (hi : i < pn) (hl0 : (r 23) a = nI i) : Met l yX14_reckon wsX14_reckon ({ frames := 3 * dp + 3, cells := 0, slots := 0, locals := 100 * dp + 100 }) (q_P E [.ref M, .int (nI a)] f n) (q_Qi E (fun r0 f1 n1 => (r 42) (54 + 4 * i) = r0 ∧ f = f1 ∧ n = n1)) 0 0 (q_ge E) := by
  refine Met.ofW (cc := cX14_reckon) (maxL := 3) (ret := (some .int)) (by decide) rfl ?_
  intro p e s m args below meth c s₁ B hml hv
  obtain ⟨rfl, hA, hW⟩ := hv
  have hx := B.exec
  have hb := B.bytes
  have hr := B.returns
  have hts := atoms_spec (ws := wsX14_reckon) B.pre
  have hown : s.vm.findClass RX14 = some m.cls := findClass_of_methodNamed B.named
  have hlocks := B.notSynchronized
  have hS : va_S (q_ge E) s.heap s.heap [] := va_S.rf
  have iX13 : ∀ w ∈ wsX130, w ∈ wsX14_reckon := by decide +kernel
  have iX14 : ∀ w ∈ wsX140, w ∈ wsX14_reckon := by decide +kernel
  have hl := lv_entry ([.ref M, .int (nI a)]) (n := 3) (Nat.le_of_ble_eq_true rfl)
  rw [lg_entry_eq]
  generalize (lg_sl ([.ref M, .int (nI a)]) ++ List.replicate (3 - (lg_sl ([.ref M, .int (nI a)])).length) Slot.unset).toArray = ls at hl ⊢
  have hl : lv_has ls 3 [(0, .ref M), (1, .int (nI a))] := hl
  have hmE := hm.eq
  rw [hm.eq] at hW
  refine lv_aload_n hx hb dX14_reckon_0 rfl (lv_at hl 0 rfl) ?_
  refine q_get hx hb hts hown hA hW iX14 rO_0 rfl 17 (by decide) (hts (.fieldLink RX14 38 "HighRecipesModel" "told" "LHighRecipesModel$Book;") (by decide +kernel)) (fun _ h9 => h9) (v := .ref (M + 8)) rfl dX14_reckon_1 ?_
  refine q_getN hx hb hts hown hA hW iX13 rO_8 rfl 19 (by decide) (va_Nw.use rfl (hA.2.2.2.1 ("HighRecipesModel", 165, "HighRecipesModel$Book", "left", "[I", "HighRecipesModel") (by decide +kernel))) (fun _ h9 => h9) (v := .ref (M + 23)) rfl dX14_reckon_4 ?_
  refine lv_iload_n hx hb dX14_reckon_7 rfl (lv_at hl 1 rfl) ?_
  refine q_ald hx hb hA hW (rO_23 (g := r 23) rfl) a rfl (by omega) (by decide) (x := nI i) hl0 dX14_reckon_8 ?_
  refine lv_istore_n (lv' := [(2, .int (nI i)), (0, .ref M), (1, .int (nI a))]) hx hb dX14_reckon_9 rfl hl (by decide) rfl (fun ls hl => ?_)
  refine lv_aload_n hx hb dX14_reckon_10 rfl (lv_at hl 1 rfl) ?_
  refine q_get hx hb hts hown hA hW iX14 rO_0 rfl 17 (by decide) (hts (.fieldLink RX14 38 "HighRecipesModel" "told" "LHighRecipesModel$Book;") (by decide +kernel)) (fun _ h9 => h9) (v := .ref (M + 8)) rfl dX14_reckon_11 ?_
  refine q_getN hx hb hts hown hA hW iX13 rO_8 rfl 18 (by decide) (va_Nw.use rfl (hA.2.2.2.1 ("HighRecipesModel", 162, "HighRecipesModel$Book", "sort", "[I", "HighRecipesModel") (by decide +kernel))) (fun _ h9 => h9) (v := .ref (M + 22)) rfl dX14_reckon_14 ?_
  refine lv_iload_n hx hb dX14_reckon_17 rfl (lv_at hl 2 rfl) ?_
  refine q_ald hx hb hA hW (rO_22 (g := r 22) rfl) a rfl (by omega) (by decide) (x := 7) hs dX14_reckon_18 ?_
  refine lv_tableIn (x := 7) (off := 222) (tgt := 241) hx hb dX14_reckon_19 (by decide) (by decide) (by decide) (by decide) ?_
  refine lv_aload_n hx hb dX14_reckon_241 rfl (lv_at hl 1 rfl) ?_
  refine q_get hx hb hts hown hA hW iX14 rO_0 rfl 19 (by decide) (hts (.fieldLink RX14 45 "HighRecipesModel" "now" "[I") (by decide +kernel)) (fun _ h9 => h9) (v := .ref (M + 42)) rfl dX14_reckon_242 ?_
  refine lv_iload_n hx hb dX14_reckon_245 rfl (lv_at hl 0 rfl) ?_
  refine lv_iconst (v := 2) hx hb dX14_reckon_246 (by decide) ?_
  refine q_ci (va_runS (As := [.int (nI i), .int 2]) (rest := [.ref (M + 42)]) ⟨hx, hb, hml, hown, hts⟩ (kX14_of_2 l E (rO E f M r) n i) (va_cwS 2 hts gX14_reckon_X14_of rfl rfl rfl (by decide +kernel) ⟨(by show 0 + 1 ≤ 3 * dp + 3; omega), (by show 8 + (2 + 11) + 0 ≤ 100 * dp + 100; omega)⟩) (q_pS hA hW hS) rfl rfl hl.1 rfl (lv_room (Nat.le_of_ble_eq_true rfl)) dX14_reckon_247 ⟨Nat.le_of_ble_eq_true rfl, Nat.le_of_ble_eq_true rfl⟩) hS (fun r_247 f_247 n_247 H locs hp hW hS => ?_)
  obtain ⟨rfl, rfl, rfl⟩ := hp
  have hW : q_W E (rO E f M r) n H := hW
  refine q_ald hx hb hA hW (rO_42 (g := r 42) rfl) (54 + 4 * i) rfl (by omega) (by decide) (x := (r 42) (54 + 4 * i)) rfl dX14_reckon_250 ?_
  exact q_iret hx hb hr hlocks hW hS ⟨rfl, hmE, rfl⟩ (Nat.le_of_ble_eq_true rfl) (Nat.le_of_ble_eq_true rfl) dX14_reckon_251

set_option maxHeartbeats 4000000 in
set_option maxRecDepth 100000 in
theorem kX14_reckon_25 (l : Launch) (E : q_E) (f : q_H) (n : Nat) (M : Nat) (r : q_R) (pn : Nat) (a dp : Nat) (i : Nat)  (hm : RM E f M r) (hpn : pn ≤ 8) (ha : a < 400) (hs : (r 22) a = 25) (hi : i < pn) (hl0 : (r 23) a = nI i) : Met l yX14_reckon wsX14_reckon ({ frames := 3 * dp + 3, cells := 0, slots := 0, locals := 100 * dp + 100 }) (q_P E [.ref M, .int (nI a)] f n) (q_Qi E (fun r0 f1 n1 => (r 42) (55 + 4 * i) = r0 ∧ f = f1 ∧ n = n1)) 0 0 (q_ge E) := by
  refine Met.ofW (cc := cX14_reckon) (maxL := 3) (ret := (some .int)) (by decide) rfl ?_
  intro p e s m args below meth c s₁ B hml hv
  obtain ⟨rfl, hA, hW⟩ := hv
  have hx := B.exec
  have hb := B.bytes
  have hr := B.returns
  have hts := atoms_spec (ws := wsX14_reckon) B.pre
  have hown : s.vm.findClass RX14 = some m.cls := findClass_of_methodNamed B.named
  have hlocks := B.notSynchronized
  have hS : va_S (q_ge E) s.heap s.heap [] := va_S.rf
  have iX13 : ∀ w ∈ wsX130, w ∈ wsX14_reckon := by decide +kernel
  have iX14 : ∀ w ∈ wsX140, w ∈ wsX14_reckon := by decide +kernel
  have hl := lv_entry ([.ref M, .int (nI a)]) (n := 3) (Nat.le_of_ble_eq_true rfl)
  rw [lg_entry_eq]
  generalize (lg_sl ([.ref M, .int (nI a)]) ++ List.replicate (3 - (lg_sl ([.ref M, .int (nI a)])).length) Slot.unset).toArray = ls at hl ⊢
  have hl : lv_has ls 3 [(0, .ref M), (1, .int (nI a))] := hl
  have hmE := hm.eq
  rw [hm.eq] at hW
  refine lv_aload_n hx hb dX14_reckon_0 rfl (lv_at hl 0 rfl) ?_
  refine q_get hx hb hts hown hA hW iX14 rO_0 rfl 17 (by decide) (hts (.fieldLink RX14 38 "HighRecipesModel" "told" "LHighRecipesModel$Book;") (by decide +kernel)) (fun _ h9 => h9) (v := .ref (M + 8)) rfl dX14_reckon_1 ?_
  refine q_getN hx hb hts hown hA hW iX13 rO_8 rfl 19 (by decide) (va_Nw.use rfl (hA.2.2.2.1 ("HighRecipesModel", 165, "HighRecipesModel$Book", "left", "[I", "HighRecipesModel") (by decide +kernel))) (fun _ h9 => h9) (v := .ref (M + 23)) rfl dX14_reckon_4 ?_
  refine lv_iload_n hx hb dX14_reckon_7 rfl (lv_at hl 1 rfl) ?_
  refine q_ald hx hb hA hW (rO_23 (g := r 23) rfl) a rfl (by omega) (by decide) (x := nI i) hl0 dX14_reckon_8 ?_
  refine lv_istore_n (lv' := [(2, .int (nI i)), (0, .ref M), (1, .int (nI a))]) hx hb dX14_reckon_9 rfl hl (by decide) rfl (fun ls hl => ?_)
  refine lv_aload_n hx hb dX14_reckon_10 rfl (lv_at hl 1 rfl) ?_
  refine q_get hx hb hts hown hA hW iX14 rO_0 rfl 17 (by decide) (hts (.fieldLink RX14 38 "HighRecipesModel" "told" "LHighRecipesModel$Book;") (by decide +kernel)) (fun _ h9 => h9) (v := .ref (M + 8)) rfl dX14_reckon_11 ?_
  refine q_getN hx hb hts hown hA hW iX13 rO_8 rfl 18 (by decide) (va_Nw.use rfl (hA.2.2.2.1 ("HighRecipesModel", 162, "HighRecipesModel$Book", "sort", "[I", "HighRecipesModel") (by decide +kernel))) (fun _ h9 => h9) (v := .ref (M + 22)) rfl dX14_reckon_14 ?_
  refine lv_iload_n hx hb dX14_reckon_17 rfl (lv_at hl 2 rfl) ?_
  refine q_ald hx hb hA hW (rO_22 (g := r 22) rfl) a rfl (by omega) (by decide) (x := 25) hs dX14_reckon_18 ?_
  refine lv_tableIn (x := 25) (off := 233) (tgt := 252) hx hb dX14_reckon_19 (by decide) (by decide) (by decide) (by decide) ?_
  refine lv_aload_n hx hb dX14_reckon_252 rfl (lv_at hl 1 rfl) ?_
  refine q_get hx hb hts hown hA hW iX14 rO_0 rfl 19 (by decide) (hts (.fieldLink RX14 45 "HighRecipesModel" "now" "[I") (by decide +kernel)) (fun _ h9 => h9) (v := .ref (M + 42)) rfl dX14_reckon_253 ?_
  refine lv_iload_n hx hb dX14_reckon_256 rfl (lv_at hl 0 rfl) ?_
  refine lv_iconst (v := 3) hx hb dX14_reckon_257 (by decide) ?_
  refine q_ci (va_runS (As := [.int (nI i), .int 3]) (rest := [.ref (M + 42)]) ⟨hx, hb, hml, hown, hts⟩ (kX14_of_3 l E (rO E f M r) n i) (va_cwS 2 hts gX14_reckon_X14_of rfl rfl rfl (by decide +kernel) ⟨(by show 0 + 1 ≤ 3 * dp + 3; omega), (by show 8 + (2 + 11) + 0 ≤ 100 * dp + 100; omega)⟩) (q_pS hA hW hS) rfl rfl hl.1 rfl (lv_room (Nat.le_of_ble_eq_true rfl)) dX14_reckon_258 ⟨Nat.le_of_ble_eq_true rfl, Nat.le_of_ble_eq_true rfl⟩) hS (fun r_258 f_258 n_258 H locs hp hW hS => ?_)
  obtain ⟨rfl, rfl, rfl⟩ := hp
  have hW : q_W E (rO E f M r) n H := hW
  refine q_ald hx hb hA hW (rO_42 (g := r 42) rfl) (55 + 4 * i) rfl (by omega) (by decide) (x := (r 42) (55 + 4 * i)) rfl dX14_reckon_261 ?_
  exact q_iret hx hb hr hlocks hW hS ⟨rfl, hmE, rfl⟩ (Nat.le_of_ble_eq_true rfl) (Nat.le_of_ble_eq_true rfl) dX14_reckon_262

set_option maxHeartbeats 4000000 in
set_option maxRecDepth 100000 in
theorem kX14_reckon_26 (l : Launch) (E : q_E) (f : q_H) (n : Nat) (M : Nat) (r : q_R) (pn : Nat) (a dp : Nat) (i : Nat)  (hm : RM E f M r) (hpn : pn ≤ 8) (ha : a < 400) (hs : (r 22) a = 26) (hi : i < pn) (hl0 : (r 23) a = nI i) : Met l yX14_reckon wsX14_reckon ({ frames := 3 * dp + 3, cells := 0, slots := 0, locals := 100 * dp + 100 }) (q_P E [.ref M, .int (nI a)] f n) (q_Qi E (fun r0 f1 n1 => (r 9) i - (r 42) (52 + 4 * i) - (r 42) (53 + 4 * i) = r0 ∧ f = f1 ∧ n = n1)) 0 0 (q_ge E) := by
  refine Met.ofW (cc := cX14_reckon) (maxL := 3) (ret := (some .int)) (by decide) rfl ?_
  intro p e s m args below meth c s₁ B hml hv
  obtain ⟨rfl, hA, hW⟩ := hv
  have hx := B.exec
  have hb := B.bytes
  have hr := B.returns
  have hts := atoms_spec (ws := wsX14_reckon) B.pre
  have hown : s.vm.findClass RX14 = some m.cls := findClass_of_methodNamed B.named
  have hlocks := B.notSynchronized
  have hS : va_S (q_ge E) s.heap s.heap [] := va_S.rf
  have iX13 : ∀ w ∈ wsX130, w ∈ wsX14_reckon := by decide +kernel
  have iX14 : ∀ w ∈ wsX140, w ∈ wsX14_reckon := by decide +kernel
  have hl := lv_entry ([.ref M, .int (nI a)]) (n := 3) (Nat.le_of_ble_eq_true rfl)
  rw [lg_entry_eq]
  generalize (lg_sl ([.ref M, .int (nI a)]) ++ List.replicate (3 - (lg_sl ([.ref M, .int (nI a)])).length) Slot.unset).toArray = ls at hl ⊢
  have hl : lv_has ls 3 [(0, .ref M), (1, .int (nI a))] := hl
  have hmE := hm.eq
  rw [hm.eq] at hW
  refine lv_aload_n hx hb dX14_reckon_0 rfl (lv_at hl 0 rfl) ?_
  refine q_get hx hb hts hown hA hW iX14 rO_0 rfl 17 (by decide) (hts (.fieldLink RX14 38 "HighRecipesModel" "told" "LHighRecipesModel$Book;") (by decide +kernel)) (fun _ h9 => h9) (v := .ref (M + 8)) rfl dX14_reckon_1 ?_
  refine q_getN hx hb hts hown hA hW iX13 rO_8 rfl 19 (by decide) (va_Nw.use rfl (hA.2.2.2.1 ("HighRecipesModel", 165, "HighRecipesModel$Book", "left", "[I", "HighRecipesModel") (by decide +kernel))) (fun _ h9 => h9) (v := .ref (M + 23)) rfl dX14_reckon_4 ?_
  refine lv_iload_n hx hb dX14_reckon_7 rfl (lv_at hl 1 rfl) ?_
  refine q_ald hx hb hA hW (rO_23 (g := r 23) rfl) a rfl (by omega) (by decide) (x := nI i) hl0 dX14_reckon_8 ?_
  refine lv_istore_n (lv' := [(2, .int (nI i)), (0, .ref M), (1, .int (nI a))]) hx hb dX14_reckon_9 rfl hl (by decide) rfl (fun ls hl => ?_)
  refine lv_aload_n hx hb dX14_reckon_10 rfl (lv_at hl 1 rfl) ?_
  refine q_get hx hb hts hown hA hW iX14 rO_0 rfl 17 (by decide) (hts (.fieldLink RX14 38 "HighRecipesModel" "told" "LHighRecipesModel$Book;") (by decide +kernel)) (fun _ h9 => h9) (v := .ref (M + 8)) rfl dX14_reckon_11 ?_
  refine q_getN hx hb hts hown hA hW iX13 rO_8 rfl 18 (by decide) (va_Nw.use rfl (hA.2.2.2.1 ("HighRecipesModel", 162, "HighRecipesModel$Book", "sort", "[I", "HighRecipesModel") (by decide +kernel))) (fun _ h9 => h9) (v := .ref (M + 22)) rfl dX14_reckon_14 ?_
  refine lv_iload_n hx hb dX14_reckon_17 rfl (lv_at hl 2 rfl) ?_
  refine q_ald hx hb hA hW (rO_22 (g := r 22) rfl) a rfl (by omega) (by decide) (x := 26) hs dX14_reckon_18 ?_
  refine lv_tableIn (x := 26) (off := 244) (tgt := 263) hx hb dX14_reckon_19 (by decide) (by decide) (by decide) (by decide) ?_
  refine lv_aload_n hx hb dX14_reckon_263 rfl (lv_at hl 1 rfl) ?_
  refine lv_iload_n hx hb dX14_reckon_264 rfl (lv_at hl 0 rfl) ?_
  refine q_ci (va_runV (As := [.int (nI i)]) (rest := []) ⟨hx, hb, hml, hown, hts⟩ (kX14_room l E (rO E f M r) n M r pn i rO_K (by assumption) (by assumption)) (cwV 1 hts gX14_reckon_X14_room rfl rfl rfl (by decide +kernel) ⟨(by show 2 + 1 ≤ 3 * dp + 3; omega), (by show 8 + (2 + 11) + 42 ≤ 100 * dp + 100; omega)⟩) (q_pV hA hW hS (ci := 12) rfl rO_0) rfl rfl hl.1 rfl (lv_room (Nat.le_of_ble_eq_true rfl)) dX14_reckon_265 ⟨Nat.le_of_ble_eq_true rfl, Nat.le_of_ble_eq_true rfl⟩) hS (fun r_265 f_265 n_265 H locs hp hW hS => ?_)
  obtain ⟨rfl, rfl, rfl⟩ := hp
  have hW : q_W E (rO E f M r) n H := hW
  exact q_iret hx hb hr hlocks hW hS ⟨rfl, hmE, rfl⟩ (Nat.le_of_ble_eq_true rfl) (Nat.le_of_ble_eq_true rfl) dX14_reckon_268

set_option maxHeartbeats 4000000 in
set_option maxRecDepth 100000 in
theorem kX14_reckon_56 (l : Launch) (E : q_E) (f : q_H) (n : Nat) (M : Nat) (r : q_R) (a dp : Nat) (x y : Nat) (dx dy : Int32)  (hm : RM E f M r) (ha : a < 400) (hs : (r 22) a = 56) (hl0 : (r 23) a = nI x) (hr0 : (r 24) a = nI y) (ix : Met l yX14_reckon wsX14_reckon ({ frames := 3 * dp, cells := 0, slots := 0, locals := 100 * dp }) (q_P E [.ref M, .int (nI x)] (rO E f M r) n) (q_Qi E (fun r0 f1 n1 => dx = r0 ∧ rO E f M r = f1 ∧ n = n1)) 0 0 (q_ge E)) (iy : Met l yX14_reckon wsX14_reckon ({ frames := 3 * dp, cells := 0, slots := 0, locals := 100 * dp }) (q_P E [.ref M, .int (nI y)] (rO E f M r) n) (q_Qi E (fun r0 f1 n1 => dy = r0 ∧ rO E f M r = f1 ∧ n = n1)) 0 0 (q_ge E)) : Met l yX14_reckon wsX14_reckon ({ frames := 3 * dp + 3, cells := 0, slots := 0, locals := 100 * dp + 100 }) (q_P E [.ref M, .int (nI a)] f n) (q_Qi E (fun r0 f1 n1 => dx + dy = r0 ∧ f = f1 ∧ n = n1)) 0 0 (q_ge E) := by
  refine Met.ofW (cc := cX14_reckon) (maxL := 3) (ret := (some .int)) (by decide) rfl ?_
  intro p e s m args below meth c s₁ B hml hv
  obtain ⟨rfl, hA, hW⟩ := hv
  have hx := B.exec
  have hb := B.bytes
  have hr := B.returns
  have hts := atoms_spec (ws := wsX14_reckon) B.pre
  have hown : s.vm.findClass RX14 = some m.cls := findClass_of_methodNamed B.named
  have hlocks := B.notSynchronized
  have hS : va_S (q_ge E) s.heap s.heap [] := va_S.rf
  have iX13 : ∀ w ∈ wsX130, w ∈ wsX14_reckon := by decide +kernel
  have iX14 : ∀ w ∈ wsX140, w ∈ wsX14_reckon := by decide +kernel
  have hl := lv_entry ([.ref M, .int (nI a)]) (n := 3) (Nat.le_of_ble_eq_true rfl)
  rw [lg_entry_eq]
  generalize (lg_sl ([.ref M, .int (nI a)]) ++ List.replicate (3 - (lg_sl ([.ref M, .int (nI a)])).length) Slot.unset).toArray = ls at hl ⊢
  have hl : lv_has ls 3 [(0, .ref M), (1, .int (nI a))] := hl
  have hmE := hm.eq
  rw [hm.eq] at hW
  refine lv_aload_n hx hb dX14_reckon_0 rfl (lv_at hl 0 rfl) ?_
  refine q_get hx hb hts hown hA hW iX14 rO_0 rfl 17 (by decide) (hts (.fieldLink RX14 38 "HighRecipesModel" "told" "LHighRecipesModel$Book;") (by decide +kernel)) (fun _ h9 => h9) (v := .ref (M + 8)) rfl dX14_reckon_1 ?_
  refine q_getN hx hb hts hown hA hW iX13 rO_8 rfl 19 (by decide) (va_Nw.use rfl (hA.2.2.2.1 ("HighRecipesModel", 165, "HighRecipesModel$Book", "left", "[I", "HighRecipesModel") (by decide +kernel))) (fun _ h9 => h9) (v := .ref (M + 23)) rfl dX14_reckon_4 ?_
  refine lv_iload_n hx hb dX14_reckon_7 rfl (lv_at hl 1 rfl) ?_
  refine q_ald hx hb hA hW (rO_23 (g := r 23) rfl) a rfl (by omega) (by decide) (x := nI x) hl0 dX14_reckon_8 ?_
  refine lv_istore_n (lv' := [(2, .int (nI x)), (0, .ref M), (1, .int (nI a))]) hx hb dX14_reckon_9 rfl hl (by decide) rfl (fun ls hl => ?_)
  refine lv_aload_n hx hb dX14_reckon_10 rfl (lv_at hl 1 rfl) ?_
  refine q_get hx hb hts hown hA hW iX14 rO_0 rfl 17 (by decide) (hts (.fieldLink RX14 38 "HighRecipesModel" "told" "LHighRecipesModel$Book;") (by decide +kernel)) (fun _ h9 => h9) (v := .ref (M + 8)) rfl dX14_reckon_11 ?_
  refine q_getN hx hb hts hown hA hW iX13 rO_8 rfl 18 (by decide) (va_Nw.use rfl (hA.2.2.2.1 ("HighRecipesModel", 162, "HighRecipesModel$Book", "sort", "[I", "HighRecipesModel") (by decide +kernel))) (fun _ h9 => h9) (v := .ref (M + 22)) rfl dX14_reckon_14 ?_
  refine lv_iload_n hx hb dX14_reckon_17 rfl (lv_at hl 2 rfl) ?_
  refine q_ald hx hb hA hW (rO_22 (g := r 22) rfl) a rfl (by omega) (by decide) (x := 56) hs dX14_reckon_18 ?_
  refine lv_tableOut (x := 56) (tgt := 269) hx hb dX14_reckon_19 (by decide) (by decide) ?_
  refine lv_aload_n hx hb dX14_reckon_269 rfl (lv_at hl 1 rfl) ?_
  refine q_get hx hb hts hown hA hW iX14 rO_0 rfl 17 (by decide) (hts (.fieldLink RX14 38 "HighRecipesModel" "told" "LHighRecipesModel$Book;") (by decide +kernel)) (fun _ h9 => h9) (v := .ref (M + 8)) rfl dX14_reckon_270 ?_
  refine q_getN hx hb hts hown hA hW iX13 rO_8 rfl 18 (by decide) (va_Nw.use rfl (hA.2.2.2.1 ("HighRecipesModel", 162, "HighRecipesModel$Book", "sort", "[I", "HighRecipesModel") (by decide +kernel))) (fun _ h9 => h9) (v := .ref (M + 22)) rfl dX14_reckon_273 ?_
  refine lv_iload_n hx hb dX14_reckon_276 rfl (lv_at hl 2 rfl) ?_
  refine q_ald hx hb hA hW (rO_22 (g := r 22) rfl) a rfl (by omega) (by decide) (x := 56) hs dX14_reckon_277 ?_
  refine lv_aload_n hx hb dX14_reckon_278 rfl (lv_at hl 1 rfl) ?_
  refine lv_iload_n hx hb dX14_reckon_279 rfl (lv_at hl 0 rfl) ?_
  refine q_ci (va_runV (As := [.int (nI x)]) (rest := [.int 56]) ⟨hx, hb, hml, hown, hts⟩ (ix) (cwV 1 hts gX14_reckon_X14_reckon rfl rfl rfl (by decide +kernel) ⟨(by show (3 * dp) + 1 ≤ 3 * dp + 3; omega), (by show 8 + (3 + 11) + (100 * dp) ≤ 100 * dp + 100; omega)⟩) (q_pV hA hW hS (ci := 12) rfl rO_0) rfl rfl hl.1 rfl (lv_room (Nat.le_of_ble_eq_true rfl)) dX14_reckon_280 ⟨Nat.le_of_ble_eq_true rfl, Nat.le_of_ble_eq_true rfl⟩) hS (fun r_280 f_280 n_280 H locs hp hW hS => ?_)
  obtain ⟨rfl, rfl, rfl⟩ := hp
  have hW : q_W E (rO E f M r) n H := hW
  refine lv_aload_n hx hb dX14_reckon_283 rfl (lv_at hl 1 rfl) ?_
  refine lv_aload_n hx hb dX14_reckon_284 rfl (lv_at hl 1 rfl) ?_
  refine q_get hx hb hts hown hA hW iX14 rO_0 rfl 17 (by decide) (hts (.fieldLink RX14 38 "HighRecipesModel" "told" "LHighRecipesModel$Book;") (by decide +kernel)) (fun _ h9 => h9) (v := .ref (M + 8)) rfl dX14_reckon_285 ?_
  refine q_getN hx hb hts hown hA hW iX13 rO_8 rfl 20 (by decide) (va_Nw.use rfl (hA.2.2.2.1 ("HighRecipesModel", 168, "HighRecipesModel$Book", "right", "[I", "HighRecipesModel") (by decide +kernel))) (fun _ h9 => h9) (v := .ref (M + 24)) rfl dX14_reckon_288 ?_
  refine lv_iload_n hx hb dX14_reckon_291 rfl (lv_at hl 2 rfl) ?_
  refine q_ald hx hb hA hW (rO_24 (g := r 24) rfl) a rfl (by omega) (by decide) (x := nI y) hr0 dX14_reckon_292 ?_
  refine q_ci (va_runV (As := [.int (nI y)]) (rest := [.int dx, .int 56]) ⟨hx, hb, hml, hown, hts⟩ (iy) (cwV 1 hts gX14_reckon_X14_reckon rfl rfl rfl (by decide +kernel) ⟨(by show (3 * dp) + 1 ≤ 3 * dp + 3; omega), (by show 8 + (3 + 11) + (100 * dp) ≤ 100 * dp + 100; omega)⟩) (q_pV hA hW hS (ci := 12) rfl rO_0) rfl rfl hl.1 rfl (lv_room (Nat.le_of_ble_eq_true rfl)) dX14_reckon_293 ⟨Nat.le_of_ble_eq_true rfl, Nat.le_of_ble_eq_true rfl⟩) hS (fun r_293 f_293 n_293 H locs hp hW hS => ?_)
  obtain ⟨rfl, rfl, rfl⟩ := hp
  have hW : q_W E (rO E f M r) n H := hW
  refine q_ci (va_runS (As := [.int 56, .int dx, .int dy]) (rest := []) ⟨hx, hb, hml, hown, hts⟩ (kX14_joined_56 l E (rO E f M r) n dx dy) (va_cwS 3 hts gX14_reckon_X14_joined rfl rfl rfl (by decide +kernel) ⟨(by show 0 + 1 ≤ 3 * dp + 3; omega), (by show 8 + (3 + 11) + 0 ≤ 100 * dp + 100; omega)⟩) (q_pS hA hW hS) rfl rfl hl.1 rfl (lv_room (Nat.le_of_ble_eq_true rfl)) dX14_reckon_296 ⟨Nat.le_of_ble_eq_true rfl, Nat.le_of_ble_eq_true rfl⟩) hS (fun r_296 f_296 n_296 H locs hp hW hS => ?_)
  obtain ⟨rfl, rfl, rfl⟩ := hp
  have hW : q_W E (rO E f M r) n H := hW
  exact q_iret hx hb hr hlocks hW hS ⟨rfl, hmE, rfl⟩ (Nat.le_of_ble_eq_true rfl) (Nat.le_of_ble_eq_true rfl) dX14_reckon_299

set_option maxHeartbeats 4000000 in
set_option maxRecDepth 100000 in
theorem kX14_reckon_57 (l : Launch) (E : q_E) (f : q_H) (n : Nat) (M : Nat) (r : q_R) (a dp : Nat) (x y : Nat) (dx dy : Int32)  (hm : RM E f M r) (ha : a < 400) (hs : (r 22) a = 57) (hl0 : (r 23) a = nI x) (hr0 : (r 24) a = nI y) (ix : Met l yX14_reckon wsX14_reckon ({ frames := 3 * dp, cells := 0, slots := 0, locals := 100 * dp }) (q_P E [.ref M, .int (nI x)] (rO E f M r) n) (q_Qi E (fun r0 f1 n1 => dx = r0 ∧ rO E f M r = f1 ∧ n = n1)) 0 0 (q_ge E)) (iy : Met l yX14_reckon wsX14_reckon ({ frames := 3 * dp, cells := 0, slots := 0, locals := 100 * dp }) (q_P E [.ref M, .int (nI y)] (rO E f M r) n) (q_Qi E (fun r0 f1 n1 => dy = r0 ∧ rO E f M r = f1 ∧ n = n1)) 0 0 (q_ge E)) : Met l yX14_reckon wsX14_reckon ({ frames := 3 * dp + 3, cells := 0, slots := 0, locals := 100 * dp + 100 }) (q_P E [.ref M, .int (nI a)] f n) (q_Qi E (fun r0 f1 n1 => dx - dy = r0 ∧ f = f1 ∧ n = n1)) 0 0 (q_ge E) := by
  refine Met.ofW (cc := cX14_reckon) (maxL := 3) (ret := (some .int)) (by decide) rfl ?_
  intro p e s m args below meth c s₁ B hml hv
  obtain ⟨rfl, hA, hW⟩ := hv
  have hx := B.exec
  have hb := B.bytes
  have hr := B.returns
  have hts := atoms_spec (ws := wsX14_reckon) B.pre
  have hown : s.vm.findClass RX14 = some m.cls := findClass_of_methodNamed B.named
  have hlocks := B.notSynchronized
  have hS : va_S (q_ge E) s.heap s.heap [] := va_S.rf
  have iX13 : ∀ w ∈ wsX130, w ∈ wsX14_reckon := by decide +kernel
  have iX14 : ∀ w ∈ wsX140, w ∈ wsX14_reckon := by decide +kernel
  have hl := lv_entry ([.ref M, .int (nI a)]) (n := 3) (Nat.le_of_ble_eq_true rfl)
  rw [lg_entry_eq]
  generalize (lg_sl ([.ref M, .int (nI a)]) ++ List.replicate (3 - (lg_sl ([.ref M, .int (nI a)])).length) Slot.unset).toArray = ls at hl ⊢
  have hl : lv_has ls 3 [(0, .ref M), (1, .int (nI a))] := hl
  have hmE := hm.eq
  rw [hm.eq] at hW
  refine lv_aload_n hx hb dX14_reckon_0 rfl (lv_at hl 0 rfl) ?_
  refine q_get hx hb hts hown hA hW iX14 rO_0 rfl 17 (by decide) (hts (.fieldLink RX14 38 "HighRecipesModel" "told" "LHighRecipesModel$Book;") (by decide +kernel)) (fun _ h9 => h9) (v := .ref (M + 8)) rfl dX14_reckon_1 ?_
  refine q_getN hx hb hts hown hA hW iX13 rO_8 rfl 19 (by decide) (va_Nw.use rfl (hA.2.2.2.1 ("HighRecipesModel", 165, "HighRecipesModel$Book", "left", "[I", "HighRecipesModel") (by decide +kernel))) (fun _ h9 => h9) (v := .ref (M + 23)) rfl dX14_reckon_4 ?_
  refine lv_iload_n hx hb dX14_reckon_7 rfl (lv_at hl 1 rfl) ?_
  refine q_ald hx hb hA hW (rO_23 (g := r 23) rfl) a rfl (by omega) (by decide) (x := nI x) hl0 dX14_reckon_8 ?_
  refine lv_istore_n (lv' := [(2, .int (nI x)), (0, .ref M), (1, .int (nI a))]) hx hb dX14_reckon_9 rfl hl (by decide) rfl (fun ls hl => ?_)
  refine lv_aload_n hx hb dX14_reckon_10 rfl (lv_at hl 1 rfl) ?_
  refine q_get hx hb hts hown hA hW iX14 rO_0 rfl 17 (by decide) (hts (.fieldLink RX14 38 "HighRecipesModel" "told" "LHighRecipesModel$Book;") (by decide +kernel)) (fun _ h9 => h9) (v := .ref (M + 8)) rfl dX14_reckon_11 ?_
  refine q_getN hx hb hts hown hA hW iX13 rO_8 rfl 18 (by decide) (va_Nw.use rfl (hA.2.2.2.1 ("HighRecipesModel", 162, "HighRecipesModel$Book", "sort", "[I", "HighRecipesModel") (by decide +kernel))) (fun _ h9 => h9) (v := .ref (M + 22)) rfl dX14_reckon_14 ?_
  refine lv_iload_n hx hb dX14_reckon_17 rfl (lv_at hl 2 rfl) ?_
  refine q_ald hx hb hA hW (rO_22 (g := r 22) rfl) a rfl (by omega) (by decide) (x := 57) hs dX14_reckon_18 ?_
  refine lv_tableOut (x := 57) (tgt := 269) hx hb dX14_reckon_19 (by decide) (by decide) ?_
  refine lv_aload_n hx hb dX14_reckon_269 rfl (lv_at hl 1 rfl) ?_
  refine q_get hx hb hts hown hA hW iX14 rO_0 rfl 17 (by decide) (hts (.fieldLink RX14 38 "HighRecipesModel" "told" "LHighRecipesModel$Book;") (by decide +kernel)) (fun _ h9 => h9) (v := .ref (M + 8)) rfl dX14_reckon_270 ?_
  refine q_getN hx hb hts hown hA hW iX13 rO_8 rfl 18 (by decide) (va_Nw.use rfl (hA.2.2.2.1 ("HighRecipesModel", 162, "HighRecipesModel$Book", "sort", "[I", "HighRecipesModel") (by decide +kernel))) (fun _ h9 => h9) (v := .ref (M + 22)) rfl dX14_reckon_273 ?_
  refine lv_iload_n hx hb dX14_reckon_276 rfl (lv_at hl 2 rfl) ?_
  refine q_ald hx hb hA hW (rO_22 (g := r 22) rfl) a rfl (by omega) (by decide) (x := 57) hs dX14_reckon_277 ?_
  refine lv_aload_n hx hb dX14_reckon_278 rfl (lv_at hl 1 rfl) ?_
  refine lv_iload_n hx hb dX14_reckon_279 rfl (lv_at hl 0 rfl) ?_
  refine q_ci (va_runV (As := [.int (nI x)]) (rest := [.int 57]) ⟨hx, hb, hml, hown, hts⟩ (ix) (cwV 1 hts gX14_reckon_X14_reckon rfl rfl rfl (by decide +kernel) ⟨(by show (3 * dp) + 1 ≤ 3 * dp + 3; omega), (by show 8 + (3 + 11) + (100 * dp) ≤ 100 * dp + 100; omega)⟩) (q_pV hA hW hS (ci := 12) rfl rO_0) rfl rfl hl.1 rfl (lv_room (Nat.le_of_ble_eq_true rfl)) dX14_reckon_280 ⟨Nat.le_of_ble_eq_true rfl, Nat.le_of_ble_eq_true rfl⟩) hS (fun r_280 f_280 n_280 H locs hp hW hS => ?_)
  obtain ⟨rfl, rfl, rfl⟩ := hp
  have hW : q_W E (rO E f M r) n H := hW
  refine lv_aload_n hx hb dX14_reckon_283 rfl (lv_at hl 1 rfl) ?_
  refine lv_aload_n hx hb dX14_reckon_284 rfl (lv_at hl 1 rfl) ?_
  refine q_get hx hb hts hown hA hW iX14 rO_0 rfl 17 (by decide) (hts (.fieldLink RX14 38 "HighRecipesModel" "told" "LHighRecipesModel$Book;") (by decide +kernel)) (fun _ h9 => h9) (v := .ref (M + 8)) rfl dX14_reckon_285 ?_
  refine q_getN hx hb hts hown hA hW iX13 rO_8 rfl 20 (by decide) (va_Nw.use rfl (hA.2.2.2.1 ("HighRecipesModel", 168, "HighRecipesModel$Book", "right", "[I", "HighRecipesModel") (by decide +kernel))) (fun _ h9 => h9) (v := .ref (M + 24)) rfl dX14_reckon_288 ?_
  refine lv_iload_n hx hb dX14_reckon_291 rfl (lv_at hl 2 rfl) ?_
  refine q_ald hx hb hA hW (rO_24 (g := r 24) rfl) a rfl (by omega) (by decide) (x := nI y) hr0 dX14_reckon_292 ?_
  refine q_ci (va_runV (As := [.int (nI y)]) (rest := [.int dx, .int 57]) ⟨hx, hb, hml, hown, hts⟩ (iy) (cwV 1 hts gX14_reckon_X14_reckon rfl rfl rfl (by decide +kernel) ⟨(by show (3 * dp) + 1 ≤ 3 * dp + 3; omega), (by show 8 + (3 + 11) + (100 * dp) ≤ 100 * dp + 100; omega)⟩) (q_pV hA hW hS (ci := 12) rfl rO_0) rfl rfl hl.1 rfl (lv_room (Nat.le_of_ble_eq_true rfl)) dX14_reckon_293 ⟨Nat.le_of_ble_eq_true rfl, Nat.le_of_ble_eq_true rfl⟩) hS (fun r_293 f_293 n_293 H locs hp hW hS => ?_)
  obtain ⟨rfl, rfl, rfl⟩ := hp
  have hW : q_W E (rO E f M r) n H := hW
  refine q_ci (va_runS (As := [.int 57, .int dx, .int dy]) (rest := []) ⟨hx, hb, hml, hown, hts⟩ (kX14_joined_57 l E (rO E f M r) n dx dy) (va_cwS 3 hts gX14_reckon_X14_joined rfl rfl rfl (by decide +kernel) ⟨(by show 0 + 1 ≤ 3 * dp + 3; omega), (by show 8 + (3 + 11) + 0 ≤ 100 * dp + 100; omega)⟩) (q_pS hA hW hS) rfl rfl hl.1 rfl (lv_room (Nat.le_of_ble_eq_true rfl)) dX14_reckon_296 ⟨Nat.le_of_ble_eq_true rfl, Nat.le_of_ble_eq_true rfl⟩) hS (fun r_296 f_296 n_296 H locs hp hW hS => ?_)
  obtain ⟨rfl, rfl, rfl⟩ := hp
  have hW : q_W E (rO E f M r) n H := hW
  exact q_iret hx hb hr hlocks hW hS ⟨rfl, hmE, rfl⟩ (Nat.le_of_ble_eq_true rfl) (Nat.le_of_ble_eq_true rfl) dX14_reckon_299

set_option maxHeartbeats 4000000 in
set_option maxRecDepth 100000 in
theorem kX14_reckon_58 (l : Launch) (E : q_E) (f : q_H) (n : Nat) (M : Nat) (r : q_R) (a dp : Nat) (x y : Nat) (dx dy : Int32)  (hm : RM E f M r) (ha : a < 400) (hs : (r 22) a = 58) (hl0 : (r 23) a = nI x) (hr0 : (r 24) a = nI y) (ix : Met l yX14_reckon wsX14_reckon ({ frames := 3 * dp, cells := 0, slots := 0, locals := 100 * dp }) (q_P E [.ref M, .int (nI x)] (rO E f M r) n) (q_Qi E (fun r0 f1 n1 => dx = r0 ∧ rO E f M r = f1 ∧ n = n1)) 0 0 (q_ge E)) (iy : Met l yX14_reckon wsX14_reckon ({ frames := 3 * dp, cells := 0, slots := 0, locals := 100 * dp }) (q_P E [.ref M, .int (nI y)] (rO E f M r) n) (q_Qi E (fun r0 f1 n1 => dy = r0 ∧ rO E f M r = f1 ∧ n = n1)) 0 0 (q_ge E)) : Met l yX14_reckon wsX14_reckon ({ frames := 3 * dp + 3, cells := 0, slots := 0, locals := 100 * dp + 100 }) (q_P E [.ref M, .int (nI a)] f n) (q_Qi E (fun r0 f1 n1 => dx * dy = r0 ∧ f = f1 ∧ n = n1)) 0 0 (q_ge E) := by
  refine Met.ofW (cc := cX14_reckon) (maxL := 3) (ret := (some .int)) (by decide) rfl ?_
  intro p e s m args below meth c s₁ B hml hv
  obtain ⟨rfl, hA, hW⟩ := hv
  have hx := B.exec
  have hb := B.bytes
  have hr := B.returns
  have hts := atoms_spec (ws := wsX14_reckon) B.pre
  have hown : s.vm.findClass RX14 = some m.cls := findClass_of_methodNamed B.named
  have hlocks := B.notSynchronized
  have hS : va_S (q_ge E) s.heap s.heap [] := va_S.rf
  have iX13 : ∀ w ∈ wsX130, w ∈ wsX14_reckon := by decide +kernel
  have iX14 : ∀ w ∈ wsX140, w ∈ wsX14_reckon := by decide +kernel
  have hl := lv_entry ([.ref M, .int (nI a)]) (n := 3) (Nat.le_of_ble_eq_true rfl)
  rw [lg_entry_eq]
  generalize (lg_sl ([.ref M, .int (nI a)]) ++ List.replicate (3 - (lg_sl ([.ref M, .int (nI a)])).length) Slot.unset).toArray = ls at hl ⊢
  have hl : lv_has ls 3 [(0, .ref M), (1, .int (nI a))] := hl
  have hmE := hm.eq
  rw [hm.eq] at hW
  refine lv_aload_n hx hb dX14_reckon_0 rfl (lv_at hl 0 rfl) ?_
  refine q_get hx hb hts hown hA hW iX14 rO_0 rfl 17 (by decide) (hts (.fieldLink RX14 38 "HighRecipesModel" "told" "LHighRecipesModel$Book;") (by decide +kernel)) (fun _ h9 => h9) (v := .ref (M + 8)) rfl dX14_reckon_1 ?_
  refine q_getN hx hb hts hown hA hW iX13 rO_8 rfl 19 (by decide) (va_Nw.use rfl (hA.2.2.2.1 ("HighRecipesModel", 165, "HighRecipesModel$Book", "left", "[I", "HighRecipesModel") (by decide +kernel))) (fun _ h9 => h9) (v := .ref (M + 23)) rfl dX14_reckon_4 ?_
  refine lv_iload_n hx hb dX14_reckon_7 rfl (lv_at hl 1 rfl) ?_
  refine q_ald hx hb hA hW (rO_23 (g := r 23) rfl) a rfl (by omega) (by decide) (x := nI x) hl0 dX14_reckon_8 ?_
  refine lv_istore_n (lv' := [(2, .int (nI x)), (0, .ref M), (1, .int (nI a))]) hx hb dX14_reckon_9 rfl hl (by decide) rfl (fun ls hl => ?_)
  refine lv_aload_n hx hb dX14_reckon_10 rfl (lv_at hl 1 rfl) ?_
  refine q_get hx hb hts hown hA hW iX14 rO_0 rfl 17 (by decide) (hts (.fieldLink RX14 38 "HighRecipesModel" "told" "LHighRecipesModel$Book;") (by decide +kernel)) (fun _ h9 => h9) (v := .ref (M + 8)) rfl dX14_reckon_11 ?_
  refine q_getN hx hb hts hown hA hW iX13 rO_8 rfl 18 (by decide) (va_Nw.use rfl (hA.2.2.2.1 ("HighRecipesModel", 162, "HighRecipesModel$Book", "sort", "[I", "HighRecipesModel") (by decide +kernel))) (fun _ h9 => h9) (v := .ref (M + 22)) rfl dX14_reckon_14 ?_
  refine lv_iload_n hx hb dX14_reckon_17 rfl (lv_at hl 2 rfl) ?_
  refine q_ald hx hb hA hW (rO_22 (g := r 22) rfl) a rfl (by omega) (by decide) (x := 58) hs dX14_reckon_18 ?_
  refine lv_tableOut (x := 58) (tgt := 269) hx hb dX14_reckon_19 (by decide) (by decide) ?_
  refine lv_aload_n hx hb dX14_reckon_269 rfl (lv_at hl 1 rfl) ?_
  refine q_get hx hb hts hown hA hW iX14 rO_0 rfl 17 (by decide) (hts (.fieldLink RX14 38 "HighRecipesModel" "told" "LHighRecipesModel$Book;") (by decide +kernel)) (fun _ h9 => h9) (v := .ref (M + 8)) rfl dX14_reckon_270 ?_
  refine q_getN hx hb hts hown hA hW iX13 rO_8 rfl 18 (by decide) (va_Nw.use rfl (hA.2.2.2.1 ("HighRecipesModel", 162, "HighRecipesModel$Book", "sort", "[I", "HighRecipesModel") (by decide +kernel))) (fun _ h9 => h9) (v := .ref (M + 22)) rfl dX14_reckon_273 ?_
  refine lv_iload_n hx hb dX14_reckon_276 rfl (lv_at hl 2 rfl) ?_
  refine q_ald hx hb hA hW (rO_22 (g := r 22) rfl) a rfl (by omega) (by decide) (x := 58) hs dX14_reckon_277 ?_
  refine lv_aload_n hx hb dX14_reckon_278 rfl (lv_at hl 1 rfl) ?_
  refine lv_iload_n hx hb dX14_reckon_279 rfl (lv_at hl 0 rfl) ?_
  refine q_ci (va_runV (As := [.int (nI x)]) (rest := [.int 58]) ⟨hx, hb, hml, hown, hts⟩ (ix) (cwV 1 hts gX14_reckon_X14_reckon rfl rfl rfl (by decide +kernel) ⟨(by show (3 * dp) + 1 ≤ 3 * dp + 3; omega), (by show 8 + (3 + 11) + (100 * dp) ≤ 100 * dp + 100; omega)⟩) (q_pV hA hW hS (ci := 12) rfl rO_0) rfl rfl hl.1 rfl (lv_room (Nat.le_of_ble_eq_true rfl)) dX14_reckon_280 ⟨Nat.le_of_ble_eq_true rfl, Nat.le_of_ble_eq_true rfl⟩) hS (fun r_280 f_280 n_280 H locs hp hW hS => ?_)
  obtain ⟨rfl, rfl, rfl⟩ := hp
  have hW : q_W E (rO E f M r) n H := hW
  refine lv_aload_n hx hb dX14_reckon_283 rfl (lv_at hl 1 rfl) ?_
  refine lv_aload_n hx hb dX14_reckon_284 rfl (lv_at hl 1 rfl) ?_
  refine q_get hx hb hts hown hA hW iX14 rO_0 rfl 17 (by decide) (hts (.fieldLink RX14 38 "HighRecipesModel" "told" "LHighRecipesModel$Book;") (by decide +kernel)) (fun _ h9 => h9) (v := .ref (M + 8)) rfl dX14_reckon_285 ?_
  refine q_getN hx hb hts hown hA hW iX13 rO_8 rfl 20 (by decide) (va_Nw.use rfl (hA.2.2.2.1 ("HighRecipesModel", 168, "HighRecipesModel$Book", "right", "[I", "HighRecipesModel") (by decide +kernel))) (fun _ h9 => h9) (v := .ref (M + 24)) rfl dX14_reckon_288 ?_
  refine lv_iload_n hx hb dX14_reckon_291 rfl (lv_at hl 2 rfl) ?_
  refine q_ald hx hb hA hW (rO_24 (g := r 24) rfl) a rfl (by omega) (by decide) (x := nI y) hr0 dX14_reckon_292 ?_
  refine q_ci (va_runV (As := [.int (nI y)]) (rest := [.int dx, .int 58]) ⟨hx, hb, hml, hown, hts⟩ (iy) (cwV 1 hts gX14_reckon_X14_reckon rfl rfl rfl (by decide +kernel) ⟨(by show (3 * dp) + 1 ≤ 3 * dp + 3; omega), (by show 8 + (3 + 11) + (100 * dp) ≤ 100 * dp + 100; omega)⟩) (q_pV hA hW hS (ci := 12) rfl rO_0) rfl rfl hl.1 rfl (lv_room (Nat.le_of_ble_eq_true rfl)) dX14_reckon_293 ⟨Nat.le_of_ble_eq_true rfl, Nat.le_of_ble_eq_true rfl⟩) hS (fun r_293 f_293 n_293 H locs hp hW hS => ?_)
  obtain ⟨rfl, rfl, rfl⟩ := hp
  have hW : q_W E (rO E f M r) n H := hW
  refine q_ci (va_runS (As := [.int 58, .int dx, .int dy]) (rest := []) ⟨hx, hb, hml, hown, hts⟩ (kX14_joined_58 l E (rO E f M r) n dx dy) (va_cwS 3 hts gX14_reckon_X14_joined rfl rfl rfl (by decide +kernel) ⟨(by show 0 + 1 ≤ 3 * dp + 3; omega), (by show 8 + (3 + 11) + 0 ≤ 100 * dp + 100; omega)⟩) (q_pS hA hW hS) rfl rfl hl.1 rfl (lv_room (Nat.le_of_ble_eq_true rfl)) dX14_reckon_296 ⟨Nat.le_of_ble_eq_true rfl, Nat.le_of_ble_eq_true rfl⟩) hS (fun r_296 f_296 n_296 H locs hp hW hS => ?_)
  obtain ⟨rfl, rfl, rfl⟩ := hp
  have hW : q_W E (rO E f M r) n H := hW
  exact q_iret hx hb hr hlocks hW hS ⟨rfl, hmE, rfl⟩ (Nat.le_of_ble_eq_true rfl) (Nat.le_of_ble_eq_true rfl) dX14_reckon_299

set_option maxHeartbeats 4000000 in
set_option maxRecDepth 100000 in
theorem kX14_reckon_59 (l : Launch) (E : q_E) (f : q_H) (n : Nat) (M : Nat) (r : q_R) (a dp : Nat) (x y : Nat) (dx dy : Int32)  (hm : RM E f M r) (ha : a < 400) (hs : (r 22) a = 59) (hl0 : (r 23) a = nI x) (hr0 : (r 24) a = nI y) (ix : Met l yX14_reckon wsX14_reckon ({ frames := 3 * dp, cells := 0, slots := 0, locals := 100 * dp }) (q_P E [.ref M, .int (nI x)] (rO E f M r) n) (q_Qi E (fun r0 f1 n1 => dx = r0 ∧ rO E f M r = f1 ∧ n = n1)) 0 0 (q_ge E)) (iy : Met l yX14_reckon wsX14_reckon ({ frames := 3 * dp, cells := 0, slots := 0, locals := 100 * dp }) (q_P E [.ref M, .int (nI y)] (rO E f M r) n) (q_Qi E (fun r0 f1 n1 => dy = r0 ∧ rO E f M r = f1 ∧ n = n1)) 0 0 (q_ge E)) : Met l yX14_reckon wsX14_reckon ({ frames := 3 * dp + 3, cells := 0, slots := 0, locals := 100 * dp + 100 }) (q_P E [.ref M, .int (nI a)] f n) (q_Qi E (fun r0 f1 n1 => q_quot dx dy = r0 ∧ f = f1 ∧ n = n1)) 0 0 (q_ge E) := by
  refine Met.ofW (cc := cX14_reckon) (maxL := 3) (ret := (some .int)) (by decide) rfl ?_
  intro p e s m args below meth c s₁ B hml hv
  obtain ⟨rfl, hA, hW⟩ := hv
  have hx := B.exec
  have hb := B.bytes
  have hr := B.returns
  have hts := atoms_spec (ws := wsX14_reckon) B.pre
  have hown : s.vm.findClass RX14 = some m.cls := findClass_of_methodNamed B.named
  have hlocks := B.notSynchronized
  have hS : va_S (q_ge E) s.heap s.heap [] := va_S.rf
  have iX13 : ∀ w ∈ wsX130, w ∈ wsX14_reckon := by decide +kernel
  have iX14 : ∀ w ∈ wsX140, w ∈ wsX14_reckon := by decide +kernel
  have hl := lv_entry ([.ref M, .int (nI a)]) (n := 3) (Nat.le_of_ble_eq_true rfl)
  rw [lg_entry_eq]
  generalize (lg_sl ([.ref M, .int (nI a)]) ++ List.replicate (3 - (lg_sl ([.ref M, .int (nI a)])).length) Slot.unset).toArray = ls at hl ⊢
  have hl : lv_has ls 3 [(0, .ref M), (1, .int (nI a))] := hl
  have hmE := hm.eq
  rw [hm.eq] at hW
  refine lv_aload_n hx hb dX14_reckon_0 rfl (lv_at hl 0 rfl) ?_
  refine q_get hx hb hts hown hA hW iX14 rO_0 rfl 17 (by decide) (hts (.fieldLink RX14 38 "HighRecipesModel" "told" "LHighRecipesModel$Book;") (by decide +kernel)) (fun _ h9 => h9) (v := .ref (M + 8)) rfl dX14_reckon_1 ?_
  refine q_getN hx hb hts hown hA hW iX13 rO_8 rfl 19 (by decide) (va_Nw.use rfl (hA.2.2.2.1 ("HighRecipesModel", 165, "HighRecipesModel$Book", "left", "[I", "HighRecipesModel") (by decide +kernel))) (fun _ h9 => h9) (v := .ref (M + 23)) rfl dX14_reckon_4 ?_
  refine lv_iload_n hx hb dX14_reckon_7 rfl (lv_at hl 1 rfl) ?_
  refine q_ald hx hb hA hW (rO_23 (g := r 23) rfl) a rfl (by omega) (by decide) (x := nI x) hl0 dX14_reckon_8 ?_
  refine lv_istore_n (lv' := [(2, .int (nI x)), (0, .ref M), (1, .int (nI a))]) hx hb dX14_reckon_9 rfl hl (by decide) rfl (fun ls hl => ?_)
  refine lv_aload_n hx hb dX14_reckon_10 rfl (lv_at hl 1 rfl) ?_
  refine q_get hx hb hts hown hA hW iX14 rO_0 rfl 17 (by decide) (hts (.fieldLink RX14 38 "HighRecipesModel" "told" "LHighRecipesModel$Book;") (by decide +kernel)) (fun _ h9 => h9) (v := .ref (M + 8)) rfl dX14_reckon_11 ?_
  refine q_getN hx hb hts hown hA hW iX13 rO_8 rfl 18 (by decide) (va_Nw.use rfl (hA.2.2.2.1 ("HighRecipesModel", 162, "HighRecipesModel$Book", "sort", "[I", "HighRecipesModel") (by decide +kernel))) (fun _ h9 => h9) (v := .ref (M + 22)) rfl dX14_reckon_14 ?_
  refine lv_iload_n hx hb dX14_reckon_17 rfl (lv_at hl 2 rfl) ?_
  refine q_ald hx hb hA hW (rO_22 (g := r 22) rfl) a rfl (by omega) (by decide) (x := 59) hs dX14_reckon_18 ?_
  refine lv_tableOut (x := 59) (tgt := 269) hx hb dX14_reckon_19 (by decide) (by decide) ?_
  refine lv_aload_n hx hb dX14_reckon_269 rfl (lv_at hl 1 rfl) ?_
  refine q_get hx hb hts hown hA hW iX14 rO_0 rfl 17 (by decide) (hts (.fieldLink RX14 38 "HighRecipesModel" "told" "LHighRecipesModel$Book;") (by decide +kernel)) (fun _ h9 => h9) (v := .ref (M + 8)) rfl dX14_reckon_270 ?_
  refine q_getN hx hb hts hown hA hW iX13 rO_8 rfl 18 (by decide) (va_Nw.use rfl (hA.2.2.2.1 ("HighRecipesModel", 162, "HighRecipesModel$Book", "sort", "[I", "HighRecipesModel") (by decide +kernel))) (fun _ h9 => h9) (v := .ref (M + 22)) rfl dX14_reckon_273 ?_
  refine lv_iload_n hx hb dX14_reckon_276 rfl (lv_at hl 2 rfl) ?_
  refine q_ald hx hb hA hW (rO_22 (g := r 22) rfl) a rfl (by omega) (by decide) (x := 59) hs dX14_reckon_277 ?_
  refine lv_aload_n hx hb dX14_reckon_278 rfl (lv_at hl 1 rfl) ?_
  refine lv_iload_n hx hb dX14_reckon_279 rfl (lv_at hl 0 rfl) ?_
  refine q_ci (va_runV (As := [.int (nI x)]) (rest := [.int 59]) ⟨hx, hb, hml, hown, hts⟩ (ix) (cwV 1 hts gX14_reckon_X14_reckon rfl rfl rfl (by decide +kernel) ⟨(by show (3 * dp) + 1 ≤ 3 * dp + 3; omega), (by show 8 + (3 + 11) + (100 * dp) ≤ 100 * dp + 100; omega)⟩) (q_pV hA hW hS (ci := 12) rfl rO_0) rfl rfl hl.1 rfl (lv_room (Nat.le_of_ble_eq_true rfl)) dX14_reckon_280 ⟨Nat.le_of_ble_eq_true rfl, Nat.le_of_ble_eq_true rfl⟩) hS (fun r_280 f_280 n_280 H locs hp hW hS => ?_)
  obtain ⟨rfl, rfl, rfl⟩ := hp
  have hW : q_W E (rO E f M r) n H := hW
  refine lv_aload_n hx hb dX14_reckon_283 rfl (lv_at hl 1 rfl) ?_
  refine lv_aload_n hx hb dX14_reckon_284 rfl (lv_at hl 1 rfl) ?_
  refine q_get hx hb hts hown hA hW iX14 rO_0 rfl 17 (by decide) (hts (.fieldLink RX14 38 "HighRecipesModel" "told" "LHighRecipesModel$Book;") (by decide +kernel)) (fun _ h9 => h9) (v := .ref (M + 8)) rfl dX14_reckon_285 ?_
  refine q_getN hx hb hts hown hA hW iX13 rO_8 rfl 20 (by decide) (va_Nw.use rfl (hA.2.2.2.1 ("HighRecipesModel", 168, "HighRecipesModel$Book", "right", "[I", "HighRecipesModel") (by decide +kernel))) (fun _ h9 => h9) (v := .ref (M + 24)) rfl dX14_reckon_288 ?_
  refine lv_iload_n hx hb dX14_reckon_291 rfl (lv_at hl 2 rfl) ?_
  refine q_ald hx hb hA hW (rO_24 (g := r 24) rfl) a rfl (by omega) (by decide) (x := nI y) hr0 dX14_reckon_292 ?_
  refine q_ci (va_runV (As := [.int (nI y)]) (rest := [.int dx, .int 59]) ⟨hx, hb, hml, hown, hts⟩ (iy) (cwV 1 hts gX14_reckon_X14_reckon rfl rfl rfl (by decide +kernel) ⟨(by show (3 * dp) + 1 ≤ 3 * dp + 3; omega), (by show 8 + (3 + 11) + (100 * dp) ≤ 100 * dp + 100; omega)⟩) (q_pV hA hW hS (ci := 12) rfl rO_0) rfl rfl hl.1 rfl (lv_room (Nat.le_of_ble_eq_true rfl)) dX14_reckon_293 ⟨Nat.le_of_ble_eq_true rfl, Nat.le_of_ble_eq_true rfl⟩) hS (fun r_293 f_293 n_293 H locs hp hW hS => ?_)
  obtain ⟨rfl, rfl, rfl⟩ := hp
  have hW : q_W E (rO E f M r) n H := hW
  refine q_ci (va_runS (As := [.int 59, .int dx, .int dy]) (rest := []) ⟨hx, hb, hml, hown, hts⟩ (kX14_joined_59 l E (rO E f M r) n dx dy) (va_cwS 3 hts gX14_reckon_X14_joined rfl rfl rfl (by decide +kernel) ⟨(by show 0 + 1 ≤ 3 * dp + 3; omega), (by show 8 + (3 + 11) + 0 ≤ 100 * dp + 100; omega)⟩) (q_pS hA hW hS) rfl rfl hl.1 rfl (lv_room (Nat.le_of_ble_eq_true rfl)) dX14_reckon_296 ⟨Nat.le_of_ble_eq_true rfl, Nat.le_of_ble_eq_true rfl⟩) hS (fun r_296 f_296 n_296 H locs hp hW hS => ?_)
  obtain ⟨rfl, rfl, rfl⟩ := hp
  have hW : q_W E (rO E f M r) n H := hW
  exact q_iret hx hb hr hlocks hW hS ⟨rfl, hmE, rfl⟩ (Nat.le_of_ble_eq_true rfl) (Nat.le_of_ble_eq_true rfl) dX14_reckon_299

set_option maxHeartbeats 4000000 in
/-- the worth of a value of the reference: what it stands for -/
theorem kX14_reckon (l : Launch) (E : q_E) (n : Nat) (M : Nat) (r : q_R) (pn : Nat) (hpn : pn ≤ 8) : ∀ (dp a : Nat) (D : q_D) (f : q_H), RM E f M r → mV (bR r 8) pn 400 dp a D → Met l yX14_reckon wsX14_reckon ({ frames := 3 * dp, cells := 0, slots := 0, locals := 100 * dp }) (q_P E [.ref M, .int (nI a)] f n) (q_Qi E (fun r0 f1 n1 => D (r 9) (r 42) = r0 ∧ f = f1 ∧ n = n1)) 0 0 (q_ge E)
  | 0, _, _, _, _, h => h.elim
  | dp + 1, a, D, f, hm, h => by
    obtain ⟨ha, kd, hs, hcs⟩ := h
    have hs : r 22 a = nI (m_kd kd) := hs
    rcases hcs with ⟨rfl, rfl⟩ | ⟨k1, k2, rfl⟩ | ⟨hkd, i, hi, hl0, rfl⟩ | ⟨k1, k2, x, y, D1, D2, hl0, hr0, r1, r2, rfl⟩
    · exact kX14_reckon_41 l E f n M r a dp hm ha hs
    · rcases (by omega : kd = 19 ∨ kd = 20 ∨ kd = 21 ∨ kd = 22 ∨ kd = 23) with rfl | rfl | rfl | rfl | rfl
      · exact kX14_reckon_19 l E f n M r a dp hm ha hs
      · exact kX14_reckon_20 l E f n M r a dp hm ha hs
      · exact kX14_reckon_21 l E f n M r a dp hm ha hs
      · exact kX14_reckon_22 l E f n M r a dp hm ha hs
      · exact kX14_reckon_23 l E f n M r a dp hm ha hs
    · rcases hkd with rfl | rfl | rfl | rfl | rfl
      · exact kX14_reckon_4 l E f n M r pn a dp i hm hpn ha hs hi hl0
      · exact kX14_reckon_5 l E f n M r pn a dp i hm hpn ha hs hi hl0
      · exact kX14_reckon_7 l E f n M r pn a dp i hm hpn ha hs hi hl0
      · exact kX14_reckon_25 l E f n M r pn a dp i hm hpn ha hs hi hl0
      · exact kX14_reckon_26 l E f n M r pn a dp i hm hpn ha hs hi hl0
    · have ix := kX14_reckon l E n M r pn hpn dp x D1 (rO E f M r) rO_K r1
      have iy := kX14_reckon l E n M r pn hpn dp y D2 (rO E f M r) rO_K r2
      rcases (by omega : kd = 33 ∨ kd = 34 ∨ kd = 35 ∨ kd = 36) with rfl | rfl | rfl | rfl
      · exact kX14_reckon_56 l E f n M r a dp x y _ _ hm ha hs hl0 hr0 ix iy
      · exact kX14_reckon_57 l E f n M r a dp x y _ _ hm ha hs hl0 hr0 ix iy
      · exact kX14_reckon_58 l E f n M r a dp x y _ _ hm ha hs hl0 hr0 ix iy
      · exact kX14_reckon_59 l E f n M r a dp x y _ _ hm ha hs hl0 hr0 ix iy

set_option maxHeartbeats 4000000 in
set_option maxRecDepth 100000 in
theorem kX14_isSo_53 (l : Launch) (E : q_E) (f : q_H) (n : Nat) (M : Nat) (r : q_R) (pn k x y : Nat) (D1 D2 : q_D)  (hm : RM E f M r) (hpn : pn ≤ 8) (hk : k < 400) (hs : (r 19) k = 53) (h1 : (r 20) k = nI x) (h2 : (r 21) k = nI y) (hV1 : mV (bR r 8) pn 400 5 x D1) (hV2 : mV (bR r 8) pn 400 5 y D2) : Met l yX14_isSo wsX14_isSo ({ frames := 16, cells := 0, slots := 0, locals := 522 }) (q_P E [.ref M, .int (nI k)] f n) (q_Qi E (fun r0 f1 n1 => b01 (c_cmp 30 (D1 (r 9) (r 42)) (D2 (r 9) (r 42))) = r0 ∧ f = f1 ∧ n = n1)) 0 0 (q_ge E) := by
  refine Met.ofW (cc := cX14_isSo) (maxL := 4) (ret := (some .boolean)) (by decide) rfl ?_
  intro p e s m args below meth c s₁ B hml hv
  obtain ⟨rfl, hA, hW⟩ := hv
  have hx := B.exec
  have hb := B.bytes
  have hr := B.returns
  have hts := atoms_spec (ws := wsX14_isSo) B.pre
  have hown : s.vm.findClass RX14 = some m.cls := findClass_of_methodNamed B.named
  have hlocks := B.notSynchronized
  have hS : va_S (q_ge E) s.heap s.heap [] := va_S.rf
  have iX13 : ∀ w ∈ wsX130, w ∈ wsX14_isSo := by decide +kernel
  have iX14 : ∀ w ∈ wsX140, w ∈ wsX14_isSo := by decide +kernel
  have hl := lv_entry ([.ref M, .int (nI k)]) (n := 4) (Nat.le_of_ble_eq_true rfl)
  rw [lg_entry_eq]
  generalize (lg_sl ([.ref M, .int (nI k)]) ++ List.replicate (4 - (lg_sl ([.ref M, .int (nI k)])).length) Slot.unset).toArray = ls at hl ⊢
  have hl : lv_has ls 4 [(0, .ref M), (1, .int (nI k))] := hl
  have hmE := hm.eq
  rw [hm.eq] at hW
  refine lv_aload_n hx hb dX14_isSo_0 rfl (lv_at hl 0 rfl) ?_
  refine lv_aload_n hx hb dX14_isSo_1 rfl (lv_at hl 0 rfl) ?_
  refine q_get hx hb hts hown hA hW iX14 rO_0 rfl 17 (by decide) (hts (.fieldLink RX14 38 "HighRecipesModel" "told" "LHighRecipesModel$Book;") (by decide +kernel)) (fun _ h9 => h9) (v := .ref (M + 8)) rfl dX14_isSo_2 ?_
  refine q_getN hx hb hts hown hA hW iX13 rO_8 rfl 15 (by decide) (va_Nw.use rfl (hA.2.2.2.1 ("HighRecipesModel", 200, "HighRecipesModel$Book", "one", "[I", "HighRecipesModel") (by decide +kernel))) (fun _ h9 => h9) (v := .ref (M + 20)) rfl dX14_isSo_5 ?_
  refine lv_iload_n hx hb dX14_isSo_8 rfl (lv_at hl 1 rfl) ?_
  refine q_ald hx hb hA hW (rO_20 (g := r 20) rfl) k rfl (by omega) (by decide) (x := nI x) h1 dX14_isSo_9 ?_
  refine q_ci (va_runV (As := [.int (nI x)]) (rest := []) ⟨hx, hb, hml, hown, hts⟩ (kX14_reckon l E n M r pn hpn 5 x D1 (rO E f M r) rO_K hV1) (cwV 1 hts gX14_isSo_X14_reckon rfl rfl rfl (by decide +kernel) ⟨(Nat.le_of_ble_eq_true rfl), (Nat.le_of_ble_eq_true rfl)⟩) (q_pV hA hW hS (ci := 12) rfl rO_0) rfl rfl hl.1 rfl (lv_room (Nat.le_of_ble_eq_true rfl)) dX14_isSo_10 ⟨Nat.le_of_ble_eq_true rfl, Nat.le_of_ble_eq_true rfl⟩) hS (fun r_10 f_10 n_10 H locs hp hW hS => ?_)
  obtain ⟨rfl, rfl, rfl⟩ := hp
  have hW : q_W E (rO E f M r) n H := hW
  refine lv_istore_n (lv' := [(2, .int (D1 (r 9) (r 42))), (0, .ref M), (1, .int (nI k))]) hx hb dX14_isSo_13 rfl hl (by decide) rfl (fun ls hl => ?_)
  refine lv_aload_n hx hb dX14_isSo_14 rfl (lv_at hl 1 rfl) ?_
  refine lv_aload_n hx hb dX14_isSo_15 rfl (lv_at hl 1 rfl) ?_
  refine q_get hx hb hts hown hA hW iX14 rO_0 rfl 17 (by decide) (hts (.fieldLink RX14 38 "HighRecipesModel" "told" "LHighRecipesModel$Book;") (by decide +kernel)) (fun _ h9 => h9) (v := .ref (M + 8)) rfl dX14_isSo_16 ?_
  refine q_getN hx hb hts hown hA hW iX13 rO_8 rfl 16 (by decide) (va_Nw.use rfl (hA.2.2.2.1 ("HighRecipesModel", 203, "HighRecipesModel$Book", "two", "[I", "HighRecipesModel") (by decide +kernel))) (fun _ h9 => h9) (v := .ref (M + 21)) rfl dX14_isSo_19 ?_
  refine lv_iload_n hx hb dX14_isSo_22 rfl (lv_at hl 2 rfl) ?_
  refine q_ald hx hb hA hW (rO_21 (g := r 21) rfl) k rfl (by omega) (by decide) (x := nI y) h2 dX14_isSo_23 ?_
  refine q_ci (va_runV (As := [.int (nI y)]) (rest := []) ⟨hx, hb, hml, hown, hts⟩ (kX14_reckon l E n M r pn hpn 5 y D2 (rO E f M r) rO_K hV2) (cwV 1 hts gX14_isSo_X14_reckon rfl rfl rfl (by decide +kernel) ⟨(Nat.le_of_ble_eq_true rfl), (Nat.le_of_ble_eq_true rfl)⟩) (q_pV hA hW hS (ci := 12) rfl rO_0) rfl rfl hl.1 rfl (lv_room (Nat.le_of_ble_eq_true rfl)) dX14_isSo_24 ⟨Nat.le_of_ble_eq_true rfl, Nat.le_of_ble_eq_true rfl⟩) hS (fun r_24 f_24 n_24 H locs hp hW hS => ?_)
  obtain ⟨rfl, rfl, rfl⟩ := hp
  have hW : q_W E (rO E f M r) n H := hW
  refine lv_istore_n (lv' := [(3, .int (D2 (r 9) (r 42))), (2, .int (D1 (r 9) (r 42))), (0, .ref M), (1, .int (nI k))]) hx hb dX14_isSo_27 rfl hl (by decide) rfl (fun ls hl => ?_)
  refine lv_aload_n hx hb dX14_isSo_28 rfl (lv_at hl 2 rfl) ?_
  refine q_get hx hb hts hown hA hW iX14 rO_0 rfl 17 (by decide) (hts (.fieldLink RX14 38 "HighRecipesModel" "told" "LHighRecipesModel$Book;") (by decide +kernel)) (fun _ h9 => h9) (v := .ref (M + 8)) rfl dX14_isSo_29 ?_
  refine q_getN hx hb hts hown hA hW iX13 rO_8 rfl 14 (by decide) (va_Nw.use rfl (hA.2.2.2.1 ("HighRecipesModel", 197, "HighRecipesModel$Book", "sign", "[I", "HighRecipesModel") (by decide +kernel))) (fun _ h9 => h9) (v := .ref (M + 19)) rfl dX14_isSo_32 ?_
  refine lv_iload_n hx hb dX14_isSo_35 rfl (lv_at hl 3 rfl) ?_
  refine q_ald hx hb hA hW (rO_19 (g := r 19) rfl) k rfl (by omega) (by decide) (x := 53) hs dX14_isSo_36 ?_
  refine lv_bipush (v := 53) hx hb dX14_isSo_37 (by decide) ?_
  refine lv_icmp_ne (tgt := 55) hx hb dX14_isSo_39 (by decide) (fun c_39 => False.elim ((fun h9 => h9 rfl) c_39)) (fun c_39 => ?_)
  refine lv_iload_n hx hb dX14_isSo_42 rfl (lv_at hl 1 rfl) ?_
  refine lv_iload_n hx hb dX14_isSo_43 rfl (lv_at hl 0 rfl) ?_
  refine lv_icmp_ge (tgt := 51) hx hb dX14_isSo_44 (by decide) (fun c_44 => ?_) (fun c_44 => ?_)
  · refine lv_iconst (v := 0) hx hb dX14_isSo_51 (by decide) ?_
    refine lv_goto (tgt := 92) hx hb dX14_isSo_52 (by decide) ?_
    exact q_zret hx hb hr hlocks hW hS rfl ⟨by have h9 : ¬ D1 (r 9) (r 42) < D2 (r 9) (r 42) := Int32.not_lt.mpr c_44; unfold c_cmp; simp [b01, h9], hmE, rfl⟩ (Nat.le_of_ble_eq_true rfl) (Nat.le_of_ble_eq_true rfl) dX14_isSo_92
  · refine lv_iconst (v := 1) hx hb dX14_isSo_47 (by decide) ?_
    refine lv_goto (tgt := 92) hx hb dX14_isSo_48 (by decide) ?_
    exact q_zret hx hb hr hlocks hW hS rfl ⟨by have h9 : D1 (r 9) (r 42) < D2 (r 9) (r 42) := Int32.not_le.mp c_44; unfold c_cmp; simp [b01, h9], hmE, rfl⟩ (Nat.le_of_ble_eq_true rfl) (Nat.le_of_ble_eq_true rfl) dX14_isSo_92

set_option maxHeartbeats 4000000 in
set_option maxRecDepth 100000 in
theorem kX14_isSo_54 (l : Launch) (E : q_E) (f : q_H) (n : Nat) (M : Nat) (r : q_R) (pn k x y : Nat) (D1 D2 : q_D)  (hm : RM E f M r) (hpn : pn ≤ 8) (hk : k < 400) (hs : (r 19) k = 54) (h1 : (r 20) k = nI x) (h2 : (r 21) k = nI y) (hV1 : mV (bR r 8) pn 400 5 x D1) (hV2 : mV (bR r 8) pn 400 5 y D2) : Met l yX14_isSo wsX14_isSo ({ frames := 16, cells := 0, slots := 0, locals := 522 }) (q_P E [.ref M, .int (nI k)] f n) (q_Qi E (fun r0 f1 n1 => b01 (c_cmp 31 (D1 (r 9) (r 42)) (D2 (r 9) (r 42))) = r0 ∧ f = f1 ∧ n = n1)) 0 0 (q_ge E) := by
  refine Met.ofW (cc := cX14_isSo) (maxL := 4) (ret := (some .boolean)) (by decide) rfl ?_
  intro p e s m args below meth c s₁ B hml hv
  obtain ⟨rfl, hA, hW⟩ := hv
  have hx := B.exec
  have hb := B.bytes
  have hr := B.returns
  have hts := atoms_spec (ws := wsX14_isSo) B.pre
  have hown : s.vm.findClass RX14 = some m.cls := findClass_of_methodNamed B.named
  have hlocks := B.notSynchronized
  have hS : va_S (q_ge E) s.heap s.heap [] := va_S.rf
  have iX13 : ∀ w ∈ wsX130, w ∈ wsX14_isSo := by decide +kernel
  have iX14 : ∀ w ∈ wsX140, w ∈ wsX14_isSo := by decide +kernel
  have hl := lv_entry ([.ref M, .int (nI k)]) (n := 4) (Nat.le_of_ble_eq_true rfl)
  rw [lg_entry_eq]
  generalize (lg_sl ([.ref M, .int (nI k)]) ++ List.replicate (4 - (lg_sl ([.ref M, .int (nI k)])).length) Slot.unset).toArray = ls at hl ⊢
  have hl : lv_has ls 4 [(0, .ref M), (1, .int (nI k))] := hl
  have hmE := hm.eq
  rw [hm.eq] at hW
  refine lv_aload_n hx hb dX14_isSo_0 rfl (lv_at hl 0 rfl) ?_
  refine lv_aload_n hx hb dX14_isSo_1 rfl (lv_at hl 0 rfl) ?_
  refine q_get hx hb hts hown hA hW iX14 rO_0 rfl 17 (by decide) (hts (.fieldLink RX14 38 "HighRecipesModel" "told" "LHighRecipesModel$Book;") (by decide +kernel)) (fun _ h9 => h9) (v := .ref (M + 8)) rfl dX14_isSo_2 ?_
  refine q_getN hx hb hts hown hA hW iX13 rO_8 rfl 15 (by decide) (va_Nw.use rfl (hA.2.2.2.1 ("HighRecipesModel", 200, "HighRecipesModel$Book", "one", "[I", "HighRecipesModel") (by decide +kernel))) (fun _ h9 => h9) (v := .ref (M + 20)) rfl dX14_isSo_5 ?_
  refine lv_iload_n hx hb dX14_isSo_8 rfl (lv_at hl 1 rfl) ?_
  refine q_ald hx hb hA hW (rO_20 (g := r 20) rfl) k rfl (by omega) (by decide) (x := nI x) h1 dX14_isSo_9 ?_
  refine q_ci (va_runV (As := [.int (nI x)]) (rest := []) ⟨hx, hb, hml, hown, hts⟩ (kX14_reckon l E n M r pn hpn 5 x D1 (rO E f M r) rO_K hV1) (cwV 1 hts gX14_isSo_X14_reckon rfl rfl rfl (by decide +kernel) ⟨(Nat.le_of_ble_eq_true rfl), (Nat.le_of_ble_eq_true rfl)⟩) (q_pV hA hW hS (ci := 12) rfl rO_0) rfl rfl hl.1 rfl (lv_room (Nat.le_of_ble_eq_true rfl)) dX14_isSo_10 ⟨Nat.le_of_ble_eq_true rfl, Nat.le_of_ble_eq_true rfl⟩) hS (fun r_10 f_10 n_10 H locs hp hW hS => ?_)
  obtain ⟨rfl, rfl, rfl⟩ := hp
  have hW : q_W E (rO E f M r) n H := hW
  refine lv_istore_n (lv' := [(2, .int (D1 (r 9) (r 42))), (0, .ref M), (1, .int (nI k))]) hx hb dX14_isSo_13 rfl hl (by decide) rfl (fun ls hl => ?_)
  refine lv_aload_n hx hb dX14_isSo_14 rfl (lv_at hl 1 rfl) ?_
  refine lv_aload_n hx hb dX14_isSo_15 rfl (lv_at hl 1 rfl) ?_
  refine q_get hx hb hts hown hA hW iX14 rO_0 rfl 17 (by decide) (hts (.fieldLink RX14 38 "HighRecipesModel" "told" "LHighRecipesModel$Book;") (by decide +kernel)) (fun _ h9 => h9) (v := .ref (M + 8)) rfl dX14_isSo_16 ?_
  refine q_getN hx hb hts hown hA hW iX13 rO_8 rfl 16 (by decide) (va_Nw.use rfl (hA.2.2.2.1 ("HighRecipesModel", 203, "HighRecipesModel$Book", "two", "[I", "HighRecipesModel") (by decide +kernel))) (fun _ h9 => h9) (v := .ref (M + 21)) rfl dX14_isSo_19 ?_
  refine lv_iload_n hx hb dX14_isSo_22 rfl (lv_at hl 2 rfl) ?_
  refine q_ald hx hb hA hW (rO_21 (g := r 21) rfl) k rfl (by omega) (by decide) (x := nI y) h2 dX14_isSo_23 ?_
  refine q_ci (va_runV (As := [.int (nI y)]) (rest := []) ⟨hx, hb, hml, hown, hts⟩ (kX14_reckon l E n M r pn hpn 5 y D2 (rO E f M r) rO_K hV2) (cwV 1 hts gX14_isSo_X14_reckon rfl rfl rfl (by decide +kernel) ⟨(Nat.le_of_ble_eq_true rfl), (Nat.le_of_ble_eq_true rfl)⟩) (q_pV hA hW hS (ci := 12) rfl rO_0) rfl rfl hl.1 rfl (lv_room (Nat.le_of_ble_eq_true rfl)) dX14_isSo_24 ⟨Nat.le_of_ble_eq_true rfl, Nat.le_of_ble_eq_true rfl⟩) hS (fun r_24 f_24 n_24 H locs hp hW hS => ?_)
  obtain ⟨rfl, rfl, rfl⟩ := hp
  have hW : q_W E (rO E f M r) n H := hW
  refine lv_istore_n (lv' := [(3, .int (D2 (r 9) (r 42))), (2, .int (D1 (r 9) (r 42))), (0, .ref M), (1, .int (nI k))]) hx hb dX14_isSo_27 rfl hl (by decide) rfl (fun ls hl => ?_)
  refine lv_aload_n hx hb dX14_isSo_28 rfl (lv_at hl 2 rfl) ?_
  refine q_get hx hb hts hown hA hW iX14 rO_0 rfl 17 (by decide) (hts (.fieldLink RX14 38 "HighRecipesModel" "told" "LHighRecipesModel$Book;") (by decide +kernel)) (fun _ h9 => h9) (v := .ref (M + 8)) rfl dX14_isSo_29 ?_
  refine q_getN hx hb hts hown hA hW iX13 rO_8 rfl 14 (by decide) (va_Nw.use rfl (hA.2.2.2.1 ("HighRecipesModel", 197, "HighRecipesModel$Book", "sign", "[I", "HighRecipesModel") (by decide +kernel))) (fun _ h9 => h9) (v := .ref (M + 19)) rfl dX14_isSo_32 ?_
  refine lv_iload_n hx hb dX14_isSo_35 rfl (lv_at hl 3 rfl) ?_
  refine q_ald hx hb hA hW (rO_19 (g := r 19) rfl) k rfl (by omega) (by decide) (x := 54) hs dX14_isSo_36 ?_
  refine lv_bipush (v := 53) hx hb dX14_isSo_37 (by decide) ?_
  refine lv_icmp_ne (tgt := 55) hx hb dX14_isSo_39 (by decide) (fun c_39 => ?_) (fun c_39 => False.elim ((fun h9 => absurd h9 (by decide)) c_39))
  refine lv_aload_n hx hb dX14_isSo_55 rfl (lv_at hl 2 rfl) ?_
  refine q_get hx hb hts hown hA hW iX14 rO_0 rfl 17 (by decide) (hts (.fieldLink RX14 38 "HighRecipesModel" "told" "LHighRecipesModel$Book;") (by decide +kernel)) (fun _ h9 => h9) (v := .ref (M + 8)) rfl dX14_isSo_56 ?_
  refine q_getN hx hb hts hown hA hW iX13 rO_8 rfl 14 (by decide) (va_Nw.use rfl (hA.2.2.2.1 ("HighRecipesModel", 197, "HighRecipesModel$Book", "sign", "[I", "HighRecipesModel") (by decide +kernel))) (fun _ h9 => h9) (v := .ref (M + 19)) rfl dX14_isSo_59 ?_
  refine lv_iload_n hx hb dX14_isSo_62 rfl (lv_at hl 3 rfl) ?_
  refine q_ald hx hb hA hW (rO_19 (g := r 19) rfl) k rfl (by omega) (by decide) (x := 54) hs dX14_isSo_63 ?_
  refine lv_bipush (v := 54) hx hb dX14_isSo_64 (by decide) ?_
  refine lv_icmp_ne (tgt := 82) hx hb dX14_isSo_66 (by decide) (fun c_66 => False.elim ((fun h9 => h9 rfl) c_66)) (fun c_66 => ?_)
  refine lv_iload_n hx hb dX14_isSo_69 rfl (lv_at hl 1 rfl) ?_
  refine lv_iload_n hx hb dX14_isSo_70 rfl (lv_at hl 0 rfl) ?_
  refine lv_icmp_le (tgt := 78) hx hb dX14_isSo_71 (by decide) (fun c_71 => ?_) (fun c_71 => ?_)
  · refine lv_iconst (v := 0) hx hb dX14_isSo_78 (by decide) ?_
    refine lv_goto (tgt := 92) hx hb dX14_isSo_79 (by decide) ?_
    exact q_zret hx hb hr hlocks hW hS rfl ⟨by have h9 : ¬ D2 (r 9) (r 42) < D1 (r 9) (r 42) := Int32.not_lt.mpr c_71; unfold c_cmp; simp [b01, h9], hmE, rfl⟩ (Nat.le_of_ble_eq_true rfl) (Nat.le_of_ble_eq_true rfl) dX14_isSo_92
  · refine lv_iconst (v := 1) hx hb dX14_isSo_74 (by decide) ?_
    refine lv_goto (tgt := 92) hx hb dX14_isSo_75 (by decide) ?_
    exact q_zret hx hb hr hlocks hW hS rfl ⟨by have h9 : D2 (r 9) (r 42) < D1 (r 9) (r 42) := Int32.not_le.mp c_71; unfold c_cmp; simp [b01, h9], hmE, rfl⟩ (Nat.le_of_ble_eq_true rfl) (Nat.le_of_ble_eq_true rfl) dX14_isSo_92

set_option maxHeartbeats 4000000 in
set_option maxRecDepth 100000 in
theorem kX14_isSo_55 (l : Launch) (E : q_E) (f : q_H) (n : Nat) (M : Nat) (r : q_R) (pn k x y : Nat) (D1 D2 : q_D)  (hm : RM E f M r) (hpn : pn ≤ 8) (hk : k < 400) (hs : (r 19) k = 55) (h1 : (r 20) k = nI x) (h2 : (r 21) k = nI y) (hV1 : mV (bR r 8) pn 400 5 x D1) (hV2 : mV (bR r 8) pn 400 5 y D2) : Met l yX14_isSo wsX14_isSo ({ frames := 16, cells := 0, slots := 0, locals := 522 }) (q_P E [.ref M, .int (nI k)] f n) (q_Qi E (fun r0 f1 n1 => b01 (c_cmp 32 (D1 (r 9) (r 42)) (D2 (r 9) (r 42))) = r0 ∧ f = f1 ∧ n = n1)) 0 0 (q_ge E) := by
  refine Met.ofW (cc := cX14_isSo) (maxL := 4) (ret := (some .boolean)) (by decide) rfl ?_
  intro p e s m args below meth c s₁ B hml hv
  obtain ⟨rfl, hA, hW⟩ := hv
  have hx := B.exec
  have hb := B.bytes
  have hr := B.returns
  have hts := atoms_spec (ws := wsX14_isSo) B.pre
  have hown : s.vm.findClass RX14 = some m.cls := findClass_of_methodNamed B.named
  have hlocks := B.notSynchronized
  have hS : va_S (q_ge E) s.heap s.heap [] := va_S.rf
  have iX13 : ∀ w ∈ wsX130, w ∈ wsX14_isSo := by decide +kernel
  have iX14 : ∀ w ∈ wsX140, w ∈ wsX14_isSo := by decide +kernel
  have hl := lv_entry ([.ref M, .int (nI k)]) (n := 4) (Nat.le_of_ble_eq_true rfl)
  rw [lg_entry_eq]
  generalize (lg_sl ([.ref M, .int (nI k)]) ++ List.replicate (4 - (lg_sl ([.ref M, .int (nI k)])).length) Slot.unset).toArray = ls at hl ⊢
  have hl : lv_has ls 4 [(0, .ref M), (1, .int (nI k))] := hl
  have hmE := hm.eq
  rw [hm.eq] at hW
  refine lv_aload_n hx hb dX14_isSo_0 rfl (lv_at hl 0 rfl) ?_
  refine lv_aload_n hx hb dX14_isSo_1 rfl (lv_at hl 0 rfl) ?_
  refine q_get hx hb hts hown hA hW iX14 rO_0 rfl 17 (by decide) (hts (.fieldLink RX14 38 "HighRecipesModel" "told" "LHighRecipesModel$Book;") (by decide +kernel)) (fun _ h9 => h9) (v := .ref (M + 8)) rfl dX14_isSo_2 ?_
  refine q_getN hx hb hts hown hA hW iX13 rO_8 rfl 15 (by decide) (va_Nw.use rfl (hA.2.2.2.1 ("HighRecipesModel", 200, "HighRecipesModel$Book", "one", "[I", "HighRecipesModel") (by decide +kernel))) (fun _ h9 => h9) (v := .ref (M + 20)) rfl dX14_isSo_5 ?_
  refine lv_iload_n hx hb dX14_isSo_8 rfl (lv_at hl 1 rfl) ?_
  refine q_ald hx hb hA hW (rO_20 (g := r 20) rfl) k rfl (by omega) (by decide) (x := nI x) h1 dX14_isSo_9 ?_
  refine q_ci (va_runV (As := [.int (nI x)]) (rest := []) ⟨hx, hb, hml, hown, hts⟩ (kX14_reckon l E n M r pn hpn 5 x D1 (rO E f M r) rO_K hV1) (cwV 1 hts gX14_isSo_X14_reckon rfl rfl rfl (by decide +kernel) ⟨(Nat.le_of_ble_eq_true rfl), (Nat.le_of_ble_eq_true rfl)⟩) (q_pV hA hW hS (ci := 12) rfl rO_0) rfl rfl hl.1 rfl (lv_room (Nat.le_of_ble_eq_true rfl)) dX14_isSo_10 ⟨Nat.le_of_ble_eq_true rfl, Nat.le_of_ble_eq_true rfl⟩) hS (fun r_10 f_10 n_10 H locs hp hW hS => ?_)
  obtain ⟨rfl, rfl, rfl⟩ := hp
  have hW : q_W E (rO E f M r) n H := hW
  refine lv_istore_n (lv' := [(2, .int (D1 (r 9) (r 42))), (0, .ref M), (1, .int (nI k))]) hx hb dX14_isSo_13 rfl hl (by decide) rfl (fun ls hl => ?_)
  refine lv_aload_n hx hb dX14_isSo_14 rfl (lv_at hl 1 rfl) ?_
  refine lv_aload_n hx hb dX14_isSo_15 rfl (lv_at hl 1 rfl) ?_
  refine q_get hx hb hts hown hA hW iX14 rO_0 rfl 17 (by decide) (hts (.fieldLink RX14 38 "HighRecipesModel" "told" "LHighRecipesModel$Book;") (by decide +kernel)) (fun _ h9 => h9) (v := .ref (M + 8)) rfl dX14_isSo_16 ?_
  refine q_getN hx hb hts hown hA hW iX13 rO_8 rfl 16 (by decide) (va_Nw.use rfl (hA.2.2.2.1 ("HighRecipesModel", 203, "HighRecipesModel$Book", "two", "[I", "HighRecipesModel") (by decide +kernel))) (fun _ h9 => h9) (v := .ref (M + 21)) rfl dX14_isSo_19 ?_
  refine lv_iload_n hx hb dX14_isSo_22 rfl (lv_at hl 2 rfl) ?_
  refine q_ald hx hb hA hW (rO_21 (g := r 21) rfl) k rfl (by omega) (by decide) (x := nI y) h2 dX14_isSo_23 ?_
  refine q_ci (va_runV (As := [.int (nI y)]) (rest := []) ⟨hx, hb, hml, hown, hts⟩ (kX14_reckon l E n M r pn hpn 5 y D2 (rO E f M r) rO_K hV2) (cwV 1 hts gX14_isSo_X14_reckon rfl rfl rfl (by decide +kernel) ⟨(Nat.le_of_ble_eq_true rfl), (Nat.le_of_ble_eq_true rfl)⟩) (q_pV hA hW hS (ci := 12) rfl rO_0) rfl rfl hl.1 rfl (lv_room (Nat.le_of_ble_eq_true rfl)) dX14_isSo_24 ⟨Nat.le_of_ble_eq_true rfl, Nat.le_of_ble_eq_true rfl⟩) hS (fun r_24 f_24 n_24 H locs hp hW hS => ?_)
  obtain ⟨rfl, rfl, rfl⟩ := hp
  have hW : q_W E (rO E f M r) n H := hW
  refine lv_istore_n (lv' := [(3, .int (D2 (r 9) (r 42))), (2, .int (D1 (r 9) (r 42))), (0, .ref M), (1, .int (nI k))]) hx hb dX14_isSo_27 rfl hl (by decide) rfl (fun ls hl => ?_)
  refine lv_aload_n hx hb dX14_isSo_28 rfl (lv_at hl 2 rfl) ?_
  refine q_get hx hb hts hown hA hW iX14 rO_0 rfl 17 (by decide) (hts (.fieldLink RX14 38 "HighRecipesModel" "told" "LHighRecipesModel$Book;") (by decide +kernel)) (fun _ h9 => h9) (v := .ref (M + 8)) rfl dX14_isSo_29 ?_
  refine q_getN hx hb hts hown hA hW iX13 rO_8 rfl 14 (by decide) (va_Nw.use rfl (hA.2.2.2.1 ("HighRecipesModel", 197, "HighRecipesModel$Book", "sign", "[I", "HighRecipesModel") (by decide +kernel))) (fun _ h9 => h9) (v := .ref (M + 19)) rfl dX14_isSo_32 ?_
  refine lv_iload_n hx hb dX14_isSo_35 rfl (lv_at hl 3 rfl) ?_
  refine q_ald hx hb hA hW (rO_19 (g := r 19) rfl) k rfl (by omega) (by decide) (x := 55) hs dX14_isSo_36 ?_
  refine lv_bipush (v := 53) hx hb dX14_isSo_37 (by decide) ?_
  refine lv_icmp_ne (tgt := 55) hx hb dX14_isSo_39 (by decide) (fun c_39 => ?_) (fun c_39 => False.elim ((fun h9 => absurd h9 (by decide)) c_39))
  refine lv_aload_n hx hb dX14_isSo_55 rfl (lv_at hl 2 rfl) ?_
  refine q_get hx hb hts hown hA hW iX14 rO_0 rfl 17 (by decide) (hts (.fieldLink RX14 38 "HighRecipesModel" "told" "LHighRecipesModel$Book;") (by decide +kernel)) (fun _ h9 => h9) (v := .ref (M + 8)) rfl dX14_isSo_56 ?_
  refine q_getN hx hb hts hown hA hW iX13 rO_8 rfl 14 (by decide) (va_Nw.use rfl (hA.2.2.2.1 ("HighRecipesModel", 197, "HighRecipesModel$Book", "sign", "[I", "HighRecipesModel") (by decide +kernel))) (fun _ h9 => h9) (v := .ref (M + 19)) rfl dX14_isSo_59 ?_
  refine lv_iload_n hx hb dX14_isSo_62 rfl (lv_at hl 3 rfl) ?_
  refine q_ald hx hb hA hW (rO_19 (g := r 19) rfl) k rfl (by omega) (by decide) (x := 55) hs dX14_isSo_63 ?_
  refine lv_bipush (v := 54) hx hb dX14_isSo_64 (by decide) ?_
  refine lv_icmp_ne (tgt := 82) hx hb dX14_isSo_66 (by decide) (fun c_66 => ?_) (fun c_66 => False.elim ((fun h9 => absurd h9 (by decide)) c_66))
  refine lv_iload_n hx hb dX14_isSo_82 rfl (lv_at hl 1 rfl) ?_
  refine lv_iload_n hx hb dX14_isSo_83 rfl (lv_at hl 0 rfl) ?_
  refine lv_icmp_ne (tgt := 91) hx hb dX14_isSo_84 (by decide) (fun c_84 => ?_) (fun c_84 => ?_)
  · refine lv_iconst (v := 0) hx hb dX14_isSo_91 (by decide) ?_
    exact q_zret hx hb hr hlocks hW hS rfl ⟨by have h9 : ¬ D1 (r 9) (r 42) = D2 (r 9) (r 42) := c_84; unfold c_cmp; simp [b01, h9], hmE, rfl⟩ (Nat.le_of_ble_eq_true rfl) (Nat.le_of_ble_eq_true rfl) dX14_isSo_92
  · refine lv_iconst (v := 1) hx hb dX14_isSo_87 (by decide) ?_
    refine lv_goto (tgt := 92) hx hb dX14_isSo_88 (by decide) ?_
    exact q_zret hx hb hr hlocks hW hS rfl ⟨by have h9 : D1 (r 9) (r 42) = D2 (r 9) (r 42) := c_84; unfold c_cmp; simp [b01, h9], hmE, rfl⟩ (Nat.le_of_ble_eq_true rfl) (Nat.le_of_ble_eq_true rfl) dX14_isSo_92

set_option maxHeartbeats 4000000 in
set_option maxRecDepth 100000 in
theorem kX14_isSo (l : Launch) (E : q_E) (f : q_H) (n M : Nat) (r : q_R) (pn k kd x y : Nat) (D1 D2 : q_D) (hm : RM E f M r) (hpn : pn ≤ 8) (hk : k < 400) (k1 : 30 ≤ kd) (k2 : kd ≤ 32) (hs : r 19 k = nI (m_kd kd)) (h1 : r 20 k = nI x) (h2 : r 21 k = nI y) (hV1 : mV (bR r 8) pn 400 5 x D1) (hV2 : mV (bR r 8) pn 400 5 y D2) : Met l yX14_isSo wsX14_isSo ({ frames := 16, cells := 0, slots := 0, locals := 522 }) (q_P E [.ref M, .int (nI k)] f n) (q_Qi E (fun r0 f1 n1 => b01 (c_cmp kd (D1 (r 9) (r 42)) (D2 (r 9) (r 42))) = r0 ∧ f = f1 ∧ n = n1)) 0 0 (q_ge E) := by
  rcases (by omega : kd = 30 ∨ kd = 31 ∨ kd = 32) with rfl | rfl | rfl
  · exact (kX14_isSo_53 l E f n M r pn k x y D1 D2 hm hpn hk hs h1 h2 hV1 hV2)
  · exact (kX14_isSo_54 l E f n M r pn k x y D1 D2 hm hpn hk hs h1 h2 hV1 hV2)
  · exact (kX14_isSo_55 l E f n M r pn k x y D1 D2 hm hpn hk hs h1 h2 hV1 hV2)
theorem mC_all {B : q_R} {pn hn fr : Nat} {hd v : q_V} : ∀ (mc : Nat) (C : q_V → q_V → Bool), mC B pn hn fr mc C → ∃ c : Nat → Bool, (∀ k, k < mc → ∃ kd x y D1 D2, B 11 (fr + k) = nI (m_kd kd) ∧ 30 ≤ kd ∧ kd ≤ 32 ∧ B 12 (fr + k) = nI x ∧ B 13 (fr + k) = nI y ∧ mV B pn hn 5 x D1 ∧ mV B pn hn 5 y D2 ∧ c k = c_cmp kd (D1 hd v) (D2 hd v)) ∧ (C hd v = true ↔ ∀ k, k < mc → c k = true)
  | 0, C, h => by
    have h : C = fun _ _ => true := h
    subst h
    exact ⟨fun _ => true, fun k hk => absurd hk (Nat.not_lt_zero _), ⟨fun _ k hk => absurd hk (Nat.not_lt_zero _), fun _ => rfl⟩⟩
  | mc + 1, C, h => by
    obtain ⟨kd, x, y, D1, D2, C', e1, k1, k2, e2, e3, r1, r2, rc, rfl⟩ := h
    obtain ⟨c, h1, h2⟩ := mC_all (hd := hd) (v := v) mc C' rc
    refine ⟨fun k => if k = mc then c_cmp kd (D1 hd v) (D2 hd v) else c k, fun k hk => ?_, ?_⟩
    · by_cases e : k = mc
      · subst e
        exact ⟨kd, x, y, D1, D2, e1, k1, k2, e2, e3, r1, r2, if_pos rfl⟩
      · obtain ⟨kd', x', y', D1', D2', z1, z2, z3, z4, z5, z6, z7, z8⟩ := h1 k (by omega)
        exact ⟨kd', x', y', D1', D2', z1, z2, z3, z4, z5, z6, z7, (if_neg e).trans z8⟩
    · show (c_cmp kd (D1 hd v) (D2 hd v) && C' hd v) = true ↔ _
      rw [Bool.and_eq_true, h2]
      refine ⟨fun ⟨a, b⟩ k hk => ?_, fun a => ⟨?_, fun k hk => ?_⟩⟩
      · show (if k = mc then c_cmp kd (D1 hd v) (D2 hd v) else c k) = true
        by_cases e : k = mc
        · rw [if_pos e]; exact a
        · rw [if_neg e]; exact b k (by omega)
      · have this : (if mc = mc then c_cmp kd (D1 hd v) (D2 hd v) else c mc) = true := a mc (Nat.lt_succ_self _)
        rw [if_pos rfl] at this
        exact this
      · have this : (if k = mc then c_cmp kd (D1 hd v) (D2 hd v) else c k) = true := a k (by omega)
        rw [if_neg (by omega)] at this
        exact this

set_option maxHeartbeats 4000000 in
set_option maxRecDepth 100000 in
theorem kX14_areSo (l : Launch) (E : q_E) (f : q_H) (n : Nat) (M : Nat) (r : q_R) (pn a fr mc : Nat) (C : q_V → q_V → Bool)  (hm : RM E f M r) (hpn : pn ≤ 8) (ha : a < 81) (h6 : (r 14) a = nI fr) (h7 : (r 15) a = nI (fr + mc)) (hmc : fr + mc ≤ 400) (hC : mC (bR r 8) pn 400 fr mc C) : Met l yX14_areSo wsX14_areSo ({ frames := 17, cells := 0, slots := 0, locals := 545 }) (q_P E [.ref M, .int (nI a)] f n) (q_Qi E (fun r0 f1 n1 => b01 (C (r 9) (r 42)) = r0 ∧ f = f1 ∧ n = n1)) 0 0 (q_ge E) := by
  refine Met.ofW (cc := cX14_areSo) (maxL := 3) (ret := (some .boolean)) (by decide) rfl ?_
  intro p e s m args below meth c s₁ B hml hv
  obtain ⟨rfl, hA, hW⟩ := hv
  have hx := B.exec
  have hb := B.bytes
  have hr := B.returns
  have hts := atoms_spec (ws := wsX14_areSo) B.pre
  have hown : s.vm.findClass RX14 = some m.cls := findClass_of_methodNamed B.named
  have hlocks := B.notSynchronized
  have hS : va_S (q_ge E) s.heap s.heap [] := va_S.rf
  have iX13 : ∀ w ∈ wsX130, w ∈ wsX14_areSo := by decide +kernel
  have iX14 : ∀ w ∈ wsX140, w ∈ wsX14_areSo := by decide +kernel
  have hl := lv_entry ([.ref M, .int (nI a)]) (n := 3) (Nat.le_of_ble_eq_true rfl)
  rw [lg_entry_eq]
  generalize (lg_sl ([.ref M, .int (nI a)]) ++ List.replicate (3 - (lg_sl ([.ref M, .int (nI a)])).length) Slot.unset).toArray = ls at hl ⊢
  have hl : lv_has ls 3 [(0, .ref M), (1, .int (nI a))] := hl
  have hmE := hm.eq
  rw [hm.eq] at hW
  obtain ⟨cc, hcc, hall⟩ := mC_all (hd := r 9) (v := r 42) mc C hC
  refine lv_aload_n hx hb dX14_areSo_0 rfl (lv_at hl 0 rfl) ?_
  refine q_get hx hb hts hown hA hW iX14 rO_0 rfl 17 (by decide) (hts (.fieldLink RX14 38 "HighRecipesModel" "told" "LHighRecipesModel$Book;") (by decide +kernel)) (fun _ h9 => h9) (v := .ref (M + 8)) rfl dX14_areSo_1 ?_
  refine q_getN hx hb hts hown hA hW iX13 rO_8 rfl 8 (by decide) (va_Nw.use rfl (hA.2.2.2.1 ("HighRecipesModel", 244, "HighRecipesModel$Book", "from", "[I", "HighRecipesModel") (by decide +kernel))) (fun _ h9 => h9) (v := .ref (M + 14)) rfl dX14_areSo_4 ?_
  refine lv_iload_n hx hb dX14_areSo_7 rfl (lv_at hl 1 rfl) ?_
  refine q_ald hx hb hA hW (rO_14 (g := r 14) rfl) a rfl (by omega) (by decide) (x := nI fr) h6 dX14_areSo_8 ?_
  refine lv_istore_n (lv' := [(2, .int (nI fr)), (0, .ref M), (1, .int (nI a))]) hx hb dX14_areSo_9 rfl hl (by decide) rfl (fun ls hl => ?_)
  have K10 : ∀ (fu : Nat) (j : Nat) (hj : j ≤ mc) (hbe : ∀ k, k < j → cc k = true) (hm : mc - j < fu) (H : Heap) (locs : List Loc) (ls : Array Slot), q_W E (rO E f M r) n H → va_S (q_ge E) s.heap H locs → lv_has ls 3 [(0, .ref M), (1, .int (nI a)), (2, .int (nI (fr + j)))] → W p l e (headSpec wsX14_areSo ({ frames := 17, cells := 0, slots := 0, locals := 545 })).room s m ([.ref M, .int (nI a)] : List Value).toArray below meth c H locs 0 0 (MQ below (q_Qi E (fun r0 f1 n1 => b01 (C (r 9) (r 42)) = r0 ∧ f = f1 ∧ n = n1)) ([.ref M, .int (nI a)] : List Value).toArray s 0 0 (q_ge E)) (F0 m 10 ls []) := by
    intro fu
    induction fu with
    | zero =>
      intro j hj hbe hm
      exact absurd hm (Nat.not_lt_zero _)
    | succ fu ih =>
      intro j hj hbe hm H locs ls hW hS hl
      refine lv_iload_n hx hb dX14_areSo_10 rfl (lv_at hl 2 rfl) ?_
      refine lv_aload_n hx hb dX14_areSo_11 rfl (lv_at hl 0 rfl) ?_
      refine q_get hx hb hts hown hA hW iX14 rO_0 rfl 17 (by decide) (hts (.fieldLink RX14 38 "HighRecipesModel" "told" "LHighRecipesModel$Book;") (by decide +kernel)) (fun _ h9 => h9) (v := .ref (M + 8)) rfl dX14_areSo_12 ?_
      refine q_getN hx hb hts hown hA hW iX13 rO_8 rfl 9 (by decide) (va_Nw.use rfl (hA.2.2.2.1 ("HighRecipesModel", 247, "HighRecipesModel$Book", "to", "[I", "HighRecipesModel") (by decide +kernel))) (fun _ h9 => h9) (v := .ref (M + 15)) rfl dX14_areSo_15 ?_
      refine lv_iload_n hx hb dX14_areSo_18 rfl (lv_at hl 1 rfl) ?_
      refine q_ald hx hb hA hW (rO_15 (g := r 15) rfl) a rfl (by omega) (by decide) (x := nI (fr + mc)) h7 dX14_areSo_19 ?_
      refine lv_icmp_ge (tgt := 39) hx hb dX14_areSo_20 (by decide) (fun c_20 => ?_) (fun c_20 => ?_)
      · have ej : j = mc := by rcases Nat.lt_or_ge j mc with h9 | h9; exact absurd c_20 (nI_ge (by omega) (by omega)); omega
        refine lv_iconst (v := 1) hx hb dX14_areSo_39 (by decide) ?_
        exact q_zret hx hb hr hlocks hW hS rfl ⟨by rw [hall.2 (fun k hk => hbe k (by omega))]; rfl, hmE, rfl⟩ (Nat.le_of_ble_eq_true rfl) (Nat.le_of_ble_eq_true rfl) dX14_areSo_40
      · have hlt : j < mc := by rcases Nat.lt_or_ge j mc with h9 | h9; exact h9; exact absurd (nI_le (by omega) (by omega)) c_20
        obtain ⟨kd, x, y, D1, D2, e1, k1, k2, e2, e3, v1, v2, ec⟩ := hcc j hlt
        refine lv_aload_n hx hb dX14_areSo_23 rfl (lv_at hl 0 rfl) ?_
        refine lv_iload_n hx hb dX14_areSo_24 rfl (lv_at hl 2 rfl) ?_
        refine q_ci (va_runV (As := [.int (nI (fr + j))]) (rest := []) ⟨hx, hb, hml, hown, hts⟩ ((kX14_isSo l E (rO E f M r) n M r pn (fr + j) kd x y D1 D2 rO_K hpn (by omega) k1 k2 e1 e2 e3 v1 v2)) (cwV 1 hts gX14_areSo_X14_isSo rfl rfl rfl (by decide +kernel) ⟨(Nat.le_of_ble_eq_true rfl), (Nat.le_of_ble_eq_true rfl)⟩) (q_pV hA hW hS (ci := 12) rfl rO_0) rfl rfl hl.1 rfl (lv_room (Nat.le_of_ble_eq_true rfl)) dX14_areSo_25 ⟨Nat.le_of_ble_eq_true rfl, Nat.le_of_ble_eq_true rfl⟩) hS (fun r_25 f_25 n_25 H locs hp hW hS => ?_)
        obtain ⟨rfl, rfl, rfl⟩ := hp
        rw [← ec]
        have hW : q_W E (rO E f M r) n H := hW
        refine lv_if_ne (tgt := 33) hx hb dX14_areSo_28 (by decide) (fun c_28 => ?_) (fun c_28 => ?_)
        · have hcj := b01_1 c_28
          refine lv_iinc (v := nI (fr + (j + 1))) (lv' := [(2, .int (nI (fr + (j + 1)))), (0, .ref M), (1, .int (nI a))]) hx hb dX14_areSo_33 hl (k := 2) rfl (nI_1 (fr + j)) (by decide) rfl (fun ls hl => ?_)
          refine lv_goto (tgt := 10) hx hb dX14_areSo_36 (by decide) ?_
          exact ih (j + 1) hlt (fun k hk => by rcases Nat.lt_or_ge k j with h9 | h9; exact hbe k h9; rw [show k = j by omega]; exact hcj) (by omega) _ _ _ hW hS (lv_sub hl [1, 2, 0] rfl)
        · have hcj := b01_0 c_28
          refine lv_iconst (v := 0) hx hb dX14_areSo_31 (by decide) ?_
          exact q_zret hx hb hr hlocks hW hS rfl ⟨by rw [show C (r 9) (r 42) = false from by cases h9 : C (r 9) (r 42); rfl; rw [hall.1 h9 j hlt] at hcj; cases hcj]; rfl, hmE, rfl⟩ (Nat.le_of_ble_eq_true rfl) (Nat.le_of_ble_eq_true rfl) dX14_areSo_32
  exact K10 _ 0 (Nat.zero_le _) (fun k hk => absurd hk (Nat.not_lt_zero _)) (Nat.lt_succ_self _) _ _ _ hW hS (lv_sub hl [1, 2, 0] rfl)

set_option maxHeartbeats 4000000 in
set_option maxRecDepth 100000 in
theorem kX14_pours_0 (l : Launch) (E : q_E) (f : q_H) (n : Nat) (M : Nat) (r : q_R) (pn bb : Nat) (i : Nat) (x : Int32)  (hm : RM E f M r) (hpn9 : (r 120 0) = nI pn) (hpn : pn ≤ 8) (hb9 : (r 110 0) = nI bb) (hw : (r 111 0) = -1 ∨ ¬ (r 111 0) < 0) (hok : k_ok (r 42)) (hvo : v_ok pn (r 9) (r 42)) (hi : i < pn) : Met l yX14_pours wsX14_pours ({ frames := 4, cells := 0, slots := 0, locals := 89 }) (q_P E [.ref M, .int (nI i), .int 0, .int x] f n) (q_Qv E (fun f1 n1 => rO E f M (r_ks r (k_pour pn i 0 (fun _ _ => x) (r 9) ((r 42), bb, (r 111 0)))) = f1 ∧ n = n1)) 0 0 (q_ge E) := by
  refine Met.ofW (cc := cX14_pours) (maxL := 5) (ret := none) (by decide) rfl ?_
  intro p e s m args below meth c s₁ B hml hv
  obtain ⟨rfl, hA, hW⟩ := hv
  have hx := B.exec
  have hb := B.bytes
  have hr := B.returns
  have hts := atoms_spec (ws := wsX14_pours) B.pre
  have hown : s.vm.findClass RX14 = some m.cls := findClass_of_methodNamed B.named
  have hlocks := B.notSynchronized
  have hS : va_S (q_ge E) s.heap s.heap [] := va_S.rf
  have hl := lv_entry ([.ref M, .int (nI i), .int 0, .int x]) (n := 5) (Nat.le_of_ble_eq_true rfl)
  rw [lg_entry_eq]
  generalize (lg_sl ([.ref M, .int (nI i), .int 0, .int x]) ++ List.replicate (5 - (lg_sl ([.ref M, .int (nI i), .int 0, .int x])).length) Slot.unset).toArray = ls at hl ⊢
  have hl : lv_has ls 5 [(0, .ref M), (1, .int (nI i)), (2, .int 0), (3, .int x)] := hl
  have hmE := hm.eq
  rw [hm.eq] at hW
  refine lv_aload_n hx hb dX14_pours_0 rfl (lv_at hl 0 rfl) ?_
  refine lv_iload_n hx hb dX14_pours_1 rfl (lv_at hl 3 rfl) ?_
  refine q_ci (va_runV (As := [.int x]) (rest := []) ⟨hx, hb, hml, hown, hts⟩ (kX14_translated l E (rO E f M r) n M r x rO_K (v_ok_sp hvo)) (cwV 1 hts gX14_pours_X14_translated rfl rfl rfl (by decide +kernel) ⟨(Nat.le_of_ble_eq_true rfl), (Nat.le_of_ble_eq_true rfl)⟩) (q_pV hA hW hS (ci := 12) rfl rO_0) rfl rfl hl.1 rfl (lv_room (Nat.le_of_ble_eq_true rfl)) dX14_pours_2 ⟨Nat.le_of_ble_eq_true rfl, Nat.le_of_ble_eq_true rfl⟩) hS (fun r_2 f_2 n_2 H locs hp hW hS => ?_)
  obtain ⟨rfl, rfl, rfl⟩ := hp
  have hW : q_W E (rO E f M r) n H := hW
  refine lv_istore (lv' := [(4, .int (z_tr (r 42) x)), (0, .ref M), (1, .int (nI i)), (2, .int 0), (3, .int x)]) hx hb dX14_pours_5 hl (by decide) rfl (fun ls hl => ?_)
  refine lv_aload_n hx hb dX14_pours_7 rfl (lv_at hl 1 rfl) ?_
  refine lv_iload_n hx hb dX14_pours_8 rfl (lv_at hl 2 rfl) ?_
  refine lv_iload_n hx hb dX14_pours_9 rfl (lv_at hl 3 rfl) ?_
  refine lv_iload hx hb dX14_pours_10 (lv_at hl 0 rfl) ?_
  refine q_ci (va_runV (As := [.int (nI i), .int 0, .int (z_tr (r 42) x)]) (rest := []) ⟨hx, hb, hml, hown, hts⟩ (kX14_pour_0 l E (rO E f M r) n M r pn i (z_tr (r 42) x) rO_K (by assumption) (by assumption) (v_ok_hz hvo hi).1) (cwV 3 hts gX14_pours_X14_pour rfl rfl rfl (by decide +kernel) ⟨(Nat.le_of_ble_eq_true rfl), (Nat.le_of_ble_eq_true rfl)⟩) (q_pV hA hW hS (ci := 12) rfl rO_0) rfl rfl hl.1 rfl (lv_room (Nat.le_of_ble_eq_true rfl)) dX14_pours_12 ⟨Nat.le_of_ble_eq_true rfl, Nat.le_of_ble_eq_true rfl⟩) hS (fun r_12 f_12 n_12 H locs hp hW hS => ?_)
  obtain ⟨rfl, rfl, rfl⟩ := hp
  have hW : q_W E (rO E f M (rp r 42 (z_fillv (r 9) (r 42) i 0 (z_tr (r 42) x)))) n H := by rw [rO_rO] at hW; exact hW
  have hW : q_W E (rO E f M (rp r 42 (z_fillv (r 9) (r 42) i 0 (z_tr (r 42) x)))) n H := hW
  refine lv_iload hx hb dX14_pours_15 (lv_at hl 0 rfl) ?_
  refine lv_icmp_ge (tgt := 25) hx hb dX14_pours_17 (by decide) (fun c_17 => ?_) (fun c_17 => ?_)
  · refine lv_aload_n hx hb dX14_pours_25 rfl (lv_at hl 1 rfl) ?_
    refine lv_iconst (v := 1) hx hb dX14_pours_26 (by decide) ?_
    refine lv_iload_n hx hb dX14_pours_27 rfl (lv_at hl 2 rfl) ?_
    refine q_cv (va_runV (As := [.int 1, .int (nI i)]) (rest := []) ⟨hx, hb, hml, hown, hts⟩ (kX14_goBy l E (rO E f M (rp r 42 (z_fillv (r 9) (r 42) i 0 (z_tr (r 42) x)))) n M (rp r 42 (z_fillv (r 9) (r 42) i 0 (z_tr (r 42) x))) pn 1 i rO_K hpn9 (by assumption) (by omega)) (cwV 2 hts gX14_pours_X14_goBy rfl rfl rfl (by decide +kernel) ⟨(Nat.le_of_ble_eq_true rfl), (Nat.le_of_ble_eq_true rfl)⟩) (q_pV hA hW hS (ci := 12) rfl rO_0) rfl rfl hl.1 rfl (lv_room (Nat.le_of_ble_eq_true rfl)) dX14_pours_28 ⟨Nat.le_of_ble_eq_true rfl, Nat.le_of_ble_eq_true rfl⟩) hS (fun f_28 n_28 H locs hp hW hS => ?_)
    obtain ⟨rfl, rfl⟩ := hp
    have hW : q_W E (rO E f M (rp (rp r 42 (z_fillv (r 9) (r 42) i 0 (z_tr (r 42) x))) 42 (z_pass (z_fillv (r 9) (r 42) i 0 (z_tr (r 42) x)) 1 i pn))) n H := by rw [rO_rO] at hW; exact hW
    rw [rp_d0] at hW
    have hW : q_W E (rO E f M (rp r 42 (z_pass (z_fillv (r 9) (r 42) i 0 (z_tr (r 42) x)) 1 i pn))) n H := hW
    have hW := q_rr 42 (g := z_pass (z_fillv (r 9) (r 42) i 0 (z_tr (r 42) x)) 1 i pn) hW rfl
    rw [rp_d0] at hW
    have hW := q_sc 110 (x := nI bb) hW hb9 (by decide)
    have hW := q_sc 111 (x := r 111 0) hW rfl (by decide)
    exact q_vret hx hb hr hlocks hW hS ⟨(congrArg (fun z : q_KS => rO E f M (r_ks r z)) (show (k_pour pn i 0 (fun _ _ => x) (r 9) ((r 42), bb, (r 111 0))) = (z_pass (z_fillv (r 9) (r 42) i 0 (z_tr (r 42) x)) 1 i pn, bb, r 111 0) from (by show k_pass pn 1 i (k_pour2 (r 9) i 0 (z_tr (r 42) x) (r 42, bb, r 111 0)) = _; unfold k_pour2; rw [if_neg (Int32.not_lt.mpr c_17)]; rfl))), rfl⟩ (Nat.le_of_ble_eq_true rfl) (Nat.le_of_ble_eq_true rfl) dX14_pours_31
  · refine lv_aload_n hx hb dX14_pours_20 rfl (lv_at hl 1 rfl) ?_
    refine lv_iconst (v := 1) hx hb dX14_pours_21 (by decide) ?_
    refine q_cv (va_runV (As := [.int 1]) (rest := []) ⟨hx, hb, hml, hown, hts⟩ (kX14_warn l E (rO E f M (rp r 42 (z_fillv (r 9) (r 42) i 0 (z_tr (r 42) x)))) n M (rp r 42 (z_fillv (r 9) (r 42) i 0 (z_tr (r 42) x))) 1 bb rO_K (k_ok_of hok (z_fillv_n (by omega)) (z_fillv_n (by omega))) (by decide) hb9 hw) (cwV 1 hts gX14_pours_X14_warn rfl rfl rfl (by decide +kernel) ⟨(Nat.le_of_ble_eq_true rfl), (Nat.le_of_ble_eq_true rfl)⟩) (q_pV hA hW hS (ci := 12) rfl rO_0) rfl rfl hl.1 rfl (lv_room (Nat.le_of_ble_eq_true rfl)) dX14_pours_22 ⟨Nat.le_of_ble_eq_true rfl, Nat.le_of_ble_eq_true rfl⟩) hS (fun f_22 n_22 H locs hp hW hS => ?_)
    obtain ⟨rfl, rfl⟩ := hp
    have hW : q_W E (rO E f M (rp (rp (rp r 42 (z_fillv (r 9) (r 42) i 0 (z_tr (r 42) x))) 42 ((k_warn 1 ((z_fillv (r 9) (r 42) i 0 (z_tr (r 42) x)), bb, (r 111 0))).1)) 111 (fun _ => (k_warn 1 ((z_fillv (r 9) (r 42) i 0 (z_tr (r 42) x)), bb, (r 111 0))).2.2))) n H := by rw [rO_rO] at hW; exact hW
    rw [rp_d0] at hW
    have hW : q_W E (rO E f M (rp (rp r 42 ((k_warn 1 ((z_fillv (r 9) (r 42) i 0 (z_tr (r 42) x)), bb, (r 111 0))).1)) 111 (fun _ => (k_warn 1 ((z_fillv (r 9) (r 42) i 0 (z_tr (r 42) x)), bb, (r 111 0))).2.2))) n H := hW
    refine lv_aload_n hx hb dX14_pours_25 rfl (lv_at hl 1 rfl) ?_
    refine lv_iconst (v := 1) hx hb dX14_pours_26 (by decide) ?_
    refine lv_iload_n hx hb dX14_pours_27 rfl (lv_at hl 2 rfl) ?_
    refine q_cv (va_runV (As := [.int 1, .int (nI i)]) (rest := []) ⟨hx, hb, hml, hown, hts⟩ (kX14_goBy l E (rO E f M (rp (rp r 42 ((k_warn 1 ((z_fillv (r 9) (r 42) i 0 (z_tr (r 42) x)), bb, (r 111 0))).1)) 111 (fun _ => (k_warn 1 ((z_fillv (r 9) (r 42) i 0 (z_tr (r 42) x)), bb, (r 111 0))).2.2))) n M (rp (rp r 42 ((k_warn 1 ((z_fillv (r 9) (r 42) i 0 (z_tr (r 42) x)), bb, (r 111 0))).1)) 111 (fun _ => (k_warn 1 ((z_fillv (r 9) (r 42) i 0 (z_tr (r 42) x)), bb, (r 111 0))).2.2)) pn 1 i rO_K hpn9 (by assumption) (by omega)) (cwV 2 hts gX14_pours_X14_goBy rfl rfl rfl (by decide +kernel) ⟨(Nat.le_of_ble_eq_true rfl), (Nat.le_of_ble_eq_true rfl)⟩) (q_pV hA hW hS (ci := 12) rfl rO_0) rfl rfl hl.1 rfl (lv_room (Nat.le_of_ble_eq_true rfl)) dX14_pours_28 ⟨Nat.le_of_ble_eq_true rfl, Nat.le_of_ble_eq_true rfl⟩) hS (fun f_28 n_28 H locs hp hW hS => ?_)
    obtain ⟨rfl, rfl⟩ := hp
    have hW : q_W E (rO E f M (rp (rp (rp r 42 ((k_warn 1 ((z_fillv (r 9) (r 42) i 0 (z_tr (r 42) x)), bb, (r 111 0))).1)) 111 (fun _ => (k_warn 1 ((z_fillv (r 9) (r 42) i 0 (z_tr (r 42) x)), bb, (r 111 0))).2.2)) 42 (z_pass ((k_warn 1 ((z_fillv (r 9) (r 42) i 0 (z_tr (r 42) x)), bb, (r 111 0))).1) 1 i pn))) n H := by rw [rO_rO] at hW; exact hW
    rw [rp_d1] at hW
    have hW : q_W E (rO E f M (rp (rp r 111 (fun _ => (k_warn 1 ((z_fillv (r 9) (r 42) i 0 (z_tr (r 42) x)), bb, (r 111 0))).2.2)) 42 (z_pass ((k_warn 1 ((z_fillv (r 9) (r 42) i 0 (z_tr (r 42) x)), bb, (r 111 0))).1) 1 i pn))) n H := hW
    have hW := q_rr 42 (g := z_pass ((k_warn 1 ((z_fillv (r 9) (r 42) i 0 (z_tr (r 42) x)), bb, (r 111 0))).1) 1 i pn) hW rfl
    rw [rp_d0] at hW
    have hW := q_sc 110 (x := nI bb) hW hb9 (by decide)
    have hW := q_sc 111 (x := (k_warn 1 ((z_fillv (r 9) (r 42) i 0 (z_tr (r 42) x)), bb, (r 111 0))).2.2) hW rfl (by decide)
    rw [rp_d2] at hW
    exact q_vret hx hb hr hlocks hW hS ⟨(congrArg (fun z : q_KS => rO E f M (r_ks r z)) (show (k_pour pn i 0 (fun _ _ => x) (r 9) ((r 42), bb, (r 111 0))) = (z_pass ((k_warn 1 ((z_fillv (r 9) (r 42) i 0 (z_tr (r 42) x)), bb, (r 111 0))).1) 1 i pn, bb, (k_warn 1 ((z_fillv (r 9) (r 42) i 0 (z_tr (r 42) x)), bb, (r 111 0))).2.2) from (by show k_pass pn 1 i (k_pour2 (r 9) i 0 (z_tr (r 42) x) (r 42, bb, r 111 0)) = _; unfold k_pour2; rw [if_pos (Int32.not_le.mp c_17)]; rfl))), rfl⟩ (Nat.le_of_ble_eq_true rfl) (Nat.le_of_ble_eq_true rfl) dX14_pours_31

set_option maxHeartbeats 4000000 in
set_option maxRecDepth 100000 in
theorem kX14_pours_1 (l : Launch) (E : q_E) (f : q_H) (n : Nat) (M : Nat) (r : q_R) (pn bb : Nat) (i : Nat) (x : Int32)  (hm : RM E f M r) (hpn9 : (r 120 0) = nI pn) (hpn : pn ≤ 8) (hb9 : (r 110 0) = nI bb) (hw : (r 111 0) = -1 ∨ ¬ (r 111 0) < 0) (hok : k_ok (r 42)) (hvo : v_ok pn (r 9) (r 42)) (hi : i < pn) : Met l yX14_pours wsX14_pours ({ frames := 4, cells := 0, slots := 0, locals := 89 }) (q_P E [.ref M, .int (nI i), .int 1, .int x] f n) (q_Qv E (fun f1 n1 => rO E f M (r_ks r (k_pour pn i 1 (fun _ _ => x) (r 9) ((r 42), bb, (r 111 0)))) = f1 ∧ n = n1)) 0 0 (q_ge E) := by
  refine Met.ofW (cc := cX14_pours) (maxL := 5) (ret := none) (by decide) rfl ?_
  intro p e s m args below meth c s₁ B hml hv
  obtain ⟨rfl, hA, hW⟩ := hv
  have hx := B.exec
  have hb := B.bytes
  have hr := B.returns
  have hts := atoms_spec (ws := wsX14_pours) B.pre
  have hown : s.vm.findClass RX14 = some m.cls := findClass_of_methodNamed B.named
  have hlocks := B.notSynchronized
  have hS : va_S (q_ge E) s.heap s.heap [] := va_S.rf
  have hl := lv_entry ([.ref M, .int (nI i), .int 1, .int x]) (n := 5) (Nat.le_of_ble_eq_true rfl)
  rw [lg_entry_eq]
  generalize (lg_sl ([.ref M, .int (nI i), .int 1, .int x]) ++ List.replicate (5 - (lg_sl ([.ref M, .int (nI i), .int 1, .int x])).length) Slot.unset).toArray = ls at hl ⊢
  have hl : lv_has ls 5 [(0, .ref M), (1, .int (nI i)), (2, .int 1), (3, .int x)] := hl
  have hmE := hm.eq
  rw [hm.eq] at hW
  refine lv_aload_n hx hb dX14_pours_0 rfl (lv_at hl 0 rfl) ?_
  refine lv_iload_n hx hb dX14_pours_1 rfl (lv_at hl 3 rfl) ?_
  refine q_ci (va_runV (As := [.int x]) (rest := []) ⟨hx, hb, hml, hown, hts⟩ (kX14_translated l E (rO E f M r) n M r x rO_K (v_ok_sp hvo)) (cwV 1 hts gX14_pours_X14_translated rfl rfl rfl (by decide +kernel) ⟨(Nat.le_of_ble_eq_true rfl), (Nat.le_of_ble_eq_true rfl)⟩) (q_pV hA hW hS (ci := 12) rfl rO_0) rfl rfl hl.1 rfl (lv_room (Nat.le_of_ble_eq_true rfl)) dX14_pours_2 ⟨Nat.le_of_ble_eq_true rfl, Nat.le_of_ble_eq_true rfl⟩) hS (fun r_2 f_2 n_2 H locs hp hW hS => ?_)
  obtain ⟨rfl, rfl, rfl⟩ := hp
  have hW : q_W E (rO E f M r) n H := hW
  refine lv_istore (lv' := [(4, .int (z_tr (r 42) x)), (0, .ref M), (1, .int (nI i)), (2, .int 1), (3, .int x)]) hx hb dX14_pours_5 hl (by decide) rfl (fun ls hl => ?_)
  refine lv_aload_n hx hb dX14_pours_7 rfl (lv_at hl 1 rfl) ?_
  refine lv_iload_n hx hb dX14_pours_8 rfl (lv_at hl 2 rfl) ?_
  refine lv_iload_n hx hb dX14_pours_9 rfl (lv_at hl 3 rfl) ?_
  refine lv_iload hx hb dX14_pours_10 (lv_at hl 0 rfl) ?_
  refine q_ci (va_runV (As := [.int (nI i), .int 1, .int (z_tr (r 42) x)]) (rest := []) ⟨hx, hb, hml, hown, hts⟩ (kX14_pour_1 l E (rO E f M r) n M r pn i (z_tr (r 42) x) rO_K (by assumption) (by assumption) (v_ok_hz hvo hi).1 (v_ok_hz hvo hi).2) (cwV 3 hts gX14_pours_X14_pour rfl rfl rfl (by decide +kernel) ⟨(Nat.le_of_ble_eq_true rfl), (Nat.le_of_ble_eq_true rfl)⟩) (q_pV hA hW hS (ci := 12) rfl rO_0) rfl rfl hl.1 rfl (lv_room (Nat.le_of_ble_eq_true rfl)) dX14_pours_12 ⟨Nat.le_of_ble_eq_true rfl, Nat.le_of_ble_eq_true rfl⟩) hS (fun r_12 f_12 n_12 H locs hp hW hS => ?_)
  obtain ⟨rfl, rfl, rfl⟩ := hp
  have hW : q_W E (rO E f M (rp r 42 (z_fillv (r 9) (r 42) i 1 (z_tr (r 42) x)))) n H := by rw [rO_rO] at hW; exact hW
  have hW : q_W E (rO E f M (rp r 42 (z_fillv (r 9) (r 42) i 1 (z_tr (r 42) x)))) n H := hW
  refine lv_iload hx hb dX14_pours_15 (lv_at hl 0 rfl) ?_
  refine lv_icmp_ge (tgt := 25) hx hb dX14_pours_17 (by decide) (fun c_17 => ?_) (fun c_17 => ?_)
  · refine lv_aload_n hx hb dX14_pours_25 rfl (lv_at hl 1 rfl) ?_
    refine lv_iconst (v := 1) hx hb dX14_pours_26 (by decide) ?_
    refine lv_iload_n hx hb dX14_pours_27 rfl (lv_at hl 2 rfl) ?_
    refine q_cv (va_runV (As := [.int 1, .int (nI i)]) (rest := []) ⟨hx, hb, hml, hown, hts⟩ (kX14_goBy l E (rO E f M (rp r 42 (z_fillv (r 9) (r 42) i 1 (z_tr (r 42) x)))) n M (rp r 42 (z_fillv (r 9) (r 42) i 1 (z_tr (r 42) x))) pn 1 i rO_K hpn9 (by assumption) (by omega)) (cwV 2 hts gX14_pours_X14_goBy rfl rfl rfl (by decide +kernel) ⟨(Nat.le_of_ble_eq_true rfl), (Nat.le_of_ble_eq_true rfl)⟩) (q_pV hA hW hS (ci := 12) rfl rO_0) rfl rfl hl.1 rfl (lv_room (Nat.le_of_ble_eq_true rfl)) dX14_pours_28 ⟨Nat.le_of_ble_eq_true rfl, Nat.le_of_ble_eq_true rfl⟩) hS (fun f_28 n_28 H locs hp hW hS => ?_)
    obtain ⟨rfl, rfl⟩ := hp
    have hW : q_W E (rO E f M (rp (rp r 42 (z_fillv (r 9) (r 42) i 1 (z_tr (r 42) x))) 42 (z_pass (z_fillv (r 9) (r 42) i 1 (z_tr (r 42) x)) 1 i pn))) n H := by rw [rO_rO] at hW; exact hW
    rw [rp_d0] at hW
    have hW : q_W E (rO E f M (rp r 42 (z_pass (z_fillv (r 9) (r 42) i 1 (z_tr (r 42) x)) 1 i pn))) n H := hW
    have hW := q_rr 42 (g := z_pass (z_fillv (r 9) (r 42) i 1 (z_tr (r 42) x)) 1 i pn) hW rfl
    rw [rp_d0] at hW
    have hW := q_sc 110 (x := nI bb) hW hb9 (by decide)
    have hW := q_sc 111 (x := r 111 0) hW rfl (by decide)
    exact q_vret hx hb hr hlocks hW hS ⟨(congrArg (fun z : q_KS => rO E f M (r_ks r z)) (show (k_pour pn i 1 (fun _ _ => x) (r 9) ((r 42), bb, (r 111 0))) = (z_pass (z_fillv (r 9) (r 42) i 1 (z_tr (r 42) x)) 1 i pn, bb, r 111 0) from (by show k_pass pn 1 i (k_pour2 (r 9) i 1 (z_tr (r 42) x) (r 42, bb, r 111 0)) = _; unfold k_pour2; rw [if_neg (Int32.not_lt.mpr c_17)]; rfl))), rfl⟩ (Nat.le_of_ble_eq_true rfl) (Nat.le_of_ble_eq_true rfl) dX14_pours_31
  · refine lv_aload_n hx hb dX14_pours_20 rfl (lv_at hl 1 rfl) ?_
    refine lv_iconst (v := 1) hx hb dX14_pours_21 (by decide) ?_
    refine q_cv (va_runV (As := [.int 1]) (rest := []) ⟨hx, hb, hml, hown, hts⟩ (kX14_warn l E (rO E f M (rp r 42 (z_fillv (r 9) (r 42) i 1 (z_tr (r 42) x)))) n M (rp r 42 (z_fillv (r 9) (r 42) i 1 (z_tr (r 42) x))) 1 bb rO_K (k_ok_of hok (z_fillv_n (by omega)) (z_fillv_n (by omega))) (by decide) hb9 hw) (cwV 1 hts gX14_pours_X14_warn rfl rfl rfl (by decide +kernel) ⟨(Nat.le_of_ble_eq_true rfl), (Nat.le_of_ble_eq_true rfl)⟩) (q_pV hA hW hS (ci := 12) rfl rO_0) rfl rfl hl.1 rfl (lv_room (Nat.le_of_ble_eq_true rfl)) dX14_pours_22 ⟨Nat.le_of_ble_eq_true rfl, Nat.le_of_ble_eq_true rfl⟩) hS (fun f_22 n_22 H locs hp hW hS => ?_)
    obtain ⟨rfl, rfl⟩ := hp
    have hW : q_W E (rO E f M (rp (rp (rp r 42 (z_fillv (r 9) (r 42) i 1 (z_tr (r 42) x))) 42 ((k_warn 1 ((z_fillv (r 9) (r 42) i 1 (z_tr (r 42) x)), bb, (r 111 0))).1)) 111 (fun _ => (k_warn 1 ((z_fillv (r 9) (r 42) i 1 (z_tr (r 42) x)), bb, (r 111 0))).2.2))) n H := by rw [rO_rO] at hW; exact hW
    rw [rp_d0] at hW
    have hW : q_W E (rO E f M (rp (rp r 42 ((k_warn 1 ((z_fillv (r 9) (r 42) i 1 (z_tr (r 42) x)), bb, (r 111 0))).1)) 111 (fun _ => (k_warn 1 ((z_fillv (r 9) (r 42) i 1 (z_tr (r 42) x)), bb, (r 111 0))).2.2))) n H := hW
    refine lv_aload_n hx hb dX14_pours_25 rfl (lv_at hl 1 rfl) ?_
    refine lv_iconst (v := 1) hx hb dX14_pours_26 (by decide) ?_
    refine lv_iload_n hx hb dX14_pours_27 rfl (lv_at hl 2 rfl) ?_
    refine q_cv (va_runV (As := [.int 1, .int (nI i)]) (rest := []) ⟨hx, hb, hml, hown, hts⟩ (kX14_goBy l E (rO E f M (rp (rp r 42 ((k_warn 1 ((z_fillv (r 9) (r 42) i 1 (z_tr (r 42) x)), bb, (r 111 0))).1)) 111 (fun _ => (k_warn 1 ((z_fillv (r 9) (r 42) i 1 (z_tr (r 42) x)), bb, (r 111 0))).2.2))) n M (rp (rp r 42 ((k_warn 1 ((z_fillv (r 9) (r 42) i 1 (z_tr (r 42) x)), bb, (r 111 0))).1)) 111 (fun _ => (k_warn 1 ((z_fillv (r 9) (r 42) i 1 (z_tr (r 42) x)), bb, (r 111 0))).2.2)) pn 1 i rO_K hpn9 (by assumption) (by omega)) (cwV 2 hts gX14_pours_X14_goBy rfl rfl rfl (by decide +kernel) ⟨(Nat.le_of_ble_eq_true rfl), (Nat.le_of_ble_eq_true rfl)⟩) (q_pV hA hW hS (ci := 12) rfl rO_0) rfl rfl hl.1 rfl (lv_room (Nat.le_of_ble_eq_true rfl)) dX14_pours_28 ⟨Nat.le_of_ble_eq_true rfl, Nat.le_of_ble_eq_true rfl⟩) hS (fun f_28 n_28 H locs hp hW hS => ?_)
    obtain ⟨rfl, rfl⟩ := hp
    have hW : q_W E (rO E f M (rp (rp (rp r 42 ((k_warn 1 ((z_fillv (r 9) (r 42) i 1 (z_tr (r 42) x)), bb, (r 111 0))).1)) 111 (fun _ => (k_warn 1 ((z_fillv (r 9) (r 42) i 1 (z_tr (r 42) x)), bb, (r 111 0))).2.2)) 42 (z_pass ((k_warn 1 ((z_fillv (r 9) (r 42) i 1 (z_tr (r 42) x)), bb, (r 111 0))).1) 1 i pn))) n H := by rw [rO_rO] at hW; exact hW
    rw [rp_d1] at hW
    have hW : q_W E (rO E f M (rp (rp r 111 (fun _ => (k_warn 1 ((z_fillv (r 9) (r 42) i 1 (z_tr (r 42) x)), bb, (r 111 0))).2.2)) 42 (z_pass ((k_warn 1 ((z_fillv (r 9) (r 42) i 1 (z_tr (r 42) x)), bb, (r 111 0))).1) 1 i pn))) n H := hW
    have hW := q_rr 42 (g := z_pass ((k_warn 1 ((z_fillv (r 9) (r 42) i 1 (z_tr (r 42) x)), bb, (r 111 0))).1) 1 i pn) hW rfl
    rw [rp_d0] at hW
    have hW := q_sc 110 (x := nI bb) hW hb9 (by decide)
    have hW := q_sc 111 (x := (k_warn 1 ((z_fillv (r 9) (r 42) i 1 (z_tr (r 42) x)), bb, (r 111 0))).2.2) hW rfl (by decide)
    rw [rp_d2] at hW
    exact q_vret hx hb hr hlocks hW hS ⟨(congrArg (fun z : q_KS => rO E f M (r_ks r z)) (show (k_pour pn i 1 (fun _ _ => x) (r 9) ((r 42), bb, (r 111 0))) = (z_pass ((k_warn 1 ((z_fillv (r 9) (r 42) i 1 (z_tr (r 42) x)), bb, (r 111 0))).1) 1 i pn, bb, (k_warn 1 ((z_fillv (r 9) (r 42) i 1 (z_tr (r 42) x)), bb, (r 111 0))).2.2) from (by show k_pass pn 1 i (k_pour2 (r 9) i 1 (z_tr (r 42) x) (r 42, bb, r 111 0)) = _; unfold k_pour2; rw [if_pos (Int32.not_le.mp c_17)]; rfl))), rfl⟩ (Nat.le_of_ble_eq_true rfl) (Nat.le_of_ble_eq_true rfl) dX14_pours_31

set_option maxHeartbeats 4000000 in
set_option maxRecDepth 100000 in
theorem kX14_heats (l : Launch) (E : q_E) (f : q_H) (n : Nat) (M : Nat) (r : q_R) (pn bb : Nat) (i : Nat) (x : Int32)  (hm : RM E f M r) (hpn9 : (r 120 0) = nI pn) (hpn : pn ≤ 8) (hb9 : (r 110 0) = nI bb) (hw : (r 111 0) = -1 ∨ ¬ (r 111 0) < 0) (hok : k_ok (r 42)) (hvo : v_ok pn (r 9) (r 42)) (hi : i < pn) : Met l yX14_heats wsX14_heats ({ frames := 2, cells := 0, slots := 0, locals := 44 }) (q_P E [.ref M, .int (nI i), .int x] f n) (q_Qv E (fun f1 n1 => rO E f M (r_ks r (k_heat pn i (fun _ _ => x) (r 9) ((r 42), bb, (r 111 0)))) = f1 ∧ n = n1)) 0 0 (q_ge E) := by
  refine Met.ofW (cc := cX14_heats) (maxL := 5) (ret := none) (by decide) rfl ?_
  intro p e s m args below meth c s₁ B hml hv
  obtain ⟨rfl, hA, hW⟩ := hv
  have hx := B.exec
  have hb := B.bytes
  have hr := B.returns
  have hts := atoms_spec (ws := wsX14_heats) B.pre
  have hown : s.vm.findClass RX14 = some m.cls := findClass_of_methodNamed B.named
  have hlocks := B.notSynchronized
  have hS : va_S (q_ge E) s.heap s.heap [] := va_S.rf
  have iX14 : ∀ w ∈ wsX140, w ∈ wsX14_heats := by decide +kernel
  have hl := lv_entry ([.ref M, .int (nI i), .int x]) (n := 5) (Nat.le_of_ble_eq_true rfl)
  rw [lg_entry_eq]
  generalize (lg_sl ([.ref M, .int (nI i), .int x]) ++ List.replicate (5 - (lg_sl ([.ref M, .int (nI i), .int x])).length) Slot.unset).toArray = ls at hl ⊢
  have hl : lv_has ls 5 [(0, .ref M), (1, .int (nI i)), (2, .int x)] := hl
  have hmE := hm.eq
  rw [hm.eq] at hW
  refine lv_aload_n hx hb dX14_heats_0 rfl (lv_at hl 0 rfl) ?_
  refine lv_iload_n hx hb dX14_heats_1 rfl (lv_at hl 1 rfl) ?_
  refine q_ci (va_runV (As := [.int (nI i)]) (rest := []) ⟨hx, hb, hml, hown, hts⟩ (kX14_inside l E (rO E f M r) n M r pn i rO_K (by assumption) (by assumption)) (cwV 1 hts gX14_heats_X14_inside rfl rfl rfl (by decide +kernel) ⟨(Nat.le_of_ble_eq_true rfl), (Nat.le_of_ble_eq_true rfl)⟩) (q_pV hA hW hS (ci := 12) rfl rO_0) rfl rfl hl.1 rfl (lv_room (Nat.le_of_ble_eq_true rfl)) dX14_heats_2 ⟨Nat.le_of_ble_eq_true rfl, Nat.le_of_ble_eq_true rfl⟩) hS (fun r_2 f_2 n_2 H locs hp hW hS => ?_)
  obtain ⟨rfl, rfl, rfl⟩ := hp
  have hW : q_W E (rO E f M r) n H := hW
  refine lv_if_ne (tgt := 14) hx hb dX14_heats_5 (by decide) (fun c_5 => ?_) (fun c_5 => ?_)
  · refine lv_iload_n hx hb dX14_heats_14 rfl (lv_at hl 2 rfl) ?_
    refine lv_aload_n hx hb dX14_heats_15 rfl (lv_at hl 0 rfl) ?_
    refine q_ci (va_runV (As := []) (rest := [.int x]) ⟨hx, hb, hml, hown, hts⟩ (kX14_boiling l E (rO E f M r) n M r rO_K) (cwV 0 hts gX14_heats_X14_boiling rfl rfl rfl (by decide +kernel) ⟨(Nat.le_of_ble_eq_true rfl), (Nat.le_of_ble_eq_true rfl)⟩) (q_pV hA hW hS (ci := 12) rfl rO_0) rfl rfl hl.1 rfl (lv_room (Nat.le_of_ble_eq_true rfl)) dX14_heats_16 ⟨Nat.le_of_ble_eq_true rfl, Nat.le_of_ble_eq_true rfl⟩) hS (fun r_16 f_16 n_16 H locs hp hW hS => ?_)
    obtain ⟨rfl, rfl, rfl⟩ := hp
    have hW : q_W E (rO E f M r) n H := hW
    refine lv_icmp_le (tgt := 27) hx hb dX14_heats_19 (by decide) (fun c_19 => ?_) (fun c_19 => ?_)
    · refine lv_iload_n hx hb dX14_heats_27 rfl (lv_at hl 2 rfl) ?_
      refine lv_aload_n hx hb dX14_heats_28 rfl (lv_at hl 0 rfl) ?_
      refine q_ci (va_runV (As := []) (rest := [.int x]) ⟨hx, hb, hml, hown, hts⟩ (kX14_boiling l E (rO E f M r) n M r rO_K) (cwV 0 hts gX14_heats_X14_boiling rfl rfl rfl (by decide +kernel) ⟨(Nat.le_of_ble_eq_true rfl), (Nat.le_of_ble_eq_true rfl)⟩) (q_pV hA hW hS (ci := 12) rfl rO_0) rfl rfl hl.1 rfl (lv_room (Nat.le_of_ble_eq_true rfl)) dX14_heats_29 ⟨Nat.le_of_ble_eq_true rfl, Nat.le_of_ble_eq_true rfl⟩) hS (fun r_29 f_29 n_29 H locs hp hW hS => ?_)
      obtain ⟨rfl, rfl, rfl⟩ := hp
      have hW : q_W E (rO E f M r) n H := hW
      refine va_mmin hx hb (hml.trans hl.1.symm) hown (hts (.methodLink RX14 57 Lib.Math.min.name) (by decide +kernel)) (hts (.static Lib.Math.min.name) (by decide +kernel)) (hts (.initialized "java/lang/Math") (by decide +kernel)) (hts (.code Lib.Math.min.name Lib.Math.min.code 2 (some .int)) (by decide +kernel)) (Nat.le_of_ble_eq_true rfl) (Nat.le_of_ble_eq_true rfl) (Nat.le_of_ble_eq_true rfl) (Nat.le_of_ble_eq_true rfl) dX14_heats_32 ?_
      refine lv_istore_n (lv' := [(3, .int (q_min x (z_boil ((r 42) 0)))), (0, .ref M), (1, .int (nI i)), (2, .int x)]) hx hb dX14_heats_35 rfl hl (by decide) rfl (fun ls hl => ?_)
      refine lv_aload_n hx hb dX14_heats_36 rfl (lv_at hl 1 rfl) ?_
      refine q_get hx hb hts hown hA hW iX14 rO_0 rfl 19 (by decide) (hts (.fieldLink RX14 45 "HighRecipesModel" "now" "[I") (by decide +kernel)) (fun _ h9 => h9) (v := .ref (M + 42)) rfl dX14_heats_37 ?_
      refine lv_iload_n hx hb dX14_heats_40 rfl (lv_at hl 2 rfl) ?_
      refine lv_iconst (v := 2) hx hb dX14_heats_41 (by decide) ?_
      refine q_ci (va_runS (As := [.int (nI i), .int 2]) (rest := [.ref (M + 42)]) ⟨hx, hb, hml, hown, hts⟩ (kX14_of_2 l E (rO E f M r) n i) (va_cwS 2 hts gX14_heats_X14_of rfl rfl rfl (by decide +kernel) ⟨(Nat.le_of_ble_eq_true rfl), (Nat.le_of_ble_eq_true rfl)⟩) (q_pS hA hW hS) rfl rfl hl.1 rfl (lv_room (Nat.le_of_ble_eq_true rfl)) dX14_heats_42 ⟨Nat.le_of_ble_eq_true rfl, Nat.le_of_ble_eq_true rfl⟩) hS (fun r_42 f_42 n_42 H locs hp hW hS => ?_)
      obtain ⟨rfl, rfl, rfl⟩ := hp
      have hW : q_W E (rO E f M r) n H := hW
      refine q_ald hx hb hA hW (rO_42 (g := r 42) rfl) (54 + 4 * i) rfl (by omega) (by decide) (x := (r 42) (54 + 4 * i)) rfl dX14_heats_45 ?_
      refine lv_istore (lv' := [(4, .int ((r 42) (54 + 4 * i))), (3, .int (q_min x (z_boil ((r 42) 0)))), (0, .ref M), (1, .int (nI i)), (2, .int x)]) hx hb dX14_heats_46 hl (by decide) rfl (fun ls hl => ?_)
      refine lv_iload hx hb dX14_heats_48 (lv_at hl 0 rfl) ?_
      refine lv_iload_n hx hb dX14_heats_50 rfl (lv_at hl 1 rfl) ?_
      refine lv_icmp_lt (tgt := 55) hx hb dX14_heats_51 (by decide) (fun c_51 => ?_) (fun c_51 => ?_)
      · refine lv_aload_n hx hb dX14_heats_55 rfl (lv_at hl 2 rfl) ?_
        refine q_get hx hb hts hown hA hW iX14 rO_0 rfl 19 (by decide) (hts (.fieldLink RX14 45 "HighRecipesModel" "now" "[I") (by decide +kernel)) (fun _ h9 => h9) (v := .ref (M + 42)) rfl dX14_heats_56 ?_
        refine lv_iload_n hx hb dX14_heats_59 rfl (lv_at hl 3 rfl) ?_
        refine lv_iconst (v := 2) hx hb dX14_heats_60 (by decide) ?_
        refine q_ci (va_runS (As := [.int (nI i), .int 2]) (rest := [.ref (M + 42)]) ⟨hx, hb, hml, hown, hts⟩ (kX14_of_2 l E (rO E f M r) n i) (va_cwS 2 hts gX14_heats_X14_of rfl rfl rfl (by decide +kernel) ⟨(Nat.le_of_ble_eq_true rfl), (Nat.le_of_ble_eq_true rfl)⟩) (q_pS hA hW hS) rfl rfl hl.1 rfl (lv_room (Nat.le_of_ble_eq_true rfl)) dX14_heats_61 ⟨Nat.le_of_ble_eq_true rfl, Nat.le_of_ble_eq_true rfl⟩) hS (fun r_61 f_61 n_61 H locs hp hW hS => ?_)
        obtain ⟨rfl, rfl, rfl⟩ := hp
        have hW : q_W E (rO E f M r) n H := hW
        refine lv_iload_n hx hb dX14_heats_64 rfl (lv_at hl 1 rfl) ?_
        refine q_ast hx hb hA hW hS (rO_42 (g := r 42) rfl) (54 + 4 * i) rfl (by omega) (by decide) dX14_heats_65 (fun H locs hW hS => ?_)
        have hW := q_sa 42 hW rfl rfl
        refine lv_aload_n hx hb dX14_heats_66 rfl (lv_at hl 2 rfl) ?_
        refine lv_iload_n hx hb dX14_heats_67 rfl (lv_at hl 1 rfl) ?_
        refine lv_iload hx hb dX14_heats_68 (lv_at hl 0 rfl) ?_
        refine lv_isub hx hb dX14_heats_70 ?_
        refine lv_bipush (v := 9) hx hb dX14_heats_71 (by decide) ?_
        refine lv_iadd hx hb dX14_heats_73 ?_
        refine lv_bipush (v := 10) hx hb dX14_heats_74 (by decide) ?_
        refine lv_idiv hx hb dX14_heats_76 (by decide) ?_
        refine lv_iload_n hx hb dX14_heats_77 rfl (lv_at hl 3 rfl) ?_
        refine q_cv (va_runV (As := [.int ((((q_min x (z_boil ((r 42) 0))) - ((r 42) (54 + 4 * i))) + 9) / 10), .int (nI i)]) (rest := []) ⟨hx, hb, hml, hown, hts⟩ (kX14_goBy l E (rO E f M (rp r 42 (upd (r 42) (54 + 4 * i) (q_min x (z_boil ((r 42) 0)))))) n M (rp r 42 (upd (r 42) (54 + 4 * i) (q_min x (z_boil ((r 42) 0))))) pn ((((q_min x (z_boil ((r 42) 0))) - ((r 42) (54 + 4 * i))) + 9) / 10) i rO_K hpn9 (by assumption) (by omega)) (cwV 2 hts gX14_heats_X14_goBy rfl rfl rfl (by decide +kernel) ⟨(Nat.le_of_ble_eq_true rfl), (Nat.le_of_ble_eq_true rfl)⟩) (q_pV hA hW hS (ci := 12) rfl rO_0) rfl rfl hl.1 rfl (lv_room (Nat.le_of_ble_eq_true rfl)) dX14_heats_78 ⟨Nat.le_of_ble_eq_true rfl, Nat.le_of_ble_eq_true rfl⟩) hS (fun f_78 n_78 H locs hp hW hS => ?_)
        obtain ⟨rfl, rfl⟩ := hp
        have hW : q_W E (rO E f M (rp (rp r 42 (upd (r 42) (54 + 4 * i) (q_min x (z_boil ((r 42) 0))))) 42 (z_pass (upd (r 42) (54 + 4 * i) (q_min x (z_boil ((r 42) 0)))) ((((q_min x (z_boil ((r 42) 0))) - ((r 42) (54 + 4 * i))) + 9) / 10) i pn))) n H := by rw [rO_rO] at hW; exact hW
        rw [rp_d0] at hW
        have hW : q_W E (rO E f M (rp r 42 (z_pass (upd (r 42) (54 + 4 * i) (q_min x (z_boil ((r 42) 0)))) ((((q_min x (z_boil ((r 42) 0))) - ((r 42) (54 + 4 * i))) + 9) / 10) i pn))) n H := hW
        have hW := q_rr 42 (g := z_pass (upd (r 42) (54 + 4 * i) (q_min x (z_boil ((r 42) 0)))) ((((q_min x (z_boil ((r 42) 0))) - ((r 42) (54 + 4 * i))) + 9) / 10) i pn) hW rfl
        rw [rp_d0] at hW
        have hW := q_sc 110 (x := nI bb) hW hb9 (by decide)
        have hW := q_sc 111 (x := r 111 0) hW rfl (by decide)
        exact q_vret hx hb hr hlocks hW hS ⟨(congrArg (fun z : q_KS => rO E f M (r_ks r z)) (show (k_heat pn i (fun _ _ => x) (r 9) ((r 42), bb, (r 111 0))) = (z_pass (upd (r 42) (54 + 4 * i) (q_min x (z_boil ((r 42) 0)))) ((((q_min x (z_boil ((r 42) 0))) - ((r 42) (54 + 4 * i))) + 9) / 10) i pn, bb, r 111 0) from (by show k_heat pn i (fun _ _ => x) (r 9) (r 42, bb, r 111 0) = _; unfold k_heat; rw [if_neg c_5]; unfold k_heat1; rw [if_neg (Int32.not_lt.mpr c_19)]; unfold k_heat2; rw [if_pos c_51]; unfold k_pass; congr 2; exact z_pan_u (z_un (by omega)) (z_un (by omega)) z_us (z_un (by omega)) (fun q hq => z_un (by omega))))), rfl⟩ (Nat.le_of_ble_eq_true rfl) (Nat.le_of_ble_eq_true rfl) dX14_heats_81
      · have hW := q_rr 42 (g := r 42) hW rfl
        have hW := q_sc 110 (x := nI bb) hW hb9 (by decide)
        have hW := q_sc 111 (x := r 111 0) hW rfl (by decide)
        exact q_vret hx hb hr hlocks hW hS ⟨(congrArg (fun z : q_KS => rO E f M (r_ks r z)) (show (k_heat pn i (fun _ _ => x) (r 9) ((r 42), bb, (r 111 0))) = (r 42, bb, r 111 0) from (by show k_heat pn i (fun _ _ => x) (r 9) (r 42, bb, r 111 0) = _; unfold k_heat; rw [if_neg c_5]; unfold k_heat1; rw [if_neg (Int32.not_lt.mpr c_19)]; unfold k_heat2; rw [if_neg c_51] <;> rfl))), rfl⟩ (Nat.le_of_ble_eq_true rfl) (Nat.le_of_ble_eq_true rfl) dX14_heats_54
    · refine lv_aload_n hx hb dX14_heats_22 rfl (lv_at hl 0 rfl) ?_
      refine lv_iconst (v := 2) hx hb dX14_heats_23 (by decide) ?_
      refine q_cv (va_runV (As := [.int 2]) (rest := []) ⟨hx, hb, hml, hown, hts⟩ (kX14_warn l E (rO E f M r) n M r 2 bb rO_K (by assumption) (by decide) hb9 (by first | assumption | decide)) (cwV 1 hts gX14_heats_X14_warn rfl rfl rfl (by decide +kernel) ⟨(Nat.le_of_ble_eq_true rfl), (Nat.le_of_ble_eq_true rfl)⟩) (q_pV hA hW hS (ci := 12) rfl rO_0) rfl rfl hl.1 rfl (lv_room (Nat.le_of_ble_eq_true rfl)) dX14_heats_24 ⟨Nat.le_of_ble_eq_true rfl, Nat.le_of_ble_eq_true rfl⟩) hS (fun f_24 n_24 H locs hp hW hS => ?_)
      obtain ⟨rfl, rfl⟩ := hp
      have hW : q_W E (rO E f M (rp (rp r 42 ((k_warn 2 ((r 42), bb, (r 111 0))).1)) 111 (fun _ => (k_warn 2 ((r 42), bb, (r 111 0))).2.2))) n H := by rw [rO_rO] at hW; exact hW
      have hW : q_W E (rO E f M (rp (rp r 42 ((k_warn 2 ((r 42), bb, (r 111 0))).1)) 111 (fun _ => (k_warn 2 ((r 42), bb, (r 111 0))).2.2))) n H := hW
      refine lv_iload_n hx hb dX14_heats_27 rfl (lv_at hl 2 rfl) ?_
      refine lv_aload_n hx hb dX14_heats_28 rfl (lv_at hl 0 rfl) ?_
      refine q_ci (va_runV (As := []) (rest := [.int x]) ⟨hx, hb, hml, hown, hts⟩ (kX14_boiling l E (rO E f M (rp (rp r 42 ((k_warn 2 ((r 42), bb, (r 111 0))).1)) 111 (fun _ => (k_warn 2 ((r 42), bb, (r 111 0))).2.2))) n M (rp (rp r 42 ((k_warn 2 ((r 42), bb, (r 111 0))).1)) 111 (fun _ => (k_warn 2 ((r 42), bb, (r 111 0))).2.2)) rO_K) (cwV 0 hts gX14_heats_X14_boiling rfl rfl rfl (by decide +kernel) ⟨(Nat.le_of_ble_eq_true rfl), (Nat.le_of_ble_eq_true rfl)⟩) (q_pV hA hW hS (ci := 12) rfl rO_0) rfl rfl hl.1 rfl (lv_room (Nat.le_of_ble_eq_true rfl)) dX14_heats_29 ⟨Nat.le_of_ble_eq_true rfl, Nat.le_of_ble_eq_true rfl⟩) hS (fun r_29 f_29 n_29 H locs hp hW hS => ?_)
      obtain ⟨rfl, rfl, rfl⟩ := hp
      rw [show z_boil (((rp (rp r 42 ((k_warn 2 ((r 42), bb, (r 111 0))).1)) 111 (fun _ => (k_warn 2 ((r 42), bb, (r 111 0))).2.2)) 42) 0) = z_boil (((k_warn 2 ((r 42), bb, (r 111 0))).1) 0) from rfl]
      have hW : q_W E (rO E f M (rp (rp r 42 ((k_warn 2 ((r 42), bb, (r 111 0))).1)) 111 (fun _ => (k_warn 2 ((r 42), bb, (r 111 0))).2.2))) n H := hW
      rw [show (k_warn 2 (r 42, bb, r 111 0)).1 0 = r 42 0 from z_warn_n (v := r 42) (T := k_T (r 42)) (kd := 2) (q := 0) (by decide) (Or.inl (by decide))]
      refine va_mmin hx hb (hml.trans hl.1.symm) hown (hts (.methodLink RX14 57 Lib.Math.min.name) (by decide +kernel)) (hts (.static Lib.Math.min.name) (by decide +kernel)) (hts (.initialized "java/lang/Math") (by decide +kernel)) (hts (.code Lib.Math.min.name Lib.Math.min.code 2 (some .int)) (by decide +kernel)) (Nat.le_of_ble_eq_true rfl) (Nat.le_of_ble_eq_true rfl) (Nat.le_of_ble_eq_true rfl) (Nat.le_of_ble_eq_true rfl) dX14_heats_32 ?_
      refine lv_istore_n (lv' := [(3, .int (q_min x (z_boil (r 42 0)))), (0, .ref M), (1, .int (nI i)), (2, .int x)]) hx hb dX14_heats_35 rfl hl (by decide) rfl (fun ls hl => ?_)
      refine lv_aload_n hx hb dX14_heats_36 rfl (lv_at hl 1 rfl) ?_
      refine q_get hx hb hts hown hA hW iX14 rO_0 rfl 19 (by decide) (hts (.fieldLink RX14 45 "HighRecipesModel" "now" "[I") (by decide +kernel)) (fun _ h9 => h9) (v := .ref (M + 42)) rfl dX14_heats_37 ?_
      refine lv_iload_n hx hb dX14_heats_40 rfl (lv_at hl 2 rfl) ?_
      refine lv_iconst (v := 2) hx hb dX14_heats_41 (by decide) ?_
      refine q_ci (va_runS (As := [.int (nI i), .int 2]) (rest := [.ref (M + 42)]) ⟨hx, hb, hml, hown, hts⟩ (kX14_of_2 l E (rO E f M (rp (rp r 42 ((k_warn 2 ((r 42), bb, (r 111 0))).1)) 111 (fun _ => (k_warn 2 ((r 42), bb, (r 111 0))).2.2))) n i) (va_cwS 2 hts gX14_heats_X14_of rfl rfl rfl (by decide +kernel) ⟨(Nat.le_of_ble_eq_true rfl), (Nat.le_of_ble_eq_true rfl)⟩) (q_pS hA hW hS) rfl rfl hl.1 rfl (lv_room (Nat.le_of_ble_eq_true rfl)) dX14_heats_42 ⟨Nat.le_of_ble_eq_true rfl, Nat.le_of_ble_eq_true rfl⟩) hS (fun r_42 f_42 n_42 H locs hp hW hS => ?_)
      obtain ⟨rfl, rfl, rfl⟩ := hp
      have hW : q_W E (rO E f M (rp (rp r 42 ((k_warn 2 ((r 42), bb, (r 111 0))).1)) 111 (fun _ => (k_warn 2 ((r 42), bb, (r 111 0))).2.2))) n H := hW
      refine q_ald hx hb hA hW (rO_42 (g := (k_warn 2 ((r 42), bb, (r 111 0))).1) rfl) (54 + 4 * i) rfl (by omega) (by decide) (x := ((k_warn 2 ((r 42), bb, (r 111 0))).1) (54 + 4 * i)) rfl dX14_heats_45 ?_
      refine lv_istore (lv' := [(4, .int (((k_warn 2 ((r 42), bb, (r 111 0))).1) (54 + 4 * i))), (3, .int (q_min x (z_boil (r 42 0)))), (0, .ref M), (1, .int (nI i)), (2, .int x)]) hx hb dX14_heats_46 hl (by decide) rfl (fun ls hl => ?_)
      refine lv_iload hx hb dX14_heats_48 (lv_at hl 0 rfl) ?_
      refine lv_iload_n hx hb dX14_heats_50 rfl (lv_at hl 1 rfl) ?_
      refine lv_icmp_lt (tgt := 55) hx hb dX14_heats_51 (by decide) (fun c_51 => ?_) (fun c_51 => ?_)
      · refine lv_aload_n hx hb dX14_heats_55 rfl (lv_at hl 2 rfl) ?_
        refine q_get hx hb hts hown hA hW iX14 rO_0 rfl 19 (by decide) (hts (.fieldLink RX14 45 "HighRecipesModel" "now" "[I") (by decide +kernel)) (fun _ h9 => h9) (v := .ref (M + 42)) rfl dX14_heats_56 ?_
        refine lv_iload_n hx hb dX14_heats_59 rfl (lv_at hl 3 rfl) ?_
        refine lv_iconst (v := 2) hx hb dX14_heats_60 (by decide) ?_
        refine q_ci (va_runS (As := [.int (nI i), .int 2]) (rest := [.ref (M + 42)]) ⟨hx, hb, hml, hown, hts⟩ (kX14_of_2 l E (rO E f M (rp (rp r 42 ((k_warn 2 ((r 42), bb, (r 111 0))).1)) 111 (fun _ => (k_warn 2 ((r 42), bb, (r 111 0))).2.2))) n i) (va_cwS 2 hts gX14_heats_X14_of rfl rfl rfl (by decide +kernel) ⟨(Nat.le_of_ble_eq_true rfl), (Nat.le_of_ble_eq_true rfl)⟩) (q_pS hA hW hS) rfl rfl hl.1 rfl (lv_room (Nat.le_of_ble_eq_true rfl)) dX14_heats_61 ⟨Nat.le_of_ble_eq_true rfl, Nat.le_of_ble_eq_true rfl⟩) hS (fun r_61 f_61 n_61 H locs hp hW hS => ?_)
        obtain ⟨rfl, rfl, rfl⟩ := hp
        have hW : q_W E (rO E f M (rp (rp r 42 ((k_warn 2 ((r 42), bb, (r 111 0))).1)) 111 (fun _ => (k_warn 2 ((r 42), bb, (r 111 0))).2.2))) n H := hW
        refine lv_iload_n hx hb dX14_heats_64 rfl (lv_at hl 1 rfl) ?_
        refine q_ast hx hb hA hW hS (rO_42 (g := (k_warn 2 ((r 42), bb, (r 111 0))).1) rfl) (54 + 4 * i) rfl (by omega) (by decide) dX14_heats_65 (fun H locs hW hS => ?_)
        have hW := q_sa 42 hW rfl rfl
        rw [rp_d1] at hW
        refine lv_aload_n hx hb dX14_heats_66 rfl (lv_at hl 2 rfl) ?_
        refine lv_iload_n hx hb dX14_heats_67 rfl (lv_at hl 1 rfl) ?_
        refine lv_iload hx hb dX14_heats_68 (lv_at hl 0 rfl) ?_
        refine lv_isub hx hb dX14_heats_70 ?_
        refine lv_bipush (v := 9) hx hb dX14_heats_71 (by decide) ?_
        refine lv_iadd hx hb dX14_heats_73 ?_
        refine lv_bipush (v := 10) hx hb dX14_heats_74 (by decide) ?_
        refine lv_idiv hx hb dX14_heats_76 (by decide) ?_
        refine lv_iload_n hx hb dX14_heats_77 rfl (lv_at hl 3 rfl) ?_
        refine q_cv (va_runV (As := [.int ((((q_min x (z_boil (r 42 0))) - (((k_warn 2 ((r 42), bb, (r 111 0))).1) (54 + 4 * i))) + 9) / 10), .int (nI i)]) (rest := []) ⟨hx, hb, hml, hown, hts⟩ (kX14_goBy l E (rO E f M (rp (rp r 111 (fun _ => (k_warn 2 ((r 42), bb, (r 111 0))).2.2)) 42 (upd ((k_warn 2 ((r 42), bb, (r 111 0))).1) (54 + 4 * i) (q_min x (z_boil (r 42 0)))))) n M (rp (rp r 111 (fun _ => (k_warn 2 ((r 42), bb, (r 111 0))).2.2)) 42 (upd ((k_warn 2 ((r 42), bb, (r 111 0))).1) (54 + 4 * i) (q_min x (z_boil (r 42 0))))) pn ((((q_min x (z_boil (r 42 0))) - (((k_warn 2 ((r 42), bb, (r 111 0))).1) (54 + 4 * i))) + 9) / 10) i rO_K hpn9 (by assumption) (by omega)) (cwV 2 hts gX14_heats_X14_goBy rfl rfl rfl (by decide +kernel) ⟨(Nat.le_of_ble_eq_true rfl), (Nat.le_of_ble_eq_true rfl)⟩) (q_pV hA hW hS (ci := 12) rfl rO_0) rfl rfl hl.1 rfl (lv_room (Nat.le_of_ble_eq_true rfl)) dX14_heats_78 ⟨Nat.le_of_ble_eq_true rfl, Nat.le_of_ble_eq_true rfl⟩) hS (fun f_78 n_78 H locs hp hW hS => ?_)
        obtain ⟨rfl, rfl⟩ := hp
        have hW : q_W E (rO E f M (rp (rp (rp r 111 (fun _ => (k_warn 2 ((r 42), bb, (r 111 0))).2.2)) 42 (upd ((k_warn 2 ((r 42), bb, (r 111 0))).1) (54 + 4 * i) (q_min x (z_boil (r 42 0))))) 42 (z_pass (upd ((k_warn 2 ((r 42), bb, (r 111 0))).1) (54 + 4 * i) (q_min x (z_boil (r 42 0)))) ((((q_min x (z_boil (r 42 0))) - (((k_warn 2 ((r 42), bb, (r 111 0))).1) (54 + 4 * i))) + 9) / 10) i pn))) n H := by rw [rO_rO] at hW; exact hW
        rw [rp_d0] at hW
        have hW : q_W E (rO E f M (rp (rp r 111 (fun _ => (k_warn 2 ((r 42), bb, (r 111 0))).2.2)) 42 (z_pass (upd ((k_warn 2 ((r 42), bb, (r 111 0))).1) (54 + 4 * i) (q_min x (z_boil (r 42 0)))) ((((q_min x (z_boil (r 42 0))) - (((k_warn 2 ((r 42), bb, (r 111 0))).1) (54 + 4 * i))) + 9) / 10) i pn))) n H := hW
        have hW := q_rr 42 (g := z_pass (upd ((k_warn 2 ((r 42), bb, (r 111 0))).1) (54 + 4 * i) (q_min x (z_boil (r 42 0)))) ((((q_min x (z_boil (r 42 0))) - (((k_warn 2 ((r 42), bb, (r 111 0))).1) (54 + 4 * i))) + 9) / 10) i pn) hW rfl
        rw [rp_d0] at hW
        have hW := q_sc 110 (x := nI bb) hW hb9 (by decide)
        have hW := q_sc 111 (x := (k_warn 2 ((r 42), bb, (r 111 0))).2.2) hW rfl (by decide)
        rw [rp_d2] at hW
        exact q_vret hx hb hr hlocks hW hS ⟨(congrArg (fun z : q_KS => rO E f M (r_ks r z)) (show (k_heat pn i (fun _ _ => x) (r 9) ((r 42), bb, (r 111 0))) = (z_pass (upd ((k_warn 2 ((r 42), bb, (r 111 0))).1) (54 + 4 * i) (q_min x (z_boil (r 42 0)))) ((((q_min x (z_boil (r 42 0))) - (((k_warn 2 ((r 42), bb, (r 111 0))).1) (54 + 4 * i))) + 9) / 10) i pn, bb, (k_warn 2 ((r 42), bb, (r 111 0))).2.2) from (by show k_heat pn i (fun _ _ => x) (r 9) (r 42, bb, r 111 0) = _; unfold k_heat; rw [if_neg c_5]; unfold k_heat1; rw [if_pos (Int32.not_le.mp c_19)]; unfold k_heat2; rw [if_pos c_51]; unfold k_pass; congr 2; exact z_pan_u (z_un (by omega)) (z_un (by omega)) z_us (z_un (by omega)) (fun q hq => z_un (by omega))))), rfl⟩ (Nat.le_of_ble_eq_true rfl) (Nat.le_of_ble_eq_true rfl) dX14_heats_81
      · have hW := q_rr 42 (g := (k_warn 2 ((r 42), bb, (r 111 0))).1) hW rfl
        rw [rp_d1] at hW
        have hW := q_sc 110 (x := nI bb) hW hb9 (by decide)
        have hW := q_sc 111 (x := (k_warn 2 ((r 42), bb, (r 111 0))).2.2) hW rfl (by decide)
        rw [rp_d2] at hW
        exact q_vret hx hb hr hlocks hW hS ⟨(congrArg (fun z : q_KS => rO E f M (r_ks r z)) (show (k_heat pn i (fun _ _ => x) (r 9) ((r 42), bb, (r 111 0))) = ((k_warn 2 ((r 42), bb, (r 111 0))).1, bb, (k_warn 2 ((r 42), bb, (r 111 0))).2.2) from (by show k_heat pn i (fun _ _ => x) (r 9) (r 42, bb, r 111 0) = _; unfold k_heat; rw [if_neg c_5]; unfold k_heat1; rw [if_pos (Int32.not_le.mp c_19)]; unfold k_heat2; rw [if_neg c_51] <;> rfl))), rfl⟩ (Nat.le_of_ble_eq_true rfl) (Nat.le_of_ble_eq_true rfl) dX14_heats_54
  · refine lv_aload_n hx hb dX14_heats_8 rfl (lv_at hl 0 rfl) ?_
    refine lv_iconst (v := 3) hx hb dX14_heats_9 (by decide) ?_
    refine q_cv (va_runV (As := [.int 3]) (rest := []) ⟨hx, hb, hml, hown, hts⟩ (kX14_warn l E (rO E f M r) n M r 3 bb rO_K (by assumption) (by decide) hb9 (by first | assumption | decide)) (cwV 1 hts gX14_heats_X14_warn rfl rfl rfl (by decide +kernel) ⟨(Nat.le_of_ble_eq_true rfl), (Nat.le_of_ble_eq_true rfl)⟩) (q_pV hA hW hS (ci := 12) rfl rO_0) rfl rfl hl.1 rfl (lv_room (Nat.le_of_ble_eq_true rfl)) dX14_heats_10 ⟨Nat.le_of_ble_eq_true rfl, Nat.le_of_ble_eq_true rfl⟩) hS (fun f_10 n_10 H locs hp hW hS => ?_)
    obtain ⟨rfl, rfl⟩ := hp
    have hW : q_W E (rO E f M (rp (rp r 42 ((k_warn 3 ((r 42), bb, (r 111 0))).1)) 111 (fun _ => (k_warn 3 ((r 42), bb, (r 111 0))).2.2))) n H := by rw [rO_rO] at hW; exact hW
    have hW : q_W E (rO E f M (rp (rp r 42 ((k_warn 3 ((r 42), bb, (r 111 0))).1)) 111 (fun _ => (k_warn 3 ((r 42), bb, (r 111 0))).2.2))) n H := hW
    have hW := q_rr 42 (g := (k_warn 3 ((r 42), bb, (r 111 0))).1) hW rfl
    rw [rp_d1] at hW
    have hW := q_sc 110 (x := nI bb) hW hb9 (by decide)
    have hW := q_sc 111 (x := (k_warn 3 ((r 42), bb, (r 111 0))).2.2) hW rfl (by decide)
    rw [rp_d2] at hW
    exact q_vret hx hb hr hlocks hW hS ⟨(congrArg (fun z : q_KS => rO E f M (r_ks r z)) (show (k_heat pn i (fun _ _ => x) (r 9) ((r 42), bb, (r 111 0))) = ((k_warn 3 ((r 42), bb, (r 111 0))).1, bb, (k_warn 3 ((r 42), bb, (r 111 0))).2.2) from (by show k_heat pn i (fun _ _ => x) (r 9) (r 42, bb, r 111 0) = _; unfold k_heat; rw [if_pos c_5]; rfl))), rfl⟩ (Nat.le_of_ble_eq_true rfl) (Nat.le_of_ble_eq_true rfl) dX14_heats_13

set_option maxHeartbeats 4000000 in
set_option maxRecDepth 100000 in
theorem kX14_boils_ (l : Launch) (E : q_E) (f : q_H) (n : Nat) (M : Nat) (r : q_R) (pn bb : Nat) (i : Nat) (x : Int32)  (hm : RM E f M r) (hpn9 : (r 120 0) = nI pn) (hpn : pn ≤ 8) (hb9 : (r 110 0) = nI bb) (hw : (r 111 0) = -1 ∨ ¬ (r 111 0) < 0) (hok : k_ok (r 42)) (hvo : v_ok pn (r 9) (r 42)) (hi : i < pn) : Met l yX14_boils_ wsX14_boils_ ({ frames := 3, cells := 0, slots := 0, locals := 61 }) (q_P E [.ref M, .int (nI i), .int x] f n) (q_Qv E (fun f1 n1 => rO E f M (r_ks r (k_boil pn i (fun _ _ => x) (r 9) ((r 42), bb, (r 111 0)))) = f1 ∧ n = n1)) 0 0 (q_ge E) := by
  refine Met.ofW (cc := cX14_boils_) (maxL := 5) (ret := none) (by decide) rfl ?_
  intro p e s m args below meth c s₁ B hml hv
  obtain ⟨rfl, hA, hW⟩ := hv
  have hx := B.exec
  have hb := B.bytes
  have hr := B.returns
  have hts := atoms_spec (ws := wsX14_boils_) B.pre
  have hown : s.vm.findClass RX14 = some m.cls := findClass_of_methodNamed B.named
  have hlocks := B.notSynchronized
  have hS : va_S (q_ge E) s.heap s.heap [] := va_S.rf
  have iX14 : ∀ w ∈ wsX140, w ∈ wsX14_boils_ := by decide +kernel
  have hl := lv_entry ([.ref M, .int (nI i), .int x]) (n := 5) (Nat.le_of_ble_eq_true rfl)
  rw [lg_entry_eq]
  generalize (lg_sl ([.ref M, .int (nI i), .int x]) ++ List.replicate (5 - (lg_sl ([.ref M, .int (nI i), .int x])).length) Slot.unset).toArray = ls at hl ⊢
  have hl : lv_has ls 5 [(0, .ref M), (1, .int (nI i)), (2, .int x)] := hl
  have hmE := hm.eq
  rw [hm.eq] at hW
  refine lv_aload_n hx hb dX14_boils__0 rfl (lv_at hl 0 rfl) ?_
  refine q_get hx hb hts hown hA hW iX14 rO_0 rfl 19 (by decide) (hts (.fieldLink RX14 45 "HighRecipesModel" "now" "[I") (by decide +kernel)) (fun _ h9 => h9) (v := .ref (M + 42)) rfl dX14_boils__1 ?_
  refine lv_iload_n hx hb dX14_boils__4 rfl (lv_at hl 1 rfl) ?_
  refine lv_iconst (v := 0) hx hb dX14_boils__5 (by decide) ?_
  refine q_ci (va_runS (As := [.int (nI i), .int 0]) (rest := [.ref (M + 42)]) ⟨hx, hb, hml, hown, hts⟩ (kX14_of_0 l E (rO E f M r) n i) (va_cwS 2 hts gX14_boils__X14_of rfl rfl rfl (by decide +kernel) ⟨(Nat.le_of_ble_eq_true rfl), (Nat.le_of_ble_eq_true rfl)⟩) (q_pS hA hW hS) rfl rfl hl.1 rfl (lv_room (Nat.le_of_ble_eq_true rfl)) dX14_boils__6 ⟨Nat.le_of_ble_eq_true rfl, Nat.le_of_ble_eq_true rfl⟩) hS (fun r_6 f_6 n_6 H locs hp hW hS => ?_)
  obtain ⟨rfl, rfl, rfl⟩ := hp
  have hW : q_W E (rO E f M r) n H := hW
  refine q_ald hx hb hA hW (rO_42 (g := r 42) rfl) (52 + 4 * i) rfl (by omega) (by decide) (x := (r 42) (52 + 4 * i)) rfl dX14_boils__9 ?_
  refine lv_istore_n (lv' := [(3, .int ((r 42) (52 + 4 * i))), (0, .ref M), (1, .int (nI i)), (2, .int x)]) hx hb dX14_boils__10 rfl hl (by decide) rfl (fun ls hl => ?_)
  refine lv_iload_n hx hb dX14_boils__11 rfl (lv_at hl 0 rfl) ?_
  refine lv_if_eq (tgt := 32) hx hb dX14_boils__12 (by decide) (fun c_12 => ?_) (fun c_12 => ?_)
  · refine lv_aload_n hx hb dX14_boils__32 rfl (lv_at hl 1 rfl) ?_
    refine lv_iconst (v := 4) hx hb dX14_boils__33 (by decide) ?_
    refine q_cv (va_runV (As := [.int 4]) (rest := []) ⟨hx, hb, hml, hown, hts⟩ (kX14_warn l E (rO E f M r) n M r 4 bb rO_K (by assumption) (by decide) hb9 (by first | assumption | decide)) (cwV 1 hts gX14_boils__X14_warn rfl rfl rfl (by decide +kernel) ⟨(Nat.le_of_ble_eq_true rfl), (Nat.le_of_ble_eq_true rfl)⟩) (q_pV hA hW hS (ci := 12) rfl rO_0) rfl rfl hl.1 rfl (lv_room (Nat.le_of_ble_eq_true rfl)) dX14_boils__34 ⟨Nat.le_of_ble_eq_true rfl, Nat.le_of_ble_eq_true rfl⟩) hS (fun f_34 n_34 H locs hp hW hS => ?_)
    obtain ⟨rfl, rfl⟩ := hp
    have hW : q_W E (rO E f M (rp (rp r 42 ((k_warn 4 ((r 42), bb, (r 111 0))).1)) 111 (fun _ => (k_warn 4 ((r 42), bb, (r 111 0))).2.2))) n H := by rw [rO_rO] at hW; exact hW
    have hW : q_W E (rO E f M (rp (rp r 42 ((k_warn 4 ((r 42), bb, (r 111 0))).1)) 111 (fun _ => (k_warn 4 ((r 42), bb, (r 111 0))).2.2))) n H := hW
    have hW := q_rr 42 (g := (k_warn 4 ((r 42), bb, (r 111 0))).1) hW rfl
    rw [rp_d1] at hW
    have hW := q_sc 110 (x := nI bb) hW hb9 (by decide)
    have hW := q_sc 111 (x := (k_warn 4 ((r 42), bb, (r 111 0))).2.2) hW rfl (by decide)
    rw [rp_d2] at hW
    exact q_vret hx hb hr hlocks hW hS ⟨(congrArg (fun z : q_KS => rO E f M (r_ks r z)) (show (k_boil pn i (fun _ _ => x) (r 9) ((r 42), bb, (r 111 0))) = ((k_warn 4 ((r 42), bb, (r 111 0))).1, bb, (k_warn 4 ((r 42), bb, (r 111 0))).2.2) from (by show k_boil pn i (fun _ _ => x) (r 9) (r 42, bb, r 111 0) = _; unfold k_boil; rw [if_pos (Or.inl c_12)]; rfl))), rfl⟩ (Nat.le_of_ble_eq_true rfl) (Nat.le_of_ble_eq_true rfl) dX14_boils__37
  · refine lv_aload_n hx hb dX14_boils__15 rfl (lv_at hl 1 rfl) ?_
    refine q_get hx hb hts hown hA hW iX14 rO_0 rfl 19 (by decide) (hts (.fieldLink RX14 45 "HighRecipesModel" "now" "[I") (by decide +kernel)) (fun _ h9 => h9) (v := .ref (M + 42)) rfl dX14_boils__16 ?_
    refine lv_iload_n hx hb dX14_boils__19 rfl (lv_at hl 2 rfl) ?_
    refine lv_iconst (v := 2) hx hb dX14_boils__20 (by decide) ?_
    refine q_ci (va_runS (As := [.int (nI i), .int 2]) (rest := [.ref (M + 42)]) ⟨hx, hb, hml, hown, hts⟩ (kX14_of_2 l E (rO E f M r) n i) (va_cwS 2 hts gX14_boils__X14_of rfl rfl rfl (by decide +kernel) ⟨(Nat.le_of_ble_eq_true rfl), (Nat.le_of_ble_eq_true rfl)⟩) (q_pS hA hW hS) rfl rfl hl.1 rfl (lv_room (Nat.le_of_ble_eq_true rfl)) dX14_boils__21 ⟨Nat.le_of_ble_eq_true rfl, Nat.le_of_ble_eq_true rfl⟩) hS (fun r_21 f_21 n_21 H locs hp hW hS => ?_)
    obtain ⟨rfl, rfl, rfl⟩ := hp
    have hW : q_W E (rO E f M r) n H := hW
    refine q_ald hx hb hA hW (rO_42 (g := r 42) rfl) (54 + 4 * i) rfl (by omega) (by decide) (x := (r 42) (54 + 4 * i)) rfl dX14_boils__24 ?_
    refine lv_aload_n hx hb dX14_boils__25 rfl (lv_at hl 1 rfl) ?_
    refine q_ci (va_runV (As := []) (rest := [.int ((r 42) (54 + 4 * i))]) ⟨hx, hb, hml, hown, hts⟩ (kX14_boiling l E (rO E f M r) n M r rO_K) (cwV 0 hts gX14_boils__X14_boiling rfl rfl rfl (by decide +kernel) ⟨(Nat.le_of_ble_eq_true rfl), (Nat.le_of_ble_eq_true rfl)⟩) (q_pV hA hW hS (ci := 12) rfl rO_0) rfl rfl hl.1 rfl (lv_room (Nat.le_of_ble_eq_true rfl)) dX14_boils__26 ⟨Nat.le_of_ble_eq_true rfl, Nat.le_of_ble_eq_true rfl⟩) hS (fun r_26 f_26 n_26 H locs hp hW hS => ?_)
    obtain ⟨rfl, rfl, rfl⟩ := hp
    have hW : q_W E (rO E f M r) n H := hW
    refine lv_icmp_ge (tgt := 38) hx hb dX14_boils__29 (by decide) (fun c_29 => ?_) (fun c_29 => ?_)
    · have h12 : ¬ (r 42 (52 + 4 * i) = 0 ∨ r 42 (54 + 4 * i) < z_boil (r 42 0)) := fun h9 => h9.elim c_12 (Int32.not_lt.mpr c_29)
      refine lv_iload_n hx hb dX14_boils__38 rfl (lv_at hl 3 rfl) ?_
      refine lv_iconst (v := 0) hx hb dX14_boils__39 (by decide) ?_
      refine lv_sipush (v := 999) hx hb dX14_boils__40 (by decide) ?_
      refine q_ci (va_runS (As := [.int x, .int 0, .int 999]) (rest := []) ⟨hx, hb, hml, hown, hts⟩ (kX14_held l E (rO E f M r) n x 0 999) (va_cwS 3 hts gX14_boils__X14_held rfl rfl rfl (by decide +kernel) ⟨(Nat.le_of_ble_eq_true rfl), (Nat.le_of_ble_eq_true rfl)⟩) (q_pS hA hW hS) rfl rfl hl.1 rfl (lv_room (Nat.le_of_ble_eq_true rfl)) dX14_boils__43 ⟨Nat.le_of_ble_eq_true rfl, Nat.le_of_ble_eq_true rfl⟩) hS (fun r_43 f_43 n_43 H locs hp hW hS => ?_)
      obtain ⟨rfl, rfl, rfl⟩ := hp
      have hW : q_W E (rO E f M r) n H := hW
      refine lv_aload_n hx hb dX14_boils__46 rfl (lv_at hl 1 rfl) ?_
      refine q_get hx hb hts hown hA hW iX14 rO_0 rfl 19 (by decide) (hts (.fieldLink RX14 45 "HighRecipesModel" "now" "[I") (by decide +kernel)) (fun _ h9 => h9) (v := .ref (M + 42)) rfl dX14_boils__47 ?_
      refine lv_iconst (v := 0) hx hb dX14_boils__50 (by decide) ?_
      refine q_ald hx hb hA hW (rO_42 (g := r 42) rfl) 0 rfl (by decide) (by decide) (x := (r 42) 0) rfl dX14_boils__51 ?_
      refine q_ci (va_runS (As := [.int (q_clamp x 0 999), .int ((r 42) 0)]) (rest := []) ⟨hx, hb, hml, hown, hts⟩ (kX14_longer l E (rO E f M r) n (q_clamp x 0 999) ((r 42) 0)) (va_cwS 2 hts gX14_boils__X14_longer rfl rfl rfl (by decide +kernel) ⟨(Nat.le_of_ble_eq_true rfl), (Nat.le_of_ble_eq_true rfl)⟩) (q_pS hA hW hS) rfl rfl hl.1 rfl (lv_room (Nat.le_of_ble_eq_true rfl)) dX14_boils__52 ⟨Nat.le_of_ble_eq_true rfl, Nat.le_of_ble_eq_true rfl⟩) hS (fun r_52 f_52 n_52 H locs hp hW hS => ?_)
      obtain ⟨rfl, rfl, rfl⟩ := hp
      have hW : q_W E (rO E f M r) n H := hW
      refine lv_istore (lv' := [(4, .int (z_long (q_clamp x 0 999) ((r 42) 0))), (3, .int ((r 42) (52 + 4 * i))), (0, .ref M), (1, .int (nI i)), (2, .int x)]) hx hb dX14_boils__55 hl (by decide) rfl (fun ls hl => ?_)
      refine lv_iload hx hb dX14_boils__57 (lv_at hl 0 rfl) ?_
      refine lv_iconst (v := 5) hx hb dX14_boils__59 (by decide) ?_
      refine lv_iload_n hx hb dX14_boils__60 rfl (lv_at hl 1 rfl) ?_
      refine lv_imul hx hb dX14_boils__61 ?_
      refine lv_icmp_le (tgt := 70) hx hb dX14_boils__62 (by decide) (fun c_62 => ?_) (fun c_62 => ?_)
      · refine lv_iload hx hb dX14_boils__70 (lv_at hl 0 rfl) ?_
        refine lv_iconst (v := 5) hx hb dX14_boils__72 (by decide) ?_
        refine lv_iload_n hx hb dX14_boils__73 rfl (lv_at hl 1 rfl) ?_
        refine lv_imul hx hb dX14_boils__74 ?_
        refine va_mmin hx hb (hml.trans hl.1.symm) hown (hts (.methodLink RX14 57 Lib.Math.min.name) (by decide +kernel)) (hts (.static Lib.Math.min.name) (by decide +kernel)) (hts (.initialized "java/lang/Math") (by decide +kernel)) (hts (.code Lib.Math.min.name Lib.Math.min.code 2 (some .int)) (by decide +kernel)) (Nat.le_of_ble_eq_true rfl) (Nat.le_of_ble_eq_true rfl) (Nat.le_of_ble_eq_true rfl) (Nat.le_of_ble_eq_true rfl) dX14_boils__75 ?_
        refine lv_istore (lv' := [(4, .int (q_min (z_long (q_clamp x 0 999) ((r 42) 0)) (5 * ((r 42) (52 + 4 * i))))), (3, .int ((r 42) (52 + 4 * i))), (0, .ref M), (1, .int (nI i)), (2, .int x)]) hx hb dX14_boils__78 hl (by decide) rfl (fun ls hl => ?_)
        refine lv_aload_n hx hb dX14_boils__80 rfl (lv_at hl 2 rfl) ?_
        refine q_get hx hb hts hown hA hW iX14 rO_0 rfl 19 (by decide) (hts (.fieldLink RX14 45 "HighRecipesModel" "now" "[I") (by decide +kernel)) (fun _ h9 => h9) (v := .ref (M + 42)) rfl dX14_boils__81 ?_
        refine lv_iload_n hx hb dX14_boils__84 rfl (lv_at hl 3 rfl) ?_
        refine lv_iconst (v := 0) hx hb dX14_boils__85 (by decide) ?_
        refine q_ci (va_runS (As := [.int (nI i), .int 0]) (rest := [.ref (M + 42)]) ⟨hx, hb, hml, hown, hts⟩ (kX14_of_0 l E (rO E f M r) n i) (va_cwS 2 hts gX14_boils__X14_of rfl rfl rfl (by decide +kernel) ⟨(Nat.le_of_ble_eq_true rfl), (Nat.le_of_ble_eq_true rfl)⟩) (q_pS hA hW hS) rfl rfl hl.1 rfl (lv_room (Nat.le_of_ble_eq_true rfl)) dX14_boils__86 ⟨Nat.le_of_ble_eq_true rfl, Nat.le_of_ble_eq_true rfl⟩) hS (fun r_86 f_86 n_86 H locs hp hW hS => ?_)
        obtain ⟨rfl, rfl, rfl⟩ := hp
        have hW : q_W E (rO E f M r) n H := hW
        refine lv_dup2_11 hx hb dX14_boils__89 rfl rfl ?_
        refine q_ald hx hb hA hW (rO_42 (g := r 42) rfl) (52 + 4 * i) rfl (by omega) (by decide) (x := (r 42) (52 + 4 * i)) rfl dX14_boils__90 ?_
        refine lv_iload hx hb dX14_boils__91 (lv_at hl 0 rfl) ?_
        refine lv_iconst (v := 5) hx hb dX14_boils__93 (by decide) ?_
        refine lv_idiv hx hb dX14_boils__94 (by decide) ?_
        refine lv_isub hx hb dX14_boils__95 ?_
        refine q_ast hx hb hA hW hS (rO_42 (g := r 42) rfl) (52 + 4 * i) rfl (by omega) (by decide) dX14_boils__96 (fun H locs hW hS => ?_)
        have hW := q_sa 42 hW rfl rfl
        refine lv_aload_n hx hb dX14_boils__97 rfl (lv_at hl 2 rfl) ?_
        refine q_get hx hb hts hown hA hW iX14 rO_0 rfl 19 (by decide) (hts (.fieldLink RX14 45 "HighRecipesModel" "now" "[I") (by decide +kernel)) (fun _ h9 => h9) (v := .ref (M + 42)) rfl dX14_boils__98 ?_
        refine lv_iload_n hx hb dX14_boils__101 rfl (lv_at hl 3 rfl) ?_
        refine lv_iconst (v := 1) hx hb dX14_boils__102 (by decide) ?_
        refine q_ci (va_runS (As := [.int (nI i), .int 1]) (rest := [.ref (M + 42)]) ⟨hx, hb, hml, hown, hts⟩ (kX14_of_1 l E (rO E f M (rp r 42 (upd (r 42) (52 + 4 * i) (((r 42) (52 + 4 * i)) - ((q_min (z_long (q_clamp x 0 999) ((r 42) 0)) (5 * ((r 42) (52 + 4 * i)))) / 5))))) n i) (va_cwS 2 hts gX14_boils__X14_of rfl rfl rfl (by decide +kernel) ⟨(Nat.le_of_ble_eq_true rfl), (Nat.le_of_ble_eq_true rfl)⟩) (q_pS hA hW hS) rfl rfl hl.1 rfl (lv_room (Nat.le_of_ble_eq_true rfl)) dX14_boils__103 ⟨Nat.le_of_ble_eq_true rfl, Nat.le_of_ble_eq_true rfl⟩) hS (fun r_103 f_103 n_103 H locs hp hW hS => ?_)
        obtain ⟨rfl, rfl, rfl⟩ := hp
        have hW : q_W E (rO E f M (rp r 42 (upd (r 42) (52 + 4 * i) (((r 42) (52 + 4 * i)) - ((q_min (z_long (q_clamp x 0 999) ((r 42) 0)) (5 * ((r 42) (52 + 4 * i)))) / 5))))) n H := hW
        refine q_ald hx hb hA hW (rO_42 (g := upd (r 42) (52 + 4 * i) (((r 42) (52 + 4 * i)) - ((q_min (z_long (q_clamp x 0 999) ((r 42) 0)) (5 * ((r 42) (52 + 4 * i)))) / 5))) rfl) (53 + 4 * i) rfl (by omega) (by decide) (x := (r 42) (53 + 4 * i)) (z_un (by omega)) dX14_boils__106 ?_
        refine lv_if_le (tgt := 151) hx hb dX14_boils__107 (by decide) (fun c_107 => ?_) (fun c_107 => ?_)
        · refine lv_aload_n hx hb dX14_boils__151 rfl (lv_at hl 2 rfl) ?_
          refine q_get hx hb hts hown hA hW iX14 rO_0 rfl 19 (by decide) (hts (.fieldLink RX14 45 "HighRecipesModel" "now" "[I") (by decide +kernel)) (fun _ h9 => h9) (v := .ref (M + 42)) rfl dX14_boils__152 ?_
          refine lv_iload_n hx hb dX14_boils__155 rfl (lv_at hl 3 rfl) ?_
          refine lv_iconst (v := 2) hx hb dX14_boils__156 (by decide) ?_
          refine q_ci (va_runS (As := [.int (nI i), .int 2]) (rest := [.ref (M + 42)]) ⟨hx, hb, hml, hown, hts⟩ (kX14_of_2 l E (rO E f M (rp r 42 (upd (r 42) (52 + 4 * i) (((r 42) (52 + 4 * i)) - ((q_min (z_long (q_clamp x 0 999) ((r 42) 0)) (5 * ((r 42) (52 + 4 * i)))) / 5))))) n i) (va_cwS 2 hts gX14_boils__X14_of rfl rfl rfl (by decide +kernel) ⟨(Nat.le_of_ble_eq_true rfl), (Nat.le_of_ble_eq_true rfl)⟩) (q_pS hA hW hS) rfl rfl hl.1 rfl (lv_room (Nat.le_of_ble_eq_true rfl)) dX14_boils__157 ⟨Nat.le_of_ble_eq_true rfl, Nat.le_of_ble_eq_true rfl⟩) hS (fun r_157 f_157 n_157 H locs hp hW hS => ?_)
          obtain ⟨rfl, rfl, rfl⟩ := hp
          have hW : q_W E (rO E f M (rp r 42 (upd (r 42) (52 + 4 * i) (((r 42) (52 + 4 * i)) - ((q_min (z_long (q_clamp x 0 999) ((r 42) 0)) (5 * ((r 42) (52 + 4 * i)))) / 5))))) n H := hW
          refine lv_aload_n hx hb dX14_boils__160 rfl (lv_at hl 2 rfl) ?_
          refine q_ci (va_runV (As := []) (rest := [.int (nI (54 + 4 * i)), .ref (M + 42)]) ⟨hx, hb, hml, hown, hts⟩ (kX14_boiling l E (rO E f M (rp r 42 (upd (r 42) (52 + 4 * i) (((r 42) (52 + 4 * i)) - ((q_min (z_long (q_clamp x 0 999) ((r 42) 0)) (5 * ((r 42) (52 + 4 * i)))) / 5))))) n M (rp r 42 (upd (r 42) (52 + 4 * i) (((r 42) (52 + 4 * i)) - ((q_min (z_long (q_clamp x 0 999) ((r 42) 0)) (5 * ((r 42) (52 + 4 * i)))) / 5)))) rO_K) (cwV 0 hts gX14_boils__X14_boiling rfl rfl rfl (by decide +kernel) ⟨(Nat.le_of_ble_eq_true rfl), (Nat.le_of_ble_eq_true rfl)⟩) (q_pV hA hW hS (ci := 12) rfl rO_0) rfl rfl hl.1 rfl (lv_room (Nat.le_of_ble_eq_true rfl)) dX14_boils__161 ⟨Nat.le_of_ble_eq_true rfl, Nat.le_of_ble_eq_true rfl⟩) hS (fun r_161 f_161 n_161 H locs hp hW hS => ?_)
          obtain ⟨rfl, rfl, rfl⟩ := hp
          rw [show z_boil (((rp r 42 (upd (r 42) (52 + 4 * i) (((r 42) (52 + 4 * i)) - ((q_min (z_long (q_clamp x 0 999) ((r 42) 0)) (5 * ((r 42) (52 + 4 * i)))) / 5)))) 42) 0) = z_boil ((upd (r 42) (52 + 4 * i) (((r 42) (52 + 4 * i)) - ((q_min (z_long (q_clamp x 0 999) ((r 42) 0)) (5 * ((r 42) (52 + 4 * i)))) / 5))) 0) from rfl]
          have hW : q_W E (rO E f M (rp r 42 (upd (r 42) (52 + 4 * i) (((r 42) (52 + 4 * i)) - ((q_min (z_long (q_clamp x 0 999) ((r 42) 0)) (5 * ((r 42) (52 + 4 * i)))) / 5))))) n H := hW
          rw [show (upd (r 42) (52 + 4 * i) (((r 42) (52 + 4 * i)) - ((q_min (z_long (q_clamp x 0 999) ((r 42) 0)) (5 * ((r 42) (52 + 4 * i)))) / 5))) 0 = (r 42) 0 from (z_un (by omega))]
          refine q_ast hx hb hA hW hS (rO_42 (g := upd (r 42) (52 + 4 * i) (((r 42) (52 + 4 * i)) - ((q_min (z_long (q_clamp x 0 999) ((r 42) 0)) (5 * ((r 42) (52 + 4 * i)))) / 5))) rfl) (54 + 4 * i) rfl (by omega) (by decide) dX14_boils__164 (fun H locs hW hS => ?_)
          have hW := q_sa 42 hW rfl rfl
          rw [rp_d0] at hW
          refine lv_aload_n hx hb dX14_boils__165 rfl (lv_at hl 2 rfl) ?_
          refine lv_iload hx hb dX14_boils__166 (lv_at hl 0 rfl) ?_
          refine lv_iload_n hx hb dX14_boils__168 rfl (lv_at hl 3 rfl) ?_
          refine q_cv (va_runV (As := [.int (q_min (z_long (q_clamp x 0 999) ((r 42) 0)) (5 * ((r 42) (52 + 4 * i)))), .int (nI i)]) (rest := []) ⟨hx, hb, hml, hown, hts⟩ (kX14_goBy l E (rO E f M (rp r 42 (upd (upd (r 42) (52 + 4 * i) (((r 42) (52 + 4 * i)) - ((q_min (z_long (q_clamp x 0 999) ((r 42) 0)) (5 * ((r 42) (52 + 4 * i)))) / 5))) (54 + 4 * i) (z_boil ((r 42) 0))))) n M (rp r 42 (upd (upd (r 42) (52 + 4 * i) (((r 42) (52 + 4 * i)) - ((q_min (z_long (q_clamp x 0 999) ((r 42) 0)) (5 * ((r 42) (52 + 4 * i)))) / 5))) (54 + 4 * i) (z_boil ((r 42) 0)))) pn (q_min (z_long (q_clamp x 0 999) ((r 42) 0)) (5 * ((r 42) (52 + 4 * i)))) i rO_K hpn9 (by assumption) (by omega)) (cwV 2 hts gX14_boils__X14_goBy rfl rfl rfl (by decide +kernel) ⟨(Nat.le_of_ble_eq_true rfl), (Nat.le_of_ble_eq_true rfl)⟩) (q_pV hA hW hS (ci := 12) rfl rO_0) rfl rfl hl.1 rfl (lv_room (Nat.le_of_ble_eq_true rfl)) dX14_boils__169 ⟨Nat.le_of_ble_eq_true rfl, Nat.le_of_ble_eq_true rfl⟩) hS (fun f_169 n_169 H locs hp hW hS => ?_)
          obtain ⟨rfl, rfl⟩ := hp
          have hW : q_W E (rO E f M (rp (rp r 42 (upd (upd (r 42) (52 + 4 * i) (((r 42) (52 + 4 * i)) - ((q_min (z_long (q_clamp x 0 999) ((r 42) 0)) (5 * ((r 42) (52 + 4 * i)))) / 5))) (54 + 4 * i) (z_boil ((r 42) 0)))) 42 (z_pass (upd (upd (r 42) (52 + 4 * i) (((r 42) (52 + 4 * i)) - ((q_min (z_long (q_clamp x 0 999) ((r 42) 0)) (5 * ((r 42) (52 + 4 * i)))) / 5))) (54 + 4 * i) (z_boil ((r 42) 0))) (q_min (z_long (q_clamp x 0 999) ((r 42) 0)) (5 * ((r 42) (52 + 4 * i)))) i pn))) n H := by rw [rO_rO] at hW; exact hW
          rw [rp_d0] at hW
          have hW : q_W E (rO E f M (rp r 42 (z_pass (upd (upd (r 42) (52 + 4 * i) (((r 42) (52 + 4 * i)) - ((q_min (z_long (q_clamp x 0 999) ((r 42) 0)) (5 * ((r 42) (52 + 4 * i)))) / 5))) (54 + 4 * i) (z_boil ((r 42) 0))) (q_min (z_long (q_clamp x 0 999) ((r 42) 0)) (5 * ((r 42) (52 + 4 * i)))) i pn))) n H := hW
          have hW := q_rr 42 (g := z_pass (upd (upd (r 42) (52 + 4 * i) (((r 42) (52 + 4 * i)) - ((q_min (z_long (q_clamp x 0 999) ((r 42) 0)) (5 * ((r 42) (52 + 4 * i)))) / 5))) (54 + 4 * i) (z_boil ((r 42) 0))) (q_min (z_long (q_clamp x 0 999) ((r 42) 0)) (5 * ((r 42) (52 + 4 * i)))) i pn) hW rfl
          rw [rp_d0] at hW
          have hW := q_sc 110 (x := nI bb) hW hb9 (by decide)
          have hW := q_sc 111 (x := r 111 0) hW rfl (by decide)
          exact q_vret hx hb hr hlocks hW hS ⟨(congrArg (fun z : q_KS => rO E f M (r_ks r z)) (show (k_boil pn i (fun _ _ => x) (r 9) ((r 42), bb, (r 111 0))) = (z_pass (upd (upd (r 42) (52 + 4 * i) (((r 42) (52 + 4 * i)) - ((q_min (z_long (q_clamp x 0 999) ((r 42) 0)) (5 * ((r 42) (52 + 4 * i)))) / 5))) (54 + 4 * i) (z_boil ((r 42) 0))) (q_min (z_long (q_clamp x 0 999) ((r 42) 0)) (5 * ((r 42) (52 + 4 * i)))) i pn, bb, r 111 0) from (by show k_boil pn i (fun _ _ => x) (r 9) (r 42, bb, r 111 0) = _; unfold k_boil; rw [if_neg h12]; unfold k_boil2; rw [if_neg (Int32.not_lt.mpr c_62)]; unfold k_boil3 k_pass; congr 2; rw [if_neg (Int32.not_lt.mpr c_107)]; exact z_pan_u (by rw [z_un (by omega), z_us]) (by rw [z_un (by omega), z_un (by omega)]) z_us (by rw [z_un (by omega), z_un (by omega)]) (fun q hq => by rw [z_un (by omega), z_un (by omega)])))), rfl⟩ (Nat.le_of_ble_eq_true rfl) (Nat.le_of_ble_eq_true rfl) dX14_boils__172
        · refine lv_aload_n hx hb dX14_boils__110 rfl (lv_at hl 2 rfl) ?_
          refine q_get hx hb hts hown hA hW iX14 rO_0 rfl 19 (by decide) (hts (.fieldLink RX14 45 "HighRecipesModel" "now" "[I") (by decide +kernel)) (fun _ h9 => h9) (v := .ref (M + 42)) rfl dX14_boils__111 ?_
          refine lv_iload_n hx hb dX14_boils__114 rfl (lv_at hl 3 rfl) ?_
          refine lv_iconst (v := 3) hx hb dX14_boils__115 (by decide) ?_
          refine q_ci (va_runS (As := [.int (nI i), .int 3]) (rest := [.ref (M + 42)]) ⟨hx, hb, hml, hown, hts⟩ (kX14_of_3 l E (rO E f M (rp r 42 (upd (r 42) (52 + 4 * i) (((r 42) (52 + 4 * i)) - ((q_min (z_long (q_clamp x 0 999) ((r 42) 0)) (5 * ((r 42) (52 + 4 * i)))) / 5))))) n i) (va_cwS 2 hts gX14_boils__X14_of rfl rfl rfl (by decide +kernel) ⟨(Nat.le_of_ble_eq_true rfl), (Nat.le_of_ble_eq_true rfl)⟩) (q_pS hA hW hS) rfl rfl hl.1 rfl (lv_room (Nat.le_of_ble_eq_true rfl)) dX14_boils__116 ⟨Nat.le_of_ble_eq_true rfl, Nat.le_of_ble_eq_true rfl⟩) hS (fun r_116 f_116 n_116 H locs hp hW hS => ?_)
          obtain ⟨rfl, rfl, rfl⟩ := hp
          have hW : q_W E (rO E f M (rp r 42 (upd (r 42) (52 + 4 * i) (((r 42) (52 + 4 * i)) - ((q_min (z_long (q_clamp x 0 999) ((r 42) 0)) (5 * ((r 42) (52 + 4 * i)))) / 5))))) n H := hW
          refine lv_bipush (v := 100) hx hb dX14_boils__119 (by decide) ?_
          refine lv_aload_n hx hb dX14_boils__121 rfl (lv_at hl 2 rfl) ?_
          refine q_get hx hb hts hown hA hW iX14 rO_0 rfl 19 (by decide) (hts (.fieldLink RX14 45 "HighRecipesModel" "now" "[I") (by decide +kernel)) (fun _ h9 => h9) (v := .ref (M + 42)) rfl dX14_boils__122 ?_
          refine lv_iload_n hx hb dX14_boils__125 rfl (lv_at hl 3 rfl) ?_
          refine lv_iconst (v := 3) hx hb dX14_boils__126 (by decide) ?_
          refine q_ci (va_runS (As := [.int (nI i), .int 3]) (rest := [.ref (M + 42), .int 100, .int (nI (55 + 4 * i)), .ref (M + 42)]) ⟨hx, hb, hml, hown, hts⟩ (kX14_of_3 l E (rO E f M (rp r 42 (upd (r 42) (52 + 4 * i) (((r 42) (52 + 4 * i)) - ((q_min (z_long (q_clamp x 0 999) ((r 42) 0)) (5 * ((r 42) (52 + 4 * i)))) / 5))))) n i) (va_cwS 2 hts gX14_boils__X14_of rfl rfl rfl (by decide +kernel) ⟨(Nat.le_of_ble_eq_true rfl), (Nat.le_of_ble_eq_true rfl)⟩) (q_pS hA hW hS) rfl rfl hl.1 rfl (lv_room (Nat.le_of_ble_eq_true rfl)) dX14_boils__127 ⟨Nat.le_of_ble_eq_true rfl, Nat.le_of_ble_eq_true rfl⟩) hS (fun r_127 f_127 n_127 H locs hp hW hS => ?_)
          obtain ⟨rfl, rfl, rfl⟩ := hp
          have hW : q_W E (rO E f M (rp r 42 (upd (r 42) (52 + 4 * i) (((r 42) (52 + 4 * i)) - ((q_min (z_long (q_clamp x 0 999) ((r 42) 0)) (5 * ((r 42) (52 + 4 * i)))) / 5))))) n H := hW
          refine q_ald hx hb hA hW (rO_42 (g := upd (r 42) (52 + 4 * i) (((r 42) (52 + 4 * i)) - ((q_min (z_long (q_clamp x 0 999) ((r 42) 0)) (5 * ((r 42) (52 + 4 * i)))) / 5))) rfl) (55 + 4 * i) rfl (by omega) (by decide) (x := (r 42) (55 + 4 * i)) (z_un (by omega)) dX14_boils__130 ?_
          refine lv_iload hx hb dX14_boils__131 (lv_at hl 0 rfl) ?_
          refine lv_bipush (v := 100) hx hb dX14_boils__133 (by decide) ?_
          refine lv_imul hx hb dX14_boils__135 ?_
          refine lv_aload_n hx hb dX14_boils__136 rfl (lv_at hl 2 rfl) ?_
          refine q_get hx hb hts hown hA hW iX14 rO_0 rfl 19 (by decide) (hts (.fieldLink RX14 45 "HighRecipesModel" "now" "[I") (by decide +kernel)) (fun _ h9 => h9) (v := .ref (M + 42)) rfl dX14_boils__137 ?_
          refine lv_iconst (v := 0) hx hb dX14_boils__140 (by decide) ?_
          refine q_ald hx hb hA hW (rO_42 (g := upd (r 42) (52 + 4 * i) (((r 42) (52 + 4 * i)) - ((q_min (z_long (q_clamp x 0 999) ((r 42) 0)) (5 * ((r 42) (52 + 4 * i)))) / 5))) rfl) 0 rfl (by decide) (by decide) (x := (r 42) 0) (z_un (by omega)) dX14_boils__141 ?_
          refine q_ci (va_runS (As := [.int ((r 42) 0)]) (rest := [.int ((q_min (z_long (q_clamp x 0 999) ((r 42) 0)) (5 * ((r 42) (52 + 4 * i)))) * 100), .int ((r 42) (55 + 4 * i)), .int 100, .int (nI (55 + 4 * i)), .ref (M + 42)]) ⟨hx, hb, hml, hown, hts⟩ (kX14_factor l E (rO E f M (rp r 42 (upd (r 42) (52 + 4 * i) (((r 42) (52 + 4 * i)) - ((q_min (z_long (q_clamp x 0 999) ((r 42) 0)) (5 * ((r 42) (52 + 4 * i)))) / 5))))) n ((r 42) 0)) (va_cwS 1 hts gX14_boils__X14_factor rfl rfl rfl (by decide +kernel) ⟨(Nat.le_of_ble_eq_true rfl), (Nat.le_of_ble_eq_true rfl)⟩) (q_pS hA hW hS) rfl rfl hl.1 rfl (lv_room (Nat.le_of_ble_eq_true rfl)) dX14_boils__142 ⟨Nat.le_of_ble_eq_true rfl, Nat.le_of_ble_eq_true rfl⟩) hS (fun r_142 f_142 n_142 H locs hp hW hS => ?_)
          obtain ⟨rfl, rfl, rfl⟩ := hp
          have hW : q_W E (rO E f M (rp r 42 (upd (r 42) (52 + 4 * i) (((r 42) (52 + 4 * i)) - ((q_min (z_long (q_clamp x 0 999) ((r 42) 0)) (5 * ((r 42) (52 + 4 * i)))) / 5))))) n H := hW
          have hsl := v_ok_slow hvo
          refine lv_idiv hx hb dX14_boils__145 hsl ?_
          refine lv_iadd hx hb dX14_boils__146 ?_
          refine va_mmin hx hb (hml.trans hl.1.symm) hown (hts (.methodLink RX14 57 Lib.Math.min.name) (by decide +kernel)) (hts (.static Lib.Math.min.name) (by decide +kernel)) (hts (.initialized "java/lang/Math") (by decide +kernel)) (hts (.code Lib.Math.min.name Lib.Math.min.code 2 (some .int)) (by decide +kernel)) (Nat.le_of_ble_eq_true rfl) (Nat.le_of_ble_eq_true rfl) (Nat.le_of_ble_eq_true rfl) (Nat.le_of_ble_eq_true rfl) dX14_boils__147 ?_
          refine q_ast hx hb hA hW hS (rO_42 (g := upd (r 42) (52 + 4 * i) (((r 42) (52 + 4 * i)) - ((q_min (z_long (q_clamp x 0 999) ((r 42) 0)) (5 * ((r 42) (52 + 4 * i)))) / 5))) rfl) (55 + 4 * i) rfl (by omega) (by decide) dX14_boils__150 (fun H locs hW hS => ?_)
          have hW := q_sa 42 hW rfl rfl
          rw [rp_d0] at hW
          refine lv_aload_n hx hb dX14_boils__151 rfl (lv_at hl 2 rfl) ?_
          refine q_get hx hb hts hown hA hW iX14 rO_0 rfl 19 (by decide) (hts (.fieldLink RX14 45 "HighRecipesModel" "now" "[I") (by decide +kernel)) (fun _ h9 => h9) (v := .ref (M + 42)) rfl dX14_boils__152 ?_
          refine lv_iload_n hx hb dX14_boils__155 rfl (lv_at hl 3 rfl) ?_
          refine lv_iconst (v := 2) hx hb dX14_boils__156 (by decide) ?_
          refine q_ci (va_runS (As := [.int (nI i), .int 2]) (rest := [.ref (M + 42)]) ⟨hx, hb, hml, hown, hts⟩ (kX14_of_2 l E (rO E f M (rp r 42 (upd (upd (r 42) (52 + 4 * i) (((r 42) (52 + 4 * i)) - ((q_min (z_long (q_clamp x 0 999) ((r 42) 0)) (5 * ((r 42) (52 + 4 * i)))) / 5))) (55 + 4 * i) (q_min 100 (((r 42) (55 + 4 * i)) + (((q_min (z_long (q_clamp x 0 999) ((r 42) 0)) (5 * ((r 42) (52 + 4 * i)))) * 100) / (z_slow ((r 42) 0)))))))) n i) (va_cwS 2 hts gX14_boils__X14_of rfl rfl rfl (by decide +kernel) ⟨(Nat.le_of_ble_eq_true rfl), (Nat.le_of_ble_eq_true rfl)⟩) (q_pS hA hW hS) rfl rfl hl.1 rfl (lv_room (Nat.le_of_ble_eq_true rfl)) dX14_boils__157 ⟨Nat.le_of_ble_eq_true rfl, Nat.le_of_ble_eq_true rfl⟩) hS (fun r_157 f_157 n_157 H locs hp hW hS => ?_)
          obtain ⟨rfl, rfl, rfl⟩ := hp
          have hW : q_W E (rO E f M (rp r 42 (upd (upd (r 42) (52 + 4 * i) (((r 42) (52 + 4 * i)) - ((q_min (z_long (q_clamp x 0 999) ((r 42) 0)) (5 * ((r 42) (52 + 4 * i)))) / 5))) (55 + 4 * i) (q_min 100 (((r 42) (55 + 4 * i)) + (((q_min (z_long (q_clamp x 0 999) ((r 42) 0)) (5 * ((r 42) (52 + 4 * i)))) * 100) / (z_slow ((r 42) 0)))))))) n H := hW
          refine lv_aload_n hx hb dX14_boils__160 rfl (lv_at hl 2 rfl) ?_
          refine q_ci (va_runV (As := []) (rest := [.int (nI (54 + 4 * i)), .ref (M + 42)]) ⟨hx, hb, hml, hown, hts⟩ (kX14_boiling l E (rO E f M (rp r 42 (upd (upd (r 42) (52 + 4 * i) (((r 42) (52 + 4 * i)) - ((q_min (z_long (q_clamp x 0 999) ((r 42) 0)) (5 * ((r 42) (52 + 4 * i)))) / 5))) (55 + 4 * i) (q_min 100 (((r 42) (55 + 4 * i)) + (((q_min (z_long (q_clamp x 0 999) ((r 42) 0)) (5 * ((r 42) (52 + 4 * i)))) * 100) / (z_slow ((r 42) 0)))))))) n M (rp r 42 (upd (upd (r 42) (52 + 4 * i) (((r 42) (52 + 4 * i)) - ((q_min (z_long (q_clamp x 0 999) ((r 42) 0)) (5 * ((r 42) (52 + 4 * i)))) / 5))) (55 + 4 * i) (q_min 100 (((r 42) (55 + 4 * i)) + (((q_min (z_long (q_clamp x 0 999) ((r 42) 0)) (5 * ((r 42) (52 + 4 * i)))) * 100) / (z_slow ((r 42) 0))))))) rO_K) (cwV 0 hts gX14_boils__X14_boiling rfl rfl rfl (by decide +kernel) ⟨(Nat.le_of_ble_eq_true rfl), (Nat.le_of_ble_eq_true rfl)⟩) (q_pV hA hW hS (ci := 12) rfl rO_0) rfl rfl hl.1 rfl (lv_room (Nat.le_of_ble_eq_true rfl)) dX14_boils__161 ⟨Nat.le_of_ble_eq_true rfl, Nat.le_of_ble_eq_true rfl⟩) hS (fun r_161 f_161 n_161 H locs hp hW hS => ?_)
          obtain ⟨rfl, rfl, rfl⟩ := hp
          rw [show z_boil (((rp r 42 (upd (upd (r 42) (52 + 4 * i) (((r 42) (52 + 4 * i)) - ((q_min (z_long (q_clamp x 0 999) ((r 42) 0)) (5 * ((r 42) (52 + 4 * i)))) / 5))) (55 + 4 * i) (q_min 100 (((r 42) (55 + 4 * i)) + (((q_min (z_long (q_clamp x 0 999) ((r 42) 0)) (5 * ((r 42) (52 + 4 * i)))) * 100) / (z_slow ((r 42) 0))))))) 42) 0) = z_boil ((upd (upd (r 42) (52 + 4 * i) (((r 42) (52 + 4 * i)) - ((q_min (z_long (q_clamp x 0 999) ((r 42) 0)) (5 * ((r 42) (52 + 4 * i)))) / 5))) (55 + 4 * i) (q_min 100 (((r 42) (55 + 4 * i)) + (((q_min (z_long (q_clamp x 0 999) ((r 42) 0)) (5 * ((r 42) (52 + 4 * i)))) * 100) / (z_slow ((r 42) 0)))))) 0) from rfl]
          have hW : q_W E (rO E f M (rp r 42 (upd (upd (r 42) (52 + 4 * i) (((r 42) (52 + 4 * i)) - ((q_min (z_long (q_clamp x 0 999) ((r 42) 0)) (5 * ((r 42) (52 + 4 * i)))) / 5))) (55 + 4 * i) (q_min 100 (((r 42) (55 + 4 * i)) + (((q_min (z_long (q_clamp x 0 999) ((r 42) 0)) (5 * ((r 42) (52 + 4 * i)))) * 100) / (z_slow ((r 42) 0)))))))) n H := hW
          rw [show (upd (upd (r 42) (52 + 4 * i) (((r 42) (52 + 4 * i)) - ((q_min (z_long (q_clamp x 0 999) ((r 42) 0)) (5 * ((r 42) (52 + 4 * i)))) / 5))) (55 + 4 * i) (q_min 100 (((r 42) (55 + 4 * i)) + (((q_min (z_long (q_clamp x 0 999) ((r 42) 0)) (5 * ((r 42) (52 + 4 * i)))) * 100) / (z_slow ((r 42) 0)))))) 0 = (r 42) 0 from ((z_un (by omega)).trans (z_un (by omega)))]
          refine q_ast hx hb hA hW hS (rO_42 (g := upd (upd (r 42) (52 + 4 * i) (((r 42) (52 + 4 * i)) - ((q_min (z_long (q_clamp x 0 999) ((r 42) 0)) (5 * ((r 42) (52 + 4 * i)))) / 5))) (55 + 4 * i) (q_min 100 (((r 42) (55 + 4 * i)) + (((q_min (z_long (q_clamp x 0 999) ((r 42) 0)) (5 * ((r 42) (52 + 4 * i)))) * 100) / (z_slow ((r 42) 0)))))) rfl) (54 + 4 * i) rfl (by omega) (by decide) dX14_boils__164 (fun H locs hW hS => ?_)
          have hW := q_sa 42 hW rfl rfl
          rw [rp_d0] at hW
          refine lv_aload_n hx hb dX14_boils__165 rfl (lv_at hl 2 rfl) ?_
          refine lv_iload hx hb dX14_boils__166 (lv_at hl 0 rfl) ?_
          refine lv_iload_n hx hb dX14_boils__168 rfl (lv_at hl 3 rfl) ?_
          refine q_cv (va_runV (As := [.int (q_min (z_long (q_clamp x 0 999) ((r 42) 0)) (5 * ((r 42) (52 + 4 * i)))), .int (nI i)]) (rest := []) ⟨hx, hb, hml, hown, hts⟩ (kX14_goBy l E (rO E f M (rp r 42 (upd (upd (upd (r 42) (52 + 4 * i) (((r 42) (52 + 4 * i)) - ((q_min (z_long (q_clamp x 0 999) ((r 42) 0)) (5 * ((r 42) (52 + 4 * i)))) / 5))) (55 + 4 * i) (q_min 100 (((r 42) (55 + 4 * i)) + (((q_min (z_long (q_clamp x 0 999) ((r 42) 0)) (5 * ((r 42) (52 + 4 * i)))) * 100) / (z_slow ((r 42) 0)))))) (54 + 4 * i) (z_boil ((r 42) 0))))) n M (rp r 42 (upd (upd (upd (r 42) (52 + 4 * i) (((r 42) (52 + 4 * i)) - ((q_min (z_long (q_clamp x 0 999) ((r 42) 0)) (5 * ((r 42) (52 + 4 * i)))) / 5))) (55 + 4 * i) (q_min 100 (((r 42) (55 + 4 * i)) + (((q_min (z_long (q_clamp x 0 999) ((r 42) 0)) (5 * ((r 42) (52 + 4 * i)))) * 100) / (z_slow ((r 42) 0)))))) (54 + 4 * i) (z_boil ((r 42) 0)))) pn (q_min (z_long (q_clamp x 0 999) ((r 42) 0)) (5 * ((r 42) (52 + 4 * i)))) i rO_K hpn9 (by assumption) (by omega)) (cwV 2 hts gX14_boils__X14_goBy rfl rfl rfl (by decide +kernel) ⟨(Nat.le_of_ble_eq_true rfl), (Nat.le_of_ble_eq_true rfl)⟩) (q_pV hA hW hS (ci := 12) rfl rO_0) rfl rfl hl.1 rfl (lv_room (Nat.le_of_ble_eq_true rfl)) dX14_boils__169 ⟨Nat.le_of_ble_eq_true rfl, Nat.le_of_ble_eq_true rfl⟩) hS (fun f_169 n_169 H locs hp hW hS => ?_)
          obtain ⟨rfl, rfl⟩ := hp
          have hW : q_W E (rO E f M (rp (rp r 42 (upd (upd (upd (r 42) (52 + 4 * i) (((r 42) (52 + 4 * i)) - ((q_min (z_long (q_clamp x 0 999) ((r 42) 0)) (5 * ((r 42) (52 + 4 * i)))) / 5))) (55 + 4 * i) (q_min 100 (((r 42) (55 + 4 * i)) + (((q_min (z_long (q_clamp x 0 999) ((r 42) 0)) (5 * ((r 42) (52 + 4 * i)))) * 100) / (z_slow ((r 42) 0)))))) (54 + 4 * i) (z_boil ((r 42) 0)))) 42 (z_pass (upd (upd (upd (r 42) (52 + 4 * i) (((r 42) (52 + 4 * i)) - ((q_min (z_long (q_clamp x 0 999) ((r 42) 0)) (5 * ((r 42) (52 + 4 * i)))) / 5))) (55 + 4 * i) (q_min 100 (((r 42) (55 + 4 * i)) + (((q_min (z_long (q_clamp x 0 999) ((r 42) 0)) (5 * ((r 42) (52 + 4 * i)))) * 100) / (z_slow ((r 42) 0)))))) (54 + 4 * i) (z_boil ((r 42) 0))) (q_min (z_long (q_clamp x 0 999) ((r 42) 0)) (5 * ((r 42) (52 + 4 * i)))) i pn))) n H := by rw [rO_rO] at hW; exact hW
          rw [rp_d0] at hW
          have hW : q_W E (rO E f M (rp r 42 (z_pass (upd (upd (upd (r 42) (52 + 4 * i) (((r 42) (52 + 4 * i)) - ((q_min (z_long (q_clamp x 0 999) ((r 42) 0)) (5 * ((r 42) (52 + 4 * i)))) / 5))) (55 + 4 * i) (q_min 100 (((r 42) (55 + 4 * i)) + (((q_min (z_long (q_clamp x 0 999) ((r 42) 0)) (5 * ((r 42) (52 + 4 * i)))) * 100) / (z_slow ((r 42) 0)))))) (54 + 4 * i) (z_boil ((r 42) 0))) (q_min (z_long (q_clamp x 0 999) ((r 42) 0)) (5 * ((r 42) (52 + 4 * i)))) i pn))) n H := hW
          have hW := q_rr 42 (g := z_pass (upd (upd (upd (r 42) (52 + 4 * i) (((r 42) (52 + 4 * i)) - ((q_min (z_long (q_clamp x 0 999) ((r 42) 0)) (5 * ((r 42) (52 + 4 * i)))) / 5))) (55 + 4 * i) (q_min 100 (((r 42) (55 + 4 * i)) + (((q_min (z_long (q_clamp x 0 999) ((r 42) 0)) (5 * ((r 42) (52 + 4 * i)))) * 100) / (z_slow ((r 42) 0)))))) (54 + 4 * i) (z_boil ((r 42) 0))) (q_min (z_long (q_clamp x 0 999) ((r 42) 0)) (5 * ((r 42) (52 + 4 * i)))) i pn) hW rfl
          rw [rp_d0] at hW
          have hW := q_sc 110 (x := nI bb) hW hb9 (by decide)
          have hW := q_sc 111 (x := r 111 0) hW rfl (by decide)
          exact q_vret hx hb hr hlocks hW hS ⟨(congrArg (fun z : q_KS => rO E f M (r_ks r z)) (show (k_boil pn i (fun _ _ => x) (r 9) ((r 42), bb, (r 111 0))) = (z_pass (upd (upd (upd (r 42) (52 + 4 * i) (((r 42) (52 + 4 * i)) - ((q_min (z_long (q_clamp x 0 999) ((r 42) 0)) (5 * ((r 42) (52 + 4 * i)))) / 5))) (55 + 4 * i) (q_min 100 (((r 42) (55 + 4 * i)) + (((q_min (z_long (q_clamp x 0 999) ((r 42) 0)) (5 * ((r 42) (52 + 4 * i)))) * 100) / (z_slow ((r 42) 0)))))) (54 + 4 * i) (z_boil ((r 42) 0))) (q_min (z_long (q_clamp x 0 999) ((r 42) 0)) (5 * ((r 42) (52 + 4 * i)))) i pn, bb, r 111 0) from (by show k_boil pn i (fun _ _ => x) (r 9) (r 42, bb, r 111 0) = _; unfold k_boil; rw [if_neg h12]; unfold k_boil2; rw [if_neg (Int32.not_lt.mpr c_62)]; unfold k_boil3 k_pass; congr 2; rw [if_pos (Int32.not_le.mp c_107)]; exact z_pan_u (by rw [z_un (by omega), z_un (by omega), z_us]) (by rw [z_un (by omega), z_un (by omega), z_un (by omega)]) z_us (by rw [z_un (by omega), z_us]; unfold q_quot; rw [if_neg (v_ok_slow hvo)]) (fun q hq => by rw [z_un (by omega), z_un (by omega), z_un (by omega)])))), rfl⟩ (Nat.le_of_ble_eq_true rfl) (Nat.le_of_ble_eq_true rfl) dX14_boils__172
      · refine lv_aload_n hx hb dX14_boils__65 rfl (lv_at hl 2 rfl) ?_
        refine lv_iconst (v := 5) hx hb dX14_boils__66 (by decide) ?_
        refine q_cv (va_runV (As := [.int 5]) (rest := []) ⟨hx, hb, hml, hown, hts⟩ (kX14_warn l E (rO E f M r) n M r 5 bb rO_K (by assumption) (by decide) hb9 (by first | assumption | decide)) (cwV 1 hts gX14_boils__X14_warn rfl rfl rfl (by decide +kernel) ⟨(Nat.le_of_ble_eq_true rfl), (Nat.le_of_ble_eq_true rfl)⟩) (q_pV hA hW hS (ci := 12) rfl rO_0) rfl rfl hl.1 rfl (lv_room (Nat.le_of_ble_eq_true rfl)) dX14_boils__67 ⟨Nat.le_of_ble_eq_true rfl, Nat.le_of_ble_eq_true rfl⟩) hS (fun f_67 n_67 H locs hp hW hS => ?_)
        obtain ⟨rfl, rfl⟩ := hp
        have hW : q_W E (rO E f M (rp (rp r 42 ((k_warn 5 ((r 42), bb, (r 111 0))).1)) 111 (fun _ => (k_warn 5 ((r 42), bb, (r 111 0))).2.2))) n H := by rw [rO_rO] at hW; exact hW
        have hW : q_W E (rO E f M (rp (rp r 42 ((k_warn 5 ((r 42), bb, (r 111 0))).1)) 111 (fun _ => (k_warn 5 ((r 42), bb, (r 111 0))).2.2))) n H := hW
        refine lv_iload hx hb dX14_boils__70 (lv_at hl 0 rfl) ?_
        refine lv_iconst (v := 5) hx hb dX14_boils__72 (by decide) ?_
        refine lv_iload_n hx hb dX14_boils__73 rfl (lv_at hl 1 rfl) ?_
        refine lv_imul hx hb dX14_boils__74 ?_
        refine va_mmin hx hb (hml.trans hl.1.symm) hown (hts (.methodLink RX14 57 Lib.Math.min.name) (by decide +kernel)) (hts (.static Lib.Math.min.name) (by decide +kernel)) (hts (.initialized "java/lang/Math") (by decide +kernel)) (hts (.code Lib.Math.min.name Lib.Math.min.code 2 (some .int)) (by decide +kernel)) (Nat.le_of_ble_eq_true rfl) (Nat.le_of_ble_eq_true rfl) (Nat.le_of_ble_eq_true rfl) (Nat.le_of_ble_eq_true rfl) dX14_boils__75 ?_
        refine lv_istore (lv' := [(4, .int (q_min (z_long (q_clamp x 0 999) ((r 42) 0)) (5 * ((r 42) (52 + 4 * i))))), (3, .int ((r 42) (52 + 4 * i))), (0, .ref M), (1, .int (nI i)), (2, .int x)]) hx hb dX14_boils__78 hl (by decide) rfl (fun ls hl => ?_)
        refine lv_aload_n hx hb dX14_boils__80 rfl (lv_at hl 2 rfl) ?_
        refine q_get hx hb hts hown hA hW iX14 rO_0 rfl 19 (by decide) (hts (.fieldLink RX14 45 "HighRecipesModel" "now" "[I") (by decide +kernel)) (fun _ h9 => h9) (v := .ref (M + 42)) rfl dX14_boils__81 ?_
        refine lv_iload_n hx hb dX14_boils__84 rfl (lv_at hl 3 rfl) ?_
        refine lv_iconst (v := 0) hx hb dX14_boils__85 (by decide) ?_
        refine q_ci (va_runS (As := [.int (nI i), .int 0]) (rest := [.ref (M + 42)]) ⟨hx, hb, hml, hown, hts⟩ (kX14_of_0 l E (rO E f M (rp (rp r 42 ((k_warn 5 ((r 42), bb, (r 111 0))).1)) 111 (fun _ => (k_warn 5 ((r 42), bb, (r 111 0))).2.2))) n i) (va_cwS 2 hts gX14_boils__X14_of rfl rfl rfl (by decide +kernel) ⟨(Nat.le_of_ble_eq_true rfl), (Nat.le_of_ble_eq_true rfl)⟩) (q_pS hA hW hS) rfl rfl hl.1 rfl (lv_room (Nat.le_of_ble_eq_true rfl)) dX14_boils__86 ⟨Nat.le_of_ble_eq_true rfl, Nat.le_of_ble_eq_true rfl⟩) hS (fun r_86 f_86 n_86 H locs hp hW hS => ?_)
        obtain ⟨rfl, rfl, rfl⟩ := hp
        have hW : q_W E (rO E f M (rp (rp r 42 ((k_warn 5 ((r 42), bb, (r 111 0))).1)) 111 (fun _ => (k_warn 5 ((r 42), bb, (r 111 0))).2.2))) n H := hW
        refine lv_dup2_11 hx hb dX14_boils__89 rfl rfl ?_
        refine q_ald hx hb hA hW (rO_42 (g := (k_warn 5 ((r 42), bb, (r 111 0))).1) rfl) (52 + 4 * i) rfl (by omega) (by decide) (x := ((k_warn 5 ((r 42), bb, (r 111 0))).1) (52 + 4 * i)) rfl dX14_boils__90 ?_
        refine lv_iload hx hb dX14_boils__91 (lv_at hl 0 rfl) ?_
        refine lv_iconst (v := 5) hx hb dX14_boils__93 (by decide) ?_
        refine lv_idiv hx hb dX14_boils__94 (by decide) ?_
        refine lv_isub hx hb dX14_boils__95 ?_
        refine q_ast hx hb hA hW hS (rO_42 (g := (k_warn 5 ((r 42), bb, (r 111 0))).1) rfl) (52 + 4 * i) rfl (by omega) (by decide) dX14_boils__96 (fun H locs hW hS => ?_)
        have hW := q_sa 42 hW rfl rfl
        rw [rp_d1] at hW
        refine lv_aload_n hx hb dX14_boils__97 rfl (lv_at hl 2 rfl) ?_
        refine q_get hx hb hts hown hA hW iX14 rO_0 rfl 19 (by decide) (hts (.fieldLink RX14 45 "HighRecipesModel" "now" "[I") (by decide +kernel)) (fun _ h9 => h9) (v := .ref (M + 42)) rfl dX14_boils__98 ?_
        refine lv_iload_n hx hb dX14_boils__101 rfl (lv_at hl 3 rfl) ?_
        refine lv_iconst (v := 1) hx hb dX14_boils__102 (by decide) ?_
        refine q_ci (va_runS (As := [.int (nI i), .int 1]) (rest := [.ref (M + 42)]) ⟨hx, hb, hml, hown, hts⟩ (kX14_of_1 l E (rO E f M (rp (rp r 111 (fun _ => (k_warn 5 ((r 42), bb, (r 111 0))).2.2)) 42 (upd ((k_warn 5 ((r 42), bb, (r 111 0))).1) (52 + 4 * i) ((((k_warn 5 ((r 42), bb, (r 111 0))).1) (52 + 4 * i)) - ((q_min (z_long (q_clamp x 0 999) ((r 42) 0)) (5 * ((r 42) (52 + 4 * i)))) / 5))))) n i) (va_cwS 2 hts gX14_boils__X14_of rfl rfl rfl (by decide +kernel) ⟨(Nat.le_of_ble_eq_true rfl), (Nat.le_of_ble_eq_true rfl)⟩) (q_pS hA hW hS) rfl rfl hl.1 rfl (lv_room (Nat.le_of_ble_eq_true rfl)) dX14_boils__103 ⟨Nat.le_of_ble_eq_true rfl, Nat.le_of_ble_eq_true rfl⟩) hS (fun r_103 f_103 n_103 H locs hp hW hS => ?_)
        obtain ⟨rfl, rfl, rfl⟩ := hp
        have hW : q_W E (rO E f M (rp (rp r 111 (fun _ => (k_warn 5 ((r 42), bb, (r 111 0))).2.2)) 42 (upd ((k_warn 5 ((r 42), bb, (r 111 0))).1) (52 + 4 * i) ((((k_warn 5 ((r 42), bb, (r 111 0))).1) (52 + 4 * i)) - ((q_min (z_long (q_clamp x 0 999) ((r 42) 0)) (5 * ((r 42) (52 + 4 * i)))) / 5))))) n H := hW
        refine q_ald hx hb hA hW (rO_42 (g := upd ((k_warn 5 ((r 42), bb, (r 111 0))).1) (52 + 4 * i) ((((k_warn 5 ((r 42), bb, (r 111 0))).1) (52 + 4 * i)) - ((q_min (z_long (q_clamp x 0 999) ((r 42) 0)) (5 * ((r 42) (52 + 4 * i)))) / 5))) rfl) (53 + 4 * i) rfl (by omega) (by decide) (x := ((k_warn 5 (r 42, bb, r 111 0)).1) (53 + 4 * i)) (z_un (by omega)) dX14_boils__106 ?_
        refine lv_if_le (tgt := 151) hx hb dX14_boils__107 (by decide) (fun c_107 => ?_) (fun c_107 => ?_)
        · refine lv_aload_n hx hb dX14_boils__151 rfl (lv_at hl 2 rfl) ?_
          refine q_get hx hb hts hown hA hW iX14 rO_0 rfl 19 (by decide) (hts (.fieldLink RX14 45 "HighRecipesModel" "now" "[I") (by decide +kernel)) (fun _ h9 => h9) (v := .ref (M + 42)) rfl dX14_boils__152 ?_
          refine lv_iload_n hx hb dX14_boils__155 rfl (lv_at hl 3 rfl) ?_
          refine lv_iconst (v := 2) hx hb dX14_boils__156 (by decide) ?_
          refine q_ci (va_runS (As := [.int (nI i), .int 2]) (rest := [.ref (M + 42)]) ⟨hx, hb, hml, hown, hts⟩ (kX14_of_2 l E (rO E f M (rp (rp r 111 (fun _ => (k_warn 5 ((r 42), bb, (r 111 0))).2.2)) 42 (upd ((k_warn 5 ((r 42), bb, (r 111 0))).1) (52 + 4 * i) ((((k_warn 5 ((r 42), bb, (r 111 0))).1) (52 + 4 * i)) - ((q_min (z_long (q_clamp x 0 999) ((r 42) 0)) (5 * ((r 42) (52 + 4 * i)))) / 5))))) n i) (va_cwS 2 hts gX14_boils__X14_of rfl rfl rfl (by decide +kernel) ⟨(Nat.le_of_ble_eq_true rfl), (Nat.le_of_ble_eq_true rfl)⟩) (q_pS hA hW hS) rfl rfl hl.1 rfl (lv_room (Nat.le_of_ble_eq_true rfl)) dX14_boils__157 ⟨Nat.le_of_ble_eq_true rfl, Nat.le_of_ble_eq_true rfl⟩) hS (fun r_157 f_157 n_157 H locs hp hW hS => ?_)
          obtain ⟨rfl, rfl, rfl⟩ := hp
          have hW : q_W E (rO E f M (rp (rp r 111 (fun _ => (k_warn 5 ((r 42), bb, (r 111 0))).2.2)) 42 (upd ((k_warn 5 ((r 42), bb, (r 111 0))).1) (52 + 4 * i) ((((k_warn 5 ((r 42), bb, (r 111 0))).1) (52 + 4 * i)) - ((q_min (z_long (q_clamp x 0 999) ((r 42) 0)) (5 * ((r 42) (52 + 4 * i)))) / 5))))) n H := hW
          refine lv_aload_n hx hb dX14_boils__160 rfl (lv_at hl 2 rfl) ?_
          refine q_ci (va_runV (As := []) (rest := [.int (nI (54 + 4 * i)), .ref (M + 42)]) ⟨hx, hb, hml, hown, hts⟩ (kX14_boiling l E (rO E f M (rp (rp r 111 (fun _ => (k_warn 5 ((r 42), bb, (r 111 0))).2.2)) 42 (upd ((k_warn 5 ((r 42), bb, (r 111 0))).1) (52 + 4 * i) ((((k_warn 5 ((r 42), bb, (r 111 0))).1) (52 + 4 * i)) - ((q_min (z_long (q_clamp x 0 999) ((r 42) 0)) (5 * ((r 42) (52 + 4 * i)))) / 5))))) n M (rp (rp r 111 (fun _ => (k_warn 5 ((r 42), bb, (r 111 0))).2.2)) 42 (upd ((k_warn 5 ((r 42), bb, (r 111 0))).1) (52 + 4 * i) ((((k_warn 5 ((r 42), bb, (r 111 0))).1) (52 + 4 * i)) - ((q_min (z_long (q_clamp x 0 999) ((r 42) 0)) (5 * ((r 42) (52 + 4 * i)))) / 5)))) rO_K) (cwV 0 hts gX14_boils__X14_boiling rfl rfl rfl (by decide +kernel) ⟨(Nat.le_of_ble_eq_true rfl), (Nat.le_of_ble_eq_true rfl)⟩) (q_pV hA hW hS (ci := 12) rfl rO_0) rfl rfl hl.1 rfl (lv_room (Nat.le_of_ble_eq_true rfl)) dX14_boils__161 ⟨Nat.le_of_ble_eq_true rfl, Nat.le_of_ble_eq_true rfl⟩) hS (fun r_161 f_161 n_161 H locs hp hW hS => ?_)
          obtain ⟨rfl, rfl, rfl⟩ := hp
          rw [show z_boil (((rp (rp r 111 (fun _ => (k_warn 5 ((r 42), bb, (r 111 0))).2.2)) 42 (upd ((k_warn 5 ((r 42), bb, (r 111 0))).1) (52 + 4 * i) ((((k_warn 5 ((r 42), bb, (r 111 0))).1) (52 + 4 * i)) - ((q_min (z_long (q_clamp x 0 999) ((r 42) 0)) (5 * ((r 42) (52 + 4 * i)))) / 5)))) 42) 0) = z_boil ((upd ((k_warn 5 ((r 42), bb, (r 111 0))).1) (52 + 4 * i) ((((k_warn 5 ((r 42), bb, (r 111 0))).1) (52 + 4 * i)) - ((q_min (z_long (q_clamp x 0 999) ((r 42) 0)) (5 * ((r 42) (52 + 4 * i)))) / 5))) 0) from rfl]
          have hW : q_W E (rO E f M (rp (rp r 111 (fun _ => (k_warn 5 ((r 42), bb, (r 111 0))).2.2)) 42 (upd ((k_warn 5 ((r 42), bb, (r 111 0))).1) (52 + 4 * i) ((((k_warn 5 ((r 42), bb, (r 111 0))).1) (52 + 4 * i)) - ((q_min (z_long (q_clamp x 0 999) ((r 42) 0)) (5 * ((r 42) (52 + 4 * i)))) / 5))))) n H := hW
          rw [show (upd ((k_warn 5 ((r 42), bb, (r 111 0))).1) (52 + 4 * i) ((((k_warn 5 ((r 42), bb, (r 111 0))).1) (52 + 4 * i)) - ((q_min (z_long (q_clamp x 0 999) ((r 42) 0)) (5 * ((r 42) (52 + 4 * i)))) / 5))) 0 = ((k_warn 5 (r 42, bb, r 111 0)).1) 0 from (z_un (by omega))]
          refine q_ast hx hb hA hW hS (rO_42 (g := upd ((k_warn 5 ((r 42), bb, (r 111 0))).1) (52 + 4 * i) ((((k_warn 5 ((r 42), bb, (r 111 0))).1) (52 + 4 * i)) - ((q_min (z_long (q_clamp x 0 999) ((r 42) 0)) (5 * ((r 42) (52 + 4 * i)))) / 5))) rfl) (54 + 4 * i) rfl (by omega) (by decide) dX14_boils__164 (fun H locs hW hS => ?_)
          have hW := q_sa 42 hW rfl rfl
          rw [rp_d0] at hW
          refine lv_aload_n hx hb dX14_boils__165 rfl (lv_at hl 2 rfl) ?_
          refine lv_iload hx hb dX14_boils__166 (lv_at hl 0 rfl) ?_
          refine lv_iload_n hx hb dX14_boils__168 rfl (lv_at hl 3 rfl) ?_
          refine q_cv (va_runV (As := [.int (q_min (z_long (q_clamp x 0 999) ((r 42) 0)) (5 * ((r 42) (52 + 4 * i)))), .int (nI i)]) (rest := []) ⟨hx, hb, hml, hown, hts⟩ (kX14_goBy l E (rO E f M (rp (rp r 111 (fun _ => (k_warn 5 ((r 42), bb, (r 111 0))).2.2)) 42 (upd (upd ((k_warn 5 ((r 42), bb, (r 111 0))).1) (52 + 4 * i) ((((k_warn 5 ((r 42), bb, (r 111 0))).1) (52 + 4 * i)) - ((q_min (z_long (q_clamp x 0 999) ((r 42) 0)) (5 * ((r 42) (52 + 4 * i)))) / 5))) (54 + 4 * i) (z_boil (((k_warn 5 (r 42, bb, r 111 0)).1) 0))))) n M (rp (rp r 111 (fun _ => (k_warn 5 ((r 42), bb, (r 111 0))).2.2)) 42 (upd (upd ((k_warn 5 ((r 42), bb, (r 111 0))).1) (52 + 4 * i) ((((k_warn 5 ((r 42), bb, (r 111 0))).1) (52 + 4 * i)) - ((q_min (z_long (q_clamp x 0 999) ((r 42) 0)) (5 * ((r 42) (52 + 4 * i)))) / 5))) (54 + 4 * i) (z_boil (((k_warn 5 (r 42, bb, r 111 0)).1) 0)))) pn (q_min (z_long (q_clamp x 0 999) ((r 42) 0)) (5 * ((r 42) (52 + 4 * i)))) i rO_K hpn9 (by assumption) (by omega)) (cwV 2 hts gX14_boils__X14_goBy rfl rfl rfl (by decide +kernel) ⟨(Nat.le_of_ble_eq_true rfl), (Nat.le_of_ble_eq_true rfl)⟩) (q_pV hA hW hS (ci := 12) rfl rO_0) rfl rfl hl.1 rfl (lv_room (Nat.le_of_ble_eq_true rfl)) dX14_boils__169 ⟨Nat.le_of_ble_eq_true rfl, Nat.le_of_ble_eq_true rfl⟩) hS (fun f_169 n_169 H locs hp hW hS => ?_)
          obtain ⟨rfl, rfl⟩ := hp
          have hW : q_W E (rO E f M (rp (rp (rp r 111 (fun _ => (k_warn 5 ((r 42), bb, (r 111 0))).2.2)) 42 (upd (upd ((k_warn 5 ((r 42), bb, (r 111 0))).1) (52 + 4 * i) ((((k_warn 5 ((r 42), bb, (r 111 0))).1) (52 + 4 * i)) - ((q_min (z_long (q_clamp x 0 999) ((r 42) 0)) (5 * ((r 42) (52 + 4 * i)))) / 5))) (54 + 4 * i) (z_boil (((k_warn 5 (r 42, bb, r 111 0)).1) 0)))) 42 (z_pass (upd (upd ((k_warn 5 ((r 42), bb, (r 111 0))).1) (52 + 4 * i) ((((k_warn 5 ((r 42), bb, (r 111 0))).1) (52 + 4 * i)) - ((q_min (z_long (q_clamp x 0 999) ((r 42) 0)) (5 * ((r 42) (52 + 4 * i)))) / 5))) (54 + 4 * i) (z_boil (((k_warn 5 (r 42, bb, r 111 0)).1) 0))) (q_min (z_long (q_clamp x 0 999) ((r 42) 0)) (5 * ((r 42) (52 + 4 * i)))) i pn))) n H := by rw [rO_rO] at hW; exact hW
          rw [rp_d0] at hW
          have hW : q_W E (rO E f M (rp (rp r 111 (fun _ => (k_warn 5 ((r 42), bb, (r 111 0))).2.2)) 42 (z_pass (upd (upd ((k_warn 5 ((r 42), bb, (r 111 0))).1) (52 + 4 * i) ((((k_warn 5 ((r 42), bb, (r 111 0))).1) (52 + 4 * i)) - ((q_min (z_long (q_clamp x 0 999) ((r 42) 0)) (5 * ((r 42) (52 + 4 * i)))) / 5))) (54 + 4 * i) (z_boil (((k_warn 5 (r 42, bb, r 111 0)).1) 0))) (q_min (z_long (q_clamp x 0 999) ((r 42) 0)) (5 * ((r 42) (52 + 4 * i)))) i pn))) n H := hW
          have hW := q_rr 42 (g := z_pass (upd (upd ((k_warn 5 ((r 42), bb, (r 111 0))).1) (52 + 4 * i) ((((k_warn 5 ((r 42), bb, (r 111 0))).1) (52 + 4 * i)) - ((q_min (z_long (q_clamp x 0 999) ((r 42) 0)) (5 * ((r 42) (52 + 4 * i)))) / 5))) (54 + 4 * i) (z_boil (((k_warn 5 (r 42, bb, r 111 0)).1) 0))) (q_min (z_long (q_clamp x 0 999) ((r 42) 0)) (5 * ((r 42) (52 + 4 * i)))) i pn) hW rfl
          rw [rp_d0] at hW
          have hW := q_sc 110 (x := nI bb) hW hb9 (by decide)
          have hW := q_sc 111 (x := (k_warn 5 ((r 42), bb, (r 111 0))).2.2) hW rfl (by decide)
          rw [rp_d2] at hW
          exact q_vret hx hb hr hlocks hW hS ⟨(congrArg (fun z : q_KS => rO E f M (r_ks r z)) (show (k_boil pn i (fun _ _ => x) (r 9) ((r 42), bb, (r 111 0))) = (z_pass (upd (upd ((k_warn 5 ((r 42), bb, (r 111 0))).1) (52 + 4 * i) ((((k_warn 5 ((r 42), bb, (r 111 0))).1) (52 + 4 * i)) - ((q_min (z_long (q_clamp x 0 999) ((r 42) 0)) (5 * ((r 42) (52 + 4 * i)))) / 5))) (54 + 4 * i) (z_boil (((k_warn 5 (r 42, bb, r 111 0)).1) 0))) (q_min (z_long (q_clamp x 0 999) ((r 42) 0)) (5 * ((r 42) (52 + 4 * i)))) i pn, bb, (k_warn 5 ((r 42), bb, (r 111 0))).2.2) from (by show k_boil pn i (fun _ _ => x) (r 9) (r 42, bb, r 111 0) = _; unfold k_boil; rw [if_neg h12]; unfold k_boil2; rw [if_pos (Int32.not_le.mp c_62)]; unfold k_boil3 k_pass; congr 2; rw [if_neg (Int32.not_lt.mpr c_107)]; exact z_pan_u (by rw [z_un (by omega), z_us]) (by rw [z_un (by omega), z_un (by omega)]) z_us (by rw [z_un (by omega), z_un (by omega)]) (fun q hq => by rw [z_un (by omega), z_un (by omega)])))), rfl⟩ (Nat.le_of_ble_eq_true rfl) (Nat.le_of_ble_eq_true rfl) dX14_boils__172
        · refine lv_aload_n hx hb dX14_boils__110 rfl (lv_at hl 2 rfl) ?_
          refine q_get hx hb hts hown hA hW iX14 rO_0 rfl 19 (by decide) (hts (.fieldLink RX14 45 "HighRecipesModel" "now" "[I") (by decide +kernel)) (fun _ h9 => h9) (v := .ref (M + 42)) rfl dX14_boils__111 ?_
          refine lv_iload_n hx hb dX14_boils__114 rfl (lv_at hl 3 rfl) ?_
          refine lv_iconst (v := 3) hx hb dX14_boils__115 (by decide) ?_
          refine q_ci (va_runS (As := [.int (nI i), .int 3]) (rest := [.ref (M + 42)]) ⟨hx, hb, hml, hown, hts⟩ (kX14_of_3 l E (rO E f M (rp (rp r 111 (fun _ => (k_warn 5 ((r 42), bb, (r 111 0))).2.2)) 42 (upd ((k_warn 5 ((r 42), bb, (r 111 0))).1) (52 + 4 * i) ((((k_warn 5 ((r 42), bb, (r 111 0))).1) (52 + 4 * i)) - ((q_min (z_long (q_clamp x 0 999) ((r 42) 0)) (5 * ((r 42) (52 + 4 * i)))) / 5))))) n i) (va_cwS 2 hts gX14_boils__X14_of rfl rfl rfl (by decide +kernel) ⟨(Nat.le_of_ble_eq_true rfl), (Nat.le_of_ble_eq_true rfl)⟩) (q_pS hA hW hS) rfl rfl hl.1 rfl (lv_room (Nat.le_of_ble_eq_true rfl)) dX14_boils__116 ⟨Nat.le_of_ble_eq_true rfl, Nat.le_of_ble_eq_true rfl⟩) hS (fun r_116 f_116 n_116 H locs hp hW hS => ?_)
          obtain ⟨rfl, rfl, rfl⟩ := hp
          have hW : q_W E (rO E f M (rp (rp r 111 (fun _ => (k_warn 5 ((r 42), bb, (r 111 0))).2.2)) 42 (upd ((k_warn 5 ((r 42), bb, (r 111 0))).1) (52 + 4 * i) ((((k_warn 5 ((r 42), bb, (r 111 0))).1) (52 + 4 * i)) - ((q_min (z_long (q_clamp x 0 999) ((r 42) 0)) (5 * ((r 42) (52 + 4 * i)))) / 5))))) n H := hW
          refine lv_bipush (v := 100) hx hb dX14_boils__119 (by decide) ?_
          refine lv_aload_n hx hb dX14_boils__121 rfl (lv_at hl 2 rfl) ?_
          refine q_get hx hb hts hown hA hW iX14 rO_0 rfl 19 (by decide) (hts (.fieldLink RX14 45 "HighRecipesModel" "now" "[I") (by decide +kernel)) (fun _ h9 => h9) (v := .ref (M + 42)) rfl dX14_boils__122 ?_
          refine lv_iload_n hx hb dX14_boils__125 rfl (lv_at hl 3 rfl) ?_
          refine lv_iconst (v := 3) hx hb dX14_boils__126 (by decide) ?_
          refine q_ci (va_runS (As := [.int (nI i), .int 3]) (rest := [.ref (M + 42), .int 100, .int (nI (55 + 4 * i)), .ref (M + 42)]) ⟨hx, hb, hml, hown, hts⟩ (kX14_of_3 l E (rO E f M (rp (rp r 111 (fun _ => (k_warn 5 ((r 42), bb, (r 111 0))).2.2)) 42 (upd ((k_warn 5 ((r 42), bb, (r 111 0))).1) (52 + 4 * i) ((((k_warn 5 ((r 42), bb, (r 111 0))).1) (52 + 4 * i)) - ((q_min (z_long (q_clamp x 0 999) ((r 42) 0)) (5 * ((r 42) (52 + 4 * i)))) / 5))))) n i) (va_cwS 2 hts gX14_boils__X14_of rfl rfl rfl (by decide +kernel) ⟨(Nat.le_of_ble_eq_true rfl), (Nat.le_of_ble_eq_true rfl)⟩) (q_pS hA hW hS) rfl rfl hl.1 rfl (lv_room (Nat.le_of_ble_eq_true rfl)) dX14_boils__127 ⟨Nat.le_of_ble_eq_true rfl, Nat.le_of_ble_eq_true rfl⟩) hS (fun r_127 f_127 n_127 H locs hp hW hS => ?_)
          obtain ⟨rfl, rfl, rfl⟩ := hp
          have hW : q_W E (rO E f M (rp (rp r 111 (fun _ => (k_warn 5 ((r 42), bb, (r 111 0))).2.2)) 42 (upd ((k_warn 5 ((r 42), bb, (r 111 0))).1) (52 + 4 * i) ((((k_warn 5 ((r 42), bb, (r 111 0))).1) (52 + 4 * i)) - ((q_min (z_long (q_clamp x 0 999) ((r 42) 0)) (5 * ((r 42) (52 + 4 * i)))) / 5))))) n H := hW
          refine q_ald hx hb hA hW (rO_42 (g := upd ((k_warn 5 ((r 42), bb, (r 111 0))).1) (52 + 4 * i) ((((k_warn 5 ((r 42), bb, (r 111 0))).1) (52 + 4 * i)) - ((q_min (z_long (q_clamp x 0 999) ((r 42) 0)) (5 * ((r 42) (52 + 4 * i)))) / 5))) rfl) (55 + 4 * i) rfl (by omega) (by decide) (x := ((k_warn 5 (r 42, bb, r 111 0)).1) (55 + 4 * i)) (z_un (by omega)) dX14_boils__130 ?_
          refine lv_iload hx hb dX14_boils__131 (lv_at hl 0 rfl) ?_
          refine lv_bipush (v := 100) hx hb dX14_boils__133 (by decide) ?_
          refine lv_imul hx hb dX14_boils__135 ?_
          refine lv_aload_n hx hb dX14_boils__136 rfl (lv_at hl 2 rfl) ?_
          refine q_get hx hb hts hown hA hW iX14 rO_0 rfl 19 (by decide) (hts (.fieldLink RX14 45 "HighRecipesModel" "now" "[I") (by decide +kernel)) (fun _ h9 => h9) (v := .ref (M + 42)) rfl dX14_boils__137 ?_
          refine lv_iconst (v := 0) hx hb dX14_boils__140 (by decide) ?_
          refine q_ald hx hb hA hW (rO_42 (g := upd ((k_warn 5 ((r 42), bb, (r 111 0))).1) (52 + 4 * i) ((((k_warn 5 ((r 42), bb, (r 111 0))).1) (52 + 4 * i)) - ((q_min (z_long (q_clamp x 0 999) ((r 42) 0)) (5 * ((r 42) (52 + 4 * i)))) / 5))) rfl) 0 rfl (by decide) (by decide) (x := ((k_warn 5 (r 42, bb, r 111 0)).1) 0) (z_un (by omega)) dX14_boils__141 ?_
          refine q_ci (va_runS (As := [.int (((k_warn 5 (r 42, bb, r 111 0)).1) 0)]) (rest := [.int ((q_min (z_long (q_clamp x 0 999) ((r 42) 0)) (5 * ((r 42) (52 + 4 * i)))) * 100), .int (((k_warn 5 (r 42, bb, r 111 0)).1) (55 + 4 * i)), .int 100, .int (nI (55 + 4 * i)), .ref (M + 42)]) ⟨hx, hb, hml, hown, hts⟩ (kX14_factor l E (rO E f M (rp (rp r 111 (fun _ => (k_warn 5 ((r 42), bb, (r 111 0))).2.2)) 42 (upd ((k_warn 5 ((r 42), bb, (r 111 0))).1) (52 + 4 * i) ((((k_warn 5 ((r 42), bb, (r 111 0))).1) (52 + 4 * i)) - ((q_min (z_long (q_clamp x 0 999) ((r 42) 0)) (5 * ((r 42) (52 + 4 * i)))) / 5))))) n (((k_warn 5 (r 42, bb, r 111 0)).1) 0)) (va_cwS 1 hts gX14_boils__X14_factor rfl rfl rfl (by decide +kernel) ⟨(Nat.le_of_ble_eq_true rfl), (Nat.le_of_ble_eq_true rfl)⟩) (q_pS hA hW hS) rfl rfl hl.1 rfl (lv_room (Nat.le_of_ble_eq_true rfl)) dX14_boils__142 ⟨Nat.le_of_ble_eq_true rfl, Nat.le_of_ble_eq_true rfl⟩) hS (fun r_142 f_142 n_142 H locs hp hW hS => ?_)
          obtain ⟨rfl, rfl, rfl⟩ := hp
          have hW : q_W E (rO E f M (rp (rp r 111 (fun _ => (k_warn 5 ((r 42), bb, (r 111 0))).2.2)) 42 (upd ((k_warn 5 ((r 42), bb, (r 111 0))).1) (52 + 4 * i) ((((k_warn 5 ((r 42), bb, (r 111 0))).1) (52 + 4 * i)) - ((q_min (z_long (q_clamp x 0 999) ((r 42) 0)) (5 * ((r 42) (52 + 4 * i)))) / 5))))) n H := hW
          have hsl := v_ok_slow (v_ok_k (kd := 5) (s := (r 42, bb, r 111 0)) hvo (by decide))
          refine lv_idiv hx hb dX14_boils__145 hsl ?_
          refine lv_iadd hx hb dX14_boils__146 ?_
          refine va_mmin hx hb (hml.trans hl.1.symm) hown (hts (.methodLink RX14 57 Lib.Math.min.name) (by decide +kernel)) (hts (.static Lib.Math.min.name) (by decide +kernel)) (hts (.initialized "java/lang/Math") (by decide +kernel)) (hts (.code Lib.Math.min.name Lib.Math.min.code 2 (some .int)) (by decide +kernel)) (Nat.le_of_ble_eq_true rfl) (Nat.le_of_ble_eq_true rfl) (Nat.le_of_ble_eq_true rfl) (Nat.le_of_ble_eq_true rfl) dX14_boils__147 ?_
          refine q_ast hx hb hA hW hS (rO_42 (g := upd ((k_warn 5 ((r 42), bb, (r 111 0))).1) (52 + 4 * i) ((((k_warn 5 ((r 42), bb, (r 111 0))).1) (52 + 4 * i)) - ((q_min (z_long (q_clamp x 0 999) ((r 42) 0)) (5 * ((r 42) (52 + 4 * i)))) / 5))) rfl) (55 + 4 * i) rfl (by omega) (by decide) dX14_boils__150 (fun H locs hW hS => ?_)
          have hW := q_sa 42 hW rfl rfl
          rw [rp_d0] at hW
          refine lv_aload_n hx hb dX14_boils__151 rfl (lv_at hl 2 rfl) ?_
          refine q_get hx hb hts hown hA hW iX14 rO_0 rfl 19 (by decide) (hts (.fieldLink RX14 45 "HighRecipesModel" "now" "[I") (by decide +kernel)) (fun _ h9 => h9) (v := .ref (M + 42)) rfl dX14_boils__152 ?_
          refine lv_iload_n hx hb dX14_boils__155 rfl (lv_at hl 3 rfl) ?_
          refine lv_iconst (v := 2) hx hb dX14_boils__156 (by decide) ?_
          refine q_ci (va_runS (As := [.int (nI i), .int 2]) (rest := [.ref (M + 42)]) ⟨hx, hb, hml, hown, hts⟩ (kX14_of_2 l E (rO E f M (rp (rp r 111 (fun _ => (k_warn 5 ((r 42), bb, (r 111 0))).2.2)) 42 (upd (upd ((k_warn 5 ((r 42), bb, (r 111 0))).1) (52 + 4 * i) ((((k_warn 5 ((r 42), bb, (r 111 0))).1) (52 + 4 * i)) - ((q_min (z_long (q_clamp x 0 999) ((r 42) 0)) (5 * ((r 42) (52 + 4 * i)))) / 5))) (55 + 4 * i) (q_min 100 ((((k_warn 5 (r 42, bb, r 111 0)).1) (55 + 4 * i)) + (((q_min (z_long (q_clamp x 0 999) ((r 42) 0)) (5 * ((r 42) (52 + 4 * i)))) * 100) / (z_slow (((k_warn 5 (r 42, bb, r 111 0)).1) 0)))))))) n i) (va_cwS 2 hts gX14_boils__X14_of rfl rfl rfl (by decide +kernel) ⟨(Nat.le_of_ble_eq_true rfl), (Nat.le_of_ble_eq_true rfl)⟩) (q_pS hA hW hS) rfl rfl hl.1 rfl (lv_room (Nat.le_of_ble_eq_true rfl)) dX14_boils__157 ⟨Nat.le_of_ble_eq_true rfl, Nat.le_of_ble_eq_true rfl⟩) hS (fun r_157 f_157 n_157 H locs hp hW hS => ?_)
          obtain ⟨rfl, rfl, rfl⟩ := hp
          have hW : q_W E (rO E f M (rp (rp r 111 (fun _ => (k_warn 5 ((r 42), bb, (r 111 0))).2.2)) 42 (upd (upd ((k_warn 5 ((r 42), bb, (r 111 0))).1) (52 + 4 * i) ((((k_warn 5 ((r 42), bb, (r 111 0))).1) (52 + 4 * i)) - ((q_min (z_long (q_clamp x 0 999) ((r 42) 0)) (5 * ((r 42) (52 + 4 * i)))) / 5))) (55 + 4 * i) (q_min 100 ((((k_warn 5 (r 42, bb, r 111 0)).1) (55 + 4 * i)) + (((q_min (z_long (q_clamp x 0 999) ((r 42) 0)) (5 * ((r 42) (52 + 4 * i)))) * 100) / (z_slow (((k_warn 5 (r 42, bb, r 111 0)).1) 0)))))))) n H := hW
          refine lv_aload_n hx hb dX14_boils__160 rfl (lv_at hl 2 rfl) ?_
          refine q_ci (va_runV (As := []) (rest := [.int (nI (54 + 4 * i)), .ref (M + 42)]) ⟨hx, hb, hml, hown, hts⟩ (kX14_boiling l E (rO E f M (rp (rp r 111 (fun _ => (k_warn 5 ((r 42), bb, (r 111 0))).2.2)) 42 (upd (upd ((k_warn 5 ((r 42), bb, (r 111 0))).1) (52 + 4 * i) ((((k_warn 5 ((r 42), bb, (r 111 0))).1) (52 + 4 * i)) - ((q_min (z_long (q_clamp x 0 999) ((r 42) 0)) (5 * ((r 42) (52 + 4 * i)))) / 5))) (55 + 4 * i) (q_min 100 ((((k_warn 5 (r 42, bb, r 111 0)).1) (55 + 4 * i)) + (((q_min (z_long (q_clamp x 0 999) ((r 42) 0)) (5 * ((r 42) (52 + 4 * i)))) * 100) / (z_slow (((k_warn 5 (r 42, bb, r 111 0)).1) 0)))))))) n M (rp (rp r 111 (fun _ => (k_warn 5 ((r 42), bb, (r 111 0))).2.2)) 42 (upd (upd ((k_warn 5 ((r 42), bb, (r 111 0))).1) (52 + 4 * i) ((((k_warn 5 ((r 42), bb, (r 111 0))).1) (52 + 4 * i)) - ((q_min (z_long (q_clamp x 0 999) ((r 42) 0)) (5 * ((r 42) (52 + 4 * i)))) / 5))) (55 + 4 * i) (q_min 100 ((((k_warn 5 (r 42, bb, r 111 0)).1) (55 + 4 * i)) + (((q_min (z_long (q_clamp x 0 999) ((r 42) 0)) (5 * ((r 42) (52 + 4 * i)))) * 100) / (z_slow (((k_warn 5 (r 42, bb, r 111 0)).1) 0))))))) rO_K) (cwV 0 hts gX14_boils__X14_boiling rfl rfl rfl (by decide +kernel) ⟨(Nat.le_of_ble_eq_true rfl), (Nat.le_of_ble_eq_true rfl)⟩) (q_pV hA hW hS (ci := 12) rfl rO_0) rfl rfl hl.1 rfl (lv_room (Nat.le_of_ble_eq_true rfl)) dX14_boils__161 ⟨Nat.le_of_ble_eq_true rfl, Nat.le_of_ble_eq_true rfl⟩) hS (fun r_161 f_161 n_161 H locs hp hW hS => ?_)
          obtain ⟨rfl, rfl, rfl⟩ := hp
          rw [show z_boil (((rp (rp r 111 (fun _ => (k_warn 5 ((r 42), bb, (r 111 0))).2.2)) 42 (upd (upd ((k_warn 5 ((r 42), bb, (r 111 0))).1) (52 + 4 * i) ((((k_warn 5 ((r 42), bb, (r 111 0))).1) (52 + 4 * i)) - ((q_min (z_long (q_clamp x 0 999) ((r 42) 0)) (5 * ((r 42) (52 + 4 * i)))) / 5))) (55 + 4 * i) (q_min 100 ((((k_warn 5 (r 42, bb, r 111 0)).1) (55 + 4 * i)) + (((q_min (z_long (q_clamp x 0 999) ((r 42) 0)) (5 * ((r 42) (52 + 4 * i)))) * 100) / (z_slow (((k_warn 5 (r 42, bb, r 111 0)).1) 0))))))) 42) 0) = z_boil ((upd (upd ((k_warn 5 ((r 42), bb, (r 111 0))).1) (52 + 4 * i) ((((k_warn 5 ((r 42), bb, (r 111 0))).1) (52 + 4 * i)) - ((q_min (z_long (q_clamp x 0 999) ((r 42) 0)) (5 * ((r 42) (52 + 4 * i)))) / 5))) (55 + 4 * i) (q_min 100 ((((k_warn 5 (r 42, bb, r 111 0)).1) (55 + 4 * i)) + (((q_min (z_long (q_clamp x 0 999) ((r 42) 0)) (5 * ((r 42) (52 + 4 * i)))) * 100) / (z_slow (((k_warn 5 (r 42, bb, r 111 0)).1) 0)))))) 0) from rfl]
          have hW : q_W E (rO E f M (rp (rp r 111 (fun _ => (k_warn 5 ((r 42), bb, (r 111 0))).2.2)) 42 (upd (upd ((k_warn 5 ((r 42), bb, (r 111 0))).1) (52 + 4 * i) ((((k_warn 5 ((r 42), bb, (r 111 0))).1) (52 + 4 * i)) - ((q_min (z_long (q_clamp x 0 999) ((r 42) 0)) (5 * ((r 42) (52 + 4 * i)))) / 5))) (55 + 4 * i) (q_min 100 ((((k_warn 5 (r 42, bb, r 111 0)).1) (55 + 4 * i)) + (((q_min (z_long (q_clamp x 0 999) ((r 42) 0)) (5 * ((r 42) (52 + 4 * i)))) * 100) / (z_slow (((k_warn 5 (r 42, bb, r 111 0)).1) 0)))))))) n H := hW
          rw [show (upd (upd ((k_warn 5 ((r 42), bb, (r 111 0))).1) (52 + 4 * i) ((((k_warn 5 ((r 42), bb, (r 111 0))).1) (52 + 4 * i)) - ((q_min (z_long (q_clamp x 0 999) ((r 42) 0)) (5 * ((r 42) (52 + 4 * i)))) / 5))) (55 + 4 * i) (q_min 100 ((((k_warn 5 (r 42, bb, r 111 0)).1) (55 + 4 * i)) + (((q_min (z_long (q_clamp x 0 999) ((r 42) 0)) (5 * ((r 42) (52 + 4 * i)))) * 100) / (z_slow (((k_warn 5 (r 42, bb, r 111 0)).1) 0)))))) 0 = ((k_warn 5 (r 42, bb, r 111 0)).1) 0 from ((z_un (by omega)).trans (z_un (by omega)))]
          refine q_ast hx hb hA hW hS (rO_42 (g := upd (upd ((k_warn 5 ((r 42), bb, (r 111 0))).1) (52 + 4 * i) ((((k_warn 5 ((r 42), bb, (r 111 0))).1) (52 + 4 * i)) - ((q_min (z_long (q_clamp x 0 999) ((r 42) 0)) (5 * ((r 42) (52 + 4 * i)))) / 5))) (55 + 4 * i) (q_min 100 ((((k_warn 5 (r 42, bb, r 111 0)).1) (55 + 4 * i)) + (((q_min (z_long (q_clamp x 0 999) ((r 42) 0)) (5 * ((r 42) (52 + 4 * i)))) * 100) / (z_slow (((k_warn 5 (r 42, bb, r 111 0)).1) 0)))))) rfl) (54 + 4 * i) rfl (by omega) (by decide) dX14_boils__164 (fun H locs hW hS => ?_)
          have hW := q_sa 42 hW rfl rfl
          rw [rp_d0] at hW
          refine lv_aload_n hx hb dX14_boils__165 rfl (lv_at hl 2 rfl) ?_
          refine lv_iload hx hb dX14_boils__166 (lv_at hl 0 rfl) ?_
          refine lv_iload_n hx hb dX14_boils__168 rfl (lv_at hl 3 rfl) ?_
          refine q_cv (va_runV (As := [.int (q_min (z_long (q_clamp x 0 999) ((r 42) 0)) (5 * ((r 42) (52 + 4 * i)))), .int (nI i)]) (rest := []) ⟨hx, hb, hml, hown, hts⟩ (kX14_goBy l E (rO E f M (rp (rp r 111 (fun _ => (k_warn 5 ((r 42), bb, (r 111 0))).2.2)) 42 (upd (upd (upd ((k_warn 5 ((r 42), bb, (r 111 0))).1) (52 + 4 * i) ((((k_warn 5 ((r 42), bb, (r 111 0))).1) (52 + 4 * i)) - ((q_min (z_long (q_clamp x 0 999) ((r 42) 0)) (5 * ((r 42) (52 + 4 * i)))) / 5))) (55 + 4 * i) (q_min 100 ((((k_warn 5 (r 42, bb, r 111 0)).1) (55 + 4 * i)) + (((q_min (z_long (q_clamp x 0 999) ((r 42) 0)) (5 * ((r 42) (52 + 4 * i)))) * 100) / (z_slow (((k_warn 5 (r 42, bb, r 111 0)).1) 0)))))) (54 + 4 * i) (z_boil (((k_warn 5 (r 42, bb, r 111 0)).1) 0))))) n M (rp (rp r 111 (fun _ => (k_warn 5 ((r 42), bb, (r 111 0))).2.2)) 42 (upd (upd (upd ((k_warn 5 ((r 42), bb, (r 111 0))).1) (52 + 4 * i) ((((k_warn 5 ((r 42), bb, (r 111 0))).1) (52 + 4 * i)) - ((q_min (z_long (q_clamp x 0 999) ((r 42) 0)) (5 * ((r 42) (52 + 4 * i)))) / 5))) (55 + 4 * i) (q_min 100 ((((k_warn 5 (r 42, bb, r 111 0)).1) (55 + 4 * i)) + (((q_min (z_long (q_clamp x 0 999) ((r 42) 0)) (5 * ((r 42) (52 + 4 * i)))) * 100) / (z_slow (((k_warn 5 (r 42, bb, r 111 0)).1) 0)))))) (54 + 4 * i) (z_boil (((k_warn 5 (r 42, bb, r 111 0)).1) 0)))) pn (q_min (z_long (q_clamp x 0 999) ((r 42) 0)) (5 * ((r 42) (52 + 4 * i)))) i rO_K hpn9 (by assumption) (by omega)) (cwV 2 hts gX14_boils__X14_goBy rfl rfl rfl (by decide +kernel) ⟨(Nat.le_of_ble_eq_true rfl), (Nat.le_of_ble_eq_true rfl)⟩) (q_pV hA hW hS (ci := 12) rfl rO_0) rfl rfl hl.1 rfl (lv_room (Nat.le_of_ble_eq_true rfl)) dX14_boils__169 ⟨Nat.le_of_ble_eq_true rfl, Nat.le_of_ble_eq_true rfl⟩) hS (fun f_169 n_169 H locs hp hW hS => ?_)
          obtain ⟨rfl, rfl⟩ := hp
          have hW : q_W E (rO E f M (rp (rp (rp r 111 (fun _ => (k_warn 5 ((r 42), bb, (r 111 0))).2.2)) 42 (upd (upd (upd ((k_warn 5 ((r 42), bb, (r 111 0))).1) (52 + 4 * i) ((((k_warn 5 ((r 42), bb, (r 111 0))).1) (52 + 4 * i)) - ((q_min (z_long (q_clamp x 0 999) ((r 42) 0)) (5 * ((r 42) (52 + 4 * i)))) / 5))) (55 + 4 * i) (q_min 100 ((((k_warn 5 (r 42, bb, r 111 0)).1) (55 + 4 * i)) + (((q_min (z_long (q_clamp x 0 999) ((r 42) 0)) (5 * ((r 42) (52 + 4 * i)))) * 100) / (z_slow (((k_warn 5 (r 42, bb, r 111 0)).1) 0)))))) (54 + 4 * i) (z_boil (((k_warn 5 (r 42, bb, r 111 0)).1) 0)))) 42 (z_pass (upd (upd (upd ((k_warn 5 ((r 42), bb, (r 111 0))).1) (52 + 4 * i) ((((k_warn 5 ((r 42), bb, (r 111 0))).1) (52 + 4 * i)) - ((q_min (z_long (q_clamp x 0 999) ((r 42) 0)) (5 * ((r 42) (52 + 4 * i)))) / 5))) (55 + 4 * i) (q_min 100 ((((k_warn 5 (r 42, bb, r 111 0)).1) (55 + 4 * i)) + (((q_min (z_long (q_clamp x 0 999) ((r 42) 0)) (5 * ((r 42) (52 + 4 * i)))) * 100) / (z_slow (((k_warn 5 (r 42, bb, r 111 0)).1) 0)))))) (54 + 4 * i) (z_boil (((k_warn 5 (r 42, bb, r 111 0)).1) 0))) (q_min (z_long (q_clamp x 0 999) ((r 42) 0)) (5 * ((r 42) (52 + 4 * i)))) i pn))) n H := by rw [rO_rO] at hW; exact hW
          rw [rp_d0] at hW
          have hW : q_W E (rO E f M (rp (rp r 111 (fun _ => (k_warn 5 ((r 42), bb, (r 111 0))).2.2)) 42 (z_pass (upd (upd (upd ((k_warn 5 ((r 42), bb, (r 111 0))).1) (52 + 4 * i) ((((k_warn 5 ((r 42), bb, (r 111 0))).1) (52 + 4 * i)) - ((q_min (z_long (q_clamp x 0 999) ((r 42) 0)) (5 * ((r 42) (52 + 4 * i)))) / 5))) (55 + 4 * i) (q_min 100 ((((k_warn 5 (r 42, bb, r 111 0)).1) (55 + 4 * i)) + (((q_min (z_long (q_clamp x 0 999) ((r 42) 0)) (5 * ((r 42) (52 + 4 * i)))) * 100) / (z_slow (((k_warn 5 (r 42, bb, r 111 0)).1) 0)))))) (54 + 4 * i) (z_boil (((k_warn 5 (r 42, bb, r 111 0)).1) 0))) (q_min (z_long (q_clamp x 0 999) ((r 42) 0)) (5 * ((r 42) (52 + 4 * i)))) i pn))) n H := hW
          have hW := q_rr 42 (g := z_pass (upd (upd (upd ((k_warn 5 ((r 42), bb, (r 111 0))).1) (52 + 4 * i) ((((k_warn 5 ((r 42), bb, (r 111 0))).1) (52 + 4 * i)) - ((q_min (z_long (q_clamp x 0 999) ((r 42) 0)) (5 * ((r 42) (52 + 4 * i)))) / 5))) (55 + 4 * i) (q_min 100 ((((k_warn 5 (r 42, bb, r 111 0)).1) (55 + 4 * i)) + (((q_min (z_long (q_clamp x 0 999) ((r 42) 0)) (5 * ((r 42) (52 + 4 * i)))) * 100) / (z_slow (((k_warn 5 (r 42, bb, r 111 0)).1) 0)))))) (54 + 4 * i) (z_boil (((k_warn 5 (r 42, bb, r 111 0)).1) 0))) (q_min (z_long (q_clamp x 0 999) ((r 42) 0)) (5 * ((r 42) (52 + 4 * i)))) i pn) hW rfl
          rw [rp_d0] at hW
          have hW := q_sc 110 (x := nI bb) hW hb9 (by decide)
          have hW := q_sc 111 (x := (k_warn 5 ((r 42), bb, (r 111 0))).2.2) hW rfl (by decide)
          rw [rp_d2] at hW
          exact q_vret hx hb hr hlocks hW hS ⟨(congrArg (fun z : q_KS => rO E f M (r_ks r z)) (show (k_boil pn i (fun _ _ => x) (r 9) ((r 42), bb, (r 111 0))) = (z_pass (upd (upd (upd ((k_warn 5 ((r 42), bb, (r 111 0))).1) (52 + 4 * i) ((((k_warn 5 ((r 42), bb, (r 111 0))).1) (52 + 4 * i)) - ((q_min (z_long (q_clamp x 0 999) ((r 42) 0)) (5 * ((r 42) (52 + 4 * i)))) / 5))) (55 + 4 * i) (q_min 100 ((((k_warn 5 (r 42, bb, r 111 0)).1) (55 + 4 * i)) + (((q_min (z_long (q_clamp x 0 999) ((r 42) 0)) (5 * ((r 42) (52 + 4 * i)))) * 100) / (z_slow (((k_warn 5 (r 42, bb, r 111 0)).1) 0)))))) (54 + 4 * i) (z_boil (((k_warn 5 (r 42, bb, r 111 0)).1) 0))) (q_min (z_long (q_clamp x 0 999) ((r 42) 0)) (5 * ((r 42) (52 + 4 * i)))) i pn, bb, (k_warn 5 ((r 42), bb, (r 111 0))).2.2) from (by show k_boil pn i (fun _ _ => x) (r 9) (r 42, bb, r 111 0) = _; unfold k_boil; rw [if_neg h12]; unfold k_boil2; rw [if_pos (Int32.not_le.mp c_62)]; unfold k_boil3 k_pass; congr 2; rw [if_pos (Int32.not_le.mp c_107)]; exact z_pan_u (by rw [z_un (by omega), z_un (by omega), z_us]) (by rw [z_un (by omega), z_un (by omega), z_un (by omega)]) z_us (by rw [z_un (by omega), z_us]; unfold q_quot; rw [if_neg (v_ok_slow (v_ok_k (kd := 5) (s := (r 42, bb, r 111 0)) hvo (by decide)))]) (fun q hq => by rw [z_un (by omega), z_un (by omega), z_un (by omega)])))), rfl⟩ (Nat.le_of_ble_eq_true rfl) (Nat.le_of_ble_eq_true rfl) dX14_boils__172
    · refine lv_aload_n hx hb dX14_boils__32 rfl (lv_at hl 1 rfl) ?_
      refine lv_iconst (v := 4) hx hb dX14_boils__33 (by decide) ?_
      refine q_cv (va_runV (As := [.int 4]) (rest := []) ⟨hx, hb, hml, hown, hts⟩ (kX14_warn l E (rO E f M r) n M r 4 bb rO_K (by assumption) (by decide) hb9 (by first | assumption | decide)) (cwV 1 hts gX14_boils__X14_warn rfl rfl rfl (by decide +kernel) ⟨(Nat.le_of_ble_eq_true rfl), (Nat.le_of_ble_eq_true rfl)⟩) (q_pV hA hW hS (ci := 12) rfl rO_0) rfl rfl hl.1 rfl (lv_room (Nat.le_of_ble_eq_true rfl)) dX14_boils__34 ⟨Nat.le_of_ble_eq_true rfl, Nat.le_of_ble_eq_true rfl⟩) hS (fun f_34 n_34 H locs hp hW hS => ?_)
      obtain ⟨rfl, rfl⟩ := hp
      have hW : q_W E (rO E f M (rp (rp r 42 ((k_warn 4 ((r 42), bb, (r 111 0))).1)) 111 (fun _ => (k_warn 4 ((r 42), bb, (r 111 0))).2.2))) n H := by rw [rO_rO] at hW; exact hW
      have hW : q_W E (rO E f M (rp (rp r 42 ((k_warn 4 ((r 42), bb, (r 111 0))).1)) 111 (fun _ => (k_warn 4 ((r 42), bb, (r 111 0))).2.2))) n H := hW
      have hW := q_rr 42 (g := (k_warn 4 ((r 42), bb, (r 111 0))).1) hW rfl
      rw [rp_d1] at hW
      have hW := q_sc 110 (x := nI bb) hW hb9 (by decide)
      have hW := q_sc 111 (x := (k_warn 4 ((r 42), bb, (r 111 0))).2.2) hW rfl (by decide)
      rw [rp_d2] at hW
      exact q_vret hx hb hr hlocks hW hS ⟨(congrArg (fun z : q_KS => rO E f M (r_ks r z)) (show (k_boil pn i (fun _ _ => x) (r 9) ((r 42), bb, (r 111 0))) = ((k_warn 4 ((r 42), bb, (r 111 0))).1, bb, (k_warn 4 ((r 42), bb, (r 111 0))).2.2) from (by show k_boil pn i (fun _ _ => x) (r 9) (r 42, bb, r 111 0) = _; unfold k_boil; rw [if_pos (Or.inr (Int32.not_le.mp c_29))]; rfl))), rfl⟩ (Nat.le_of_ble_eq_true rfl) (Nat.le_of_ble_eq_true rfl) dX14_boils__37
