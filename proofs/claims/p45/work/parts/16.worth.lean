section QO
variable {p : Program} {l : Launch} {e : Env} {R : Room} {s : State} {m : MethodId} {args : Array Value} {below : List Frame} {meth : Method} {c : Code} {H : Heap} {locs : List Loc} {cells slots : Nat} {Q : State → Prop}
variable {cc : ByteArray} {pc : Nat} {ls : Array Slot} {rest : List Value}
theorem q_aload_nQ (hx : p.tables.exec = Jvm.exec) (hb : c.code = cc) {k : Fin 4} {i : Nat} {x : Option Nat} (hdg : decode cc pc = .ok (.aload_n k, 1)) (hi : (k : Nat) = i) (hl : ls[i]? = some (.val (va_rf x)))
    (kk : W p l e R s m args below meth c H locs cells slots Q (F0 m (pc + 1) ls (va_rf x :: rest))) : W p l e R s m args below meth c H locs cells slots Q (F0 m pc ls rest) := by
  cases x with
  | none => exact lv_aload_nN hx hb hdg hi hl kk
  | some x => exact lv_aload_n hx hb hdg hi hl kk
theorem q_aloadQ (hx : p.tables.exec = Jvm.exec) (hb : c.code = cc) {i : Nat} {x : Option Nat} (hdg : decode cc pc = .ok (.aload i, 2)) (hl : ls[i]? = some (.val (va_rf x)))
    (kk : W p l e R s m args below meth c H locs cells slots Q (F0 m (pc + 2) ls (va_rf x :: rest))) : W p l e R s m args below meth c H locs cells slots Q (F0 m pc ls rest) := by
  cases x with
  | none => exact lv_aloadN hx hb hdg hl kk
  | some x => exact lv_aload hx hb hdg hl kk
theorem q_astore_nQ (hx : p.tables.exec = Jvm.exec) (hb : c.code = cc) {k : Fin 4} {i nL : Nat} {x : Option Nat} {lv lv' : List (Nat × Value)} (hdg : decode cc pc = .ok (.astore_n k, 1)) (hi : (k : Nat) = i) (h : lv_has ls nL lv) (hn : i < nL) (hl : (i, va_rf x) :: lv.filter (fun q => !(q.1 == i) && !(q.1 + 1 == i && q.2.category == 2)) = lv')
    (kk : ∀ ls' : Array Slot, lv_has ls' nL lv' → W p l e R s m args below meth c H locs cells slots Q (F0 m (pc + 1) ls' rest)) : W p l e R s m args below meth c H locs cells slots Q (F0 m pc ls (va_rf x :: rest)) := by
  cases x with
  | none => exact lv_astore_nN hx hb hdg hi h hn hl kk
  | some x => exact lv_astore_n hx hb hdg hi h hn hl kk
theorem q_astoreQ (hx : p.tables.exec = Jvm.exec) (hb : c.code = cc) {i nL : Nat} {x : Option Nat} {lv lv' : List (Nat × Value)} (hdg : decode cc pc = .ok (.astore i, 2)) (h : lv_has ls nL lv) (hn : i < nL) (hl : (i, va_rf x) :: lv.filter (fun q => !(q.1 == i) && !(q.1 + 1 == i && q.2.category == 2)) = lv')
    (kk : ∀ ls' : Array Slot, lv_has ls' nL lv' → W p l e R s m args below meth c H locs cells slots Q (F0 m (pc + 2) ls' rest)) : W p l e R s m args below meth c H locs cells slots Q (F0 m pc ls (va_rf x :: rest)) := by
  cases x with
  | none => exact lv_astoreN hx hb hdg h hn hl kk
  | some x => exact lv_astore hx hb hdg h hn hl kk
end QO
theorem q_ord_at : ∀ i, i < 41 → q_ord.getD i 0 = nI i := by decide +kernel
set_option maxHeartbeats 4000000 in
set_option maxRecDepth 100000 in
/-- Enum.ordinal() of the i-th constant -/
theorem q_ordinal (l : Launch) (E : q_E) (f : q_H) (n : Nat) (i : Nat) (hi : i < 41) : Met l yJx29ce0_ordinal_8abf5 wsJx29ce0_ordinal_8abf5 ({ frames := 0, cells := 0, slots := 0, locals := 0 }) (q_P E [.ref (E.2.2.2 i)] f n) (q_Qi E (fun r f1 n1 => nI i = r ∧ f = f1 ∧ n = n1)) 0 0 (q_ge E) := by
  refine Met.ofW (cc := cJx29ce0_ordinal_8abf5) (maxL := 1) (ret := (some .int)) (by decide) rfl ?_
  intro p e s m args below meth c s₁ B hml hv
  obtain ⟨rfl, hA, hW⟩ := hv
  have hx := B.exec
  have hb := B.bytes
  have hr := B.returns
  have hts := atoms_spec (ws := wsJx29ce0_ordinal_8abf5) B.pre
  have hown : s.vm.findClass RJx29ce0 = some m.cls := findClass_of_methodNamed B.named
  have hlocks := B.notSynchronized
  have hS : va_S (q_ge E) s.heap s.heap [] := va_S.rf
  have hl := lv_entry ([.ref (E.2.2.2 i)]) (n := 1) (Nat.le_of_ble_eq_true rfl)
  rw [lg_entry_eq]
  generalize (lg_sl ([.ref (E.2.2.2 i)]) ++ List.replicate (1 - (lg_sl ([.ref (E.2.2.2 i)])).length) Slot.unset).toArray = ls at hl ⊢
  have hl : lv_has ls 1 [(0, .ref (E.2.2.2 i))] := hl
  refine lv_aload_n hx hb dJx29ce0_ordinal_8abf5_0 rfl (lv_at hl 0 rfl) ?_
  refine va_getE (i := i) (q := ("java/lang/Enum", "ordinal", "I", q_ord)) hx hb hA.2.2.1.1 hi hS hown List.mem_cons_self (hts (.fieldLink RJx29ce0 7 "java/lang/Enum" "ordinal" "I") (by decide +kernel)) (fun _ h9 => h9) dJx29ce0_ordinal_8abf5_1 ?_
  exact q_iret hx hb hr hlocks hW hS ⟨(q_ord_at i hi).symm, rfl, rfl⟩ (Nat.le_of_ble_eq_true rfl) (Nat.le_of_ble_eq_true rfl) dJx29ce0_ordinal_8abf5_4

set_option maxHeartbeats 4000000 in
set_option maxRecDepth 100000 in
theorem kX3_contentOf_4 (l : Launch) (E : q_E) (f : q_H) (n : Nat) (a : Nat) (h w ml t d : Int32) (h0 : f a = some (cPan h w ml t d)) : Met l yX3_contentOf wsX3_contentOf ({ frames := 1, cells := 0, slots := 0, locals := 20 }) (q_P E [.ref a, .ref (E.2.2.2 4)] f n) (q_Qi E (fun r f1 n1 => w = r ∧ f = f1 ∧ n = n1)) 0 0 (q_ge E) := by
  refine Met.ofW (cc := cX3_contentOf) (maxL := 2) (ret := (some .int)) (by decide) rfl ?_
  intro p e s m args below meth c s₁ B hml hv
  obtain ⟨rfl, hA, hW⟩ := hv
  have hx := B.exec
  have hb := B.bytes
  have hr := B.returns
  have hts := atoms_spec (ws := wsX3_contentOf) B.pre
  have hown : s.vm.findClass RX3 = some m.cls := findClass_of_methodNamed B.named
  have hlocks := B.notSynchronized
  have hS : va_S (q_ge E) s.heap s.heap [] := va_S.rf
  have iX7 : ∀ w ∈ wsX70, w ∈ wsX3_contentOf := by decide +kernel
  have hl := lv_entry ([.ref a, .ref (E.2.2.2 4)]) (n := 2) (Nat.le_of_ble_eq_true rfl)
  rw [lg_entry_eq]
  generalize (lg_sl ([.ref a, .ref (E.2.2.2 4)]) ++ List.replicate (2 - (lg_sl ([.ref a, .ref (E.2.2.2 4)])).length) Slot.unset).toArray = ls at hl ⊢
  have hl : lv_has ls 2 [(0, .ref a), (1, .ref (E.2.2.2 4))] := hl
  refine lv_aload_n hx hb dX3_contentOf_0 rfl (lv_at hl 0 rfl) ?_
  refine lv_ifnonnull (tgt := 6) hx hb dX3_contentOf_1 (by decide) ?_
  refine va_gets hx hb hA.2.2.1.2.2.2.1.1 hS hown (hts (.fieldLink RX3 50 "HighRecipes$1" "$SwitchMap$HighRecipes$Kind" "[I") (by decide +kernel)) (fun _ h9 => h9) dX3_contentOf_6 ?_
  refine lv_aload_n hx hb dX3_contentOf_9 rfl (lv_at hl 1 rfl) ?_
  refine q_ci (va_runU (As := []) (rest := [.ref (E.2.2.2 101)]) ⟨hx, hb, hml, hown, hts⟩ (q_ordinal l E f n 4 (by decide)) (va_cwU 0 hts gX3_contentOf_Jx29ce0_ordinal_8abf5_u60X5 rfl rfl rfl rfl (by decide +kernel) ⟨(Nat.le_of_ble_eq_true rfl), (Nat.le_of_ble_eq_true rfl)⟩) ⟨q_P.blind, va_recvE hA.2.2.1.1 (by decide) hS, fun U hU hWm => ⟨rfl, hA.go hS hU hWm, by rw [hU]; exact hW⟩⟩ rfl rfl hl.1 rfl (lv_room (Nat.le_of_ble_eq_true rfl)) dX3_contentOf_10 ⟨(Nat.le_of_ble_eq_true rfl), (Nat.le_of_ble_eq_true rfl)⟩) hS (fun r_10 f_10 n_10 H locs hp hW hS => ?_)
  obtain ⟨rfl, rfl, rfl⟩ := hp
  refine va_ti hx hb hA.2.2.1.2.2.2.1.2 hS (vp_in_nI (by decide) (by decide)) (v := .int 19) (by rw [nI_clamp (by decide)]; rfl) dX3_contentOf_13 ?_
  refine lv_lookup (x := 19) (off := 42) (tgt := 56) hx hb dX3_contentOf_14 (by decide) (by decide) (by decide) ?_
  refine lv_aload_n hx hb dX3_contentOf_56 rfl (lv_at hl 0 rfl) ?_
  refine q_getN hx hb hts hown hA hW iX7 h0 rfl 1 (by decide) (va_Nw.use rfl (hA.2.2.2.1 ("HighRecipes$Cooking", 163, "HighRecipes$Pan", "water", "I", "HighRecipes") (by decide +kernel))) (fun _ h9 => h9) (v := .int w) rfl dX3_contentOf_57 ?_
  exact q_iret hx hb hr hlocks hW hS ⟨rfl, rfl, rfl⟩ (Nat.le_of_ble_eq_true rfl) (Nat.le_of_ble_eq_true rfl) dX3_contentOf_60

set_option maxHeartbeats 4000000 in
set_option maxRecDepth 100000 in
theorem kX3_contentOf_5 (l : Launch) (E : q_E) (f : q_H) (n : Nat) (a : Nat) (h w ml t d : Int32) (h0 : f a = some (cPan h w ml t d)) : Met l yX3_contentOf wsX3_contentOf ({ frames := 1, cells := 0, slots := 0, locals := 20 }) (q_P E [.ref a, .ref (E.2.2.2 5)] f n) (q_Qi E (fun r f1 n1 => ml = r ∧ f = f1 ∧ n = n1)) 0 0 (q_ge E) := by
  refine Met.ofW (cc := cX3_contentOf) (maxL := 2) (ret := (some .int)) (by decide) rfl ?_
  intro p e s m args below meth c s₁ B hml hv
  obtain ⟨rfl, hA, hW⟩ := hv
  have hx := B.exec
  have hb := B.bytes
  have hr := B.returns
  have hts := atoms_spec (ws := wsX3_contentOf) B.pre
  have hown : s.vm.findClass RX3 = some m.cls := findClass_of_methodNamed B.named
  have hlocks := B.notSynchronized
  have hS : va_S (q_ge E) s.heap s.heap [] := va_S.rf
  have iX7 : ∀ w ∈ wsX70, w ∈ wsX3_contentOf := by decide +kernel
  have hl := lv_entry ([.ref a, .ref (E.2.2.2 5)]) (n := 2) (Nat.le_of_ble_eq_true rfl)
  rw [lg_entry_eq]
  generalize (lg_sl ([.ref a, .ref (E.2.2.2 5)]) ++ List.replicate (2 - (lg_sl ([.ref a, .ref (E.2.2.2 5)])).length) Slot.unset).toArray = ls at hl ⊢
  have hl : lv_has ls 2 [(0, .ref a), (1, .ref (E.2.2.2 5))] := hl
  refine lv_aload_n hx hb dX3_contentOf_0 rfl (lv_at hl 0 rfl) ?_
  refine lv_ifnonnull (tgt := 6) hx hb dX3_contentOf_1 (by decide) ?_
  refine va_gets hx hb hA.2.2.1.2.2.2.1.1 hS hown (hts (.fieldLink RX3 50 "HighRecipes$1" "$SwitchMap$HighRecipes$Kind" "[I") (by decide +kernel)) (fun _ h9 => h9) dX3_contentOf_6 ?_
  refine lv_aload_n hx hb dX3_contentOf_9 rfl (lv_at hl 1 rfl) ?_
  refine q_ci (va_runU (As := []) (rest := [.ref (E.2.2.2 101)]) ⟨hx, hb, hml, hown, hts⟩ (q_ordinal l E f n 5 (by decide)) (va_cwU 0 hts gX3_contentOf_Jx29ce0_ordinal_8abf5_u60X5 rfl rfl rfl rfl (by decide +kernel) ⟨(Nat.le_of_ble_eq_true rfl), (Nat.le_of_ble_eq_true rfl)⟩) ⟨q_P.blind, va_recvE hA.2.2.1.1 (by decide) hS, fun U hU hWm => ⟨rfl, hA.go hS hU hWm, by rw [hU]; exact hW⟩⟩ rfl rfl hl.1 rfl (lv_room (Nat.le_of_ble_eq_true rfl)) dX3_contentOf_10 ⟨(Nat.le_of_ble_eq_true rfl), (Nat.le_of_ble_eq_true rfl)⟩) hS (fun r_10 f_10 n_10 H locs hp hW hS => ?_)
  obtain ⟨rfl, rfl, rfl⟩ := hp
  refine va_ti hx hb hA.2.2.1.2.2.2.1.2 hS (vp_in_nI (by decide) (by decide)) (v := .int 20) (by rw [nI_clamp (by decide)]; rfl) dX3_contentOf_13 ?_
  refine lv_lookup (x := 20) (off := 47) (tgt := 61) hx hb dX3_contentOf_14 (by decide) (by decide) (by decide) ?_
  refine lv_aload_n hx hb dX3_contentOf_61 rfl (lv_at hl 0 rfl) ?_
  refine q_getN hx hb hts hown hA hW iX7 h0 rfl 2 (by decide) (va_Nw.use rfl (hA.2.2.2.1 ("HighRecipes$Cooking", 172, "HighRecipes$Pan", "meal", "I", "HighRecipes") (by decide +kernel))) (fun _ h9 => h9) (v := .int ml) rfl dX3_contentOf_62 ?_
  exact q_iret hx hb hr hlocks hW hS ⟨rfl, rfl, rfl⟩ (Nat.le_of_ble_eq_true rfl) (Nat.le_of_ble_eq_true rfl) dX3_contentOf_65

set_option maxHeartbeats 4000000 in
set_option maxRecDepth 100000 in
theorem kX3_contentOf_7 (l : Launch) (E : q_E) (f : q_H) (n : Nat) (a : Nat) (h w ml t d : Int32) (h0 : f a = some (cPan h w ml t d)) : Met l yX3_contentOf wsX3_contentOf ({ frames := 1, cells := 0, slots := 0, locals := 20 }) (q_P E [.ref a, .ref (E.2.2.2 7)] f n) (q_Qi E (fun r f1 n1 => t = r ∧ f = f1 ∧ n = n1)) 0 0 (q_ge E) := by
  refine Met.ofW (cc := cX3_contentOf) (maxL := 2) (ret := (some .int)) (by decide) rfl ?_
  intro p e s m args below meth c s₁ B hml hv
  obtain ⟨rfl, hA, hW⟩ := hv
  have hx := B.exec
  have hb := B.bytes
  have hr := B.returns
  have hts := atoms_spec (ws := wsX3_contentOf) B.pre
  have hown : s.vm.findClass RX3 = some m.cls := findClass_of_methodNamed B.named
  have hlocks := B.notSynchronized
  have hS : va_S (q_ge E) s.heap s.heap [] := va_S.rf
  have iX7 : ∀ w ∈ wsX70, w ∈ wsX3_contentOf := by decide +kernel
  have hl := lv_entry ([.ref a, .ref (E.2.2.2 7)]) (n := 2) (Nat.le_of_ble_eq_true rfl)
  rw [lg_entry_eq]
  generalize (lg_sl ([.ref a, .ref (E.2.2.2 7)]) ++ List.replicate (2 - (lg_sl ([.ref a, .ref (E.2.2.2 7)])).length) Slot.unset).toArray = ls at hl ⊢
  have hl : lv_has ls 2 [(0, .ref a), (1, .ref (E.2.2.2 7))] := hl
  refine lv_aload_n hx hb dX3_contentOf_0 rfl (lv_at hl 0 rfl) ?_
  refine lv_ifnonnull (tgt := 6) hx hb dX3_contentOf_1 (by decide) ?_
  refine va_gets hx hb hA.2.2.1.2.2.2.1.1 hS hown (hts (.fieldLink RX3 50 "HighRecipes$1" "$SwitchMap$HighRecipes$Kind" "[I") (by decide +kernel)) (fun _ h9 => h9) dX3_contentOf_6 ?_
  refine lv_aload_n hx hb dX3_contentOf_9 rfl (lv_at hl 1 rfl) ?_
  refine q_ci (va_runU (As := []) (rest := [.ref (E.2.2.2 101)]) ⟨hx, hb, hml, hown, hts⟩ (q_ordinal l E f n 7 (by decide)) (va_cwU 0 hts gX3_contentOf_Jx29ce0_ordinal_8abf5_u60X5 rfl rfl rfl rfl (by decide +kernel) ⟨(Nat.le_of_ble_eq_true rfl), (Nat.le_of_ble_eq_true rfl)⟩) ⟨q_P.blind, va_recvE hA.2.2.1.1 (by decide) hS, fun U hU hWm => ⟨rfl, hA.go hS hU hWm, by rw [hU]; exact hW⟩⟩ rfl rfl hl.1 rfl (lv_room (Nat.le_of_ble_eq_true rfl)) dX3_contentOf_10 ⟨(Nat.le_of_ble_eq_true rfl), (Nat.le_of_ble_eq_true rfl)⟩) hS (fun r_10 f_10 n_10 H locs hp hW hS => ?_)
  obtain ⟨rfl, rfl, rfl⟩ := hp
  refine va_ti hx hb hA.2.2.1.2.2.2.1.2 hS (vp_in_nI (by decide) (by decide)) (v := .int 4) (by rw [nI_clamp (by decide)]; rfl) dX3_contentOf_13 ?_
  refine lv_lookup (x := 4) (off := 52) (tgt := 66) hx hb dX3_contentOf_14 (by decide) (by decide) (by decide) ?_
  refine lv_aload_n hx hb dX3_contentOf_66 rfl (lv_at hl 0 rfl) ?_
  refine q_getN hx hb hts hown hA hW iX7 h0 rfl 3 (by decide) (va_Nw.use rfl (hA.2.2.2.1 ("HighRecipes$Cooking", 160, "HighRecipes$Pan", "heat", "I", "HighRecipes") (by decide +kernel))) (fun _ h9 => h9) (v := .int t) rfl dX3_contentOf_67 ?_
  exact q_iret hx hb hr hlocks hW hS ⟨rfl, rfl, rfl⟩ (Nat.le_of_ble_eq_true rfl) (Nat.le_of_ble_eq_true rfl) dX3_contentOf_70

set_option maxHeartbeats 4000000 in
set_option maxRecDepth 100000 in
theorem kX3_contentOf_25 (l : Launch) (E : q_E) (f : q_H) (n : Nat) (a : Nat) (h w ml t d : Int32) (h0 : f a = some (cPan h w ml t d)) : Met l yX3_contentOf wsX3_contentOf ({ frames := 1, cells := 0, slots := 0, locals := 20 }) (q_P E [.ref a, .ref (E.2.2.2 25)] f n) (q_Qi E (fun r f1 n1 => d = r ∧ f = f1 ∧ n = n1)) 0 0 (q_ge E) := by
  refine Met.ofW (cc := cX3_contentOf) (maxL := 2) (ret := (some .int)) (by decide) rfl ?_
  intro p e s m args below meth c s₁ B hml hv
  obtain ⟨rfl, hA, hW⟩ := hv
  have hx := B.exec
  have hb := B.bytes
  have hr := B.returns
  have hts := atoms_spec (ws := wsX3_contentOf) B.pre
  have hown : s.vm.findClass RX3 = some m.cls := findClass_of_methodNamed B.named
  have hlocks := B.notSynchronized
  have hS : va_S (q_ge E) s.heap s.heap [] := va_S.rf
  have iX7 : ∀ w ∈ wsX70, w ∈ wsX3_contentOf := by decide +kernel
  have hl := lv_entry ([.ref a, .ref (E.2.2.2 25)]) (n := 2) (Nat.le_of_ble_eq_true rfl)
  rw [lg_entry_eq]
  generalize (lg_sl ([.ref a, .ref (E.2.2.2 25)]) ++ List.replicate (2 - (lg_sl ([.ref a, .ref (E.2.2.2 25)])).length) Slot.unset).toArray = ls at hl ⊢
  have hl : lv_has ls 2 [(0, .ref a), (1, .ref (E.2.2.2 25))] := hl
  refine lv_aload_n hx hb dX3_contentOf_0 rfl (lv_at hl 0 rfl) ?_
  refine lv_ifnonnull (tgt := 6) hx hb dX3_contentOf_1 (by decide) ?_
  refine va_gets hx hb hA.2.2.1.2.2.2.1.1 hS hown (hts (.fieldLink RX3 50 "HighRecipes$1" "$SwitchMap$HighRecipes$Kind" "[I") (by decide +kernel)) (fun _ h9 => h9) dX3_contentOf_6 ?_
  refine lv_aload_n hx hb dX3_contentOf_9 rfl (lv_at hl 1 rfl) ?_
  refine q_ci (va_runU (As := []) (rest := [.ref (E.2.2.2 101)]) ⟨hx, hb, hml, hown, hts⟩ (q_ordinal l E f n 25 (by decide)) (va_cwU 0 hts gX3_contentOf_Jx29ce0_ordinal_8abf5_u60X5 rfl rfl rfl rfl (by decide +kernel) ⟨(Nat.le_of_ble_eq_true rfl), (Nat.le_of_ble_eq_true rfl)⟩) ⟨q_P.blind, va_recvE hA.2.2.1.1 (by decide) hS, fun U hU hWm => ⟨rfl, hA.go hS hU hWm, by rw [hU]; exact hW⟩⟩ rfl rfl hl.1 rfl (lv_room (Nat.le_of_ble_eq_true rfl)) dX3_contentOf_10 ⟨(Nat.le_of_ble_eq_true rfl), (Nat.le_of_ble_eq_true rfl)⟩) hS (fun r_10 f_10 n_10 H locs hp hW hS => ?_)
  obtain ⟨rfl, rfl, rfl⟩ := hp
  refine va_ti hx hb hA.2.2.1.2.2.2.1.2 hS (vp_in_nI (by decide) (by decide)) (v := .int 21) (by rw [nI_clamp (by decide)]; rfl) dX3_contentOf_13 ?_
  refine lv_lookup (x := 21) (off := 57) (tgt := 71) hx hb dX3_contentOf_14 (by decide) (by decide) (by decide) ?_
  refine lv_aload_n hx hb dX3_contentOf_71 rfl (lv_at hl 0 rfl) ?_
  refine q_getN hx hb hts hown hA hW iX7 h0 rfl 4 (by decide) (va_Nw.use rfl (hA.2.2.2.1 ("HighRecipes$Cooking", 181, "HighRecipes$Pan", "done", "I", "HighRecipes") (by decide +kernel))) (fun _ h9 => h9) (v := .int d) rfl dX3_contentOf_72 ?_
  exact q_iret hx hb hr hlocks hW hS ⟨rfl, rfl, rfl⟩ (Nat.le_of_ble_eq_true rfl) (Nat.le_of_ble_eq_true rfl) dX3_contentOf_75

set_option maxHeartbeats 4000000 in
set_option maxRecDepth 100000 in
theorem kX3_contentOf_26 (l : Launch) (E : q_E) (f : q_H) (n : Nat) (a : Nat) (h w ml t d : Int32) (h0 : f a = some (cPan h w ml t d)) : Met l yX3_contentOf wsX3_contentOf ({ frames := 1, cells := 0, slots := 0, locals := 20 }) (q_P E [.ref a, .ref (E.2.2.2 26)] f n) (q_Qi E (fun r f1 n1 => h - w - ml = r ∧ f = f1 ∧ n = n1)) 0 0 (q_ge E) := by
  refine Met.ofW (cc := cX3_contentOf) (maxL := 2) (ret := (some .int)) (by decide) rfl ?_
  intro p e s m args below meth c s₁ B hml hv
  obtain ⟨rfl, hA, hW⟩ := hv
  have hx := B.exec
  have hb := B.bytes
  have hr := B.returns
  have hts := atoms_spec (ws := wsX3_contentOf) B.pre
  have hown : s.vm.findClass RX3 = some m.cls := findClass_of_methodNamed B.named
  have hlocks := B.notSynchronized
  have hS : va_S (q_ge E) s.heap s.heap [] := va_S.rf
  have hl := lv_entry ([.ref a, .ref (E.2.2.2 26)]) (n := 2) (Nat.le_of_ble_eq_true rfl)
  rw [lg_entry_eq]
  generalize (lg_sl ([.ref a, .ref (E.2.2.2 26)]) ++ List.replicate (2 - (lg_sl ([.ref a, .ref (E.2.2.2 26)])).length) Slot.unset).toArray = ls at hl ⊢
  have hl : lv_has ls 2 [(0, .ref a), (1, .ref (E.2.2.2 26))] := hl
  refine lv_aload_n hx hb dX3_contentOf_0 rfl (lv_at hl 0 rfl) ?_
  refine lv_ifnonnull (tgt := 6) hx hb dX3_contentOf_1 (by decide) ?_
  refine va_gets hx hb hA.2.2.1.2.2.2.1.1 hS hown (hts (.fieldLink RX3 50 "HighRecipes$1" "$SwitchMap$HighRecipes$Kind" "[I") (by decide +kernel)) (fun _ h9 => h9) dX3_contentOf_6 ?_
  refine lv_aload_n hx hb dX3_contentOf_9 rfl (lv_at hl 1 rfl) ?_
  refine q_ci (va_runU (As := []) (rest := [.ref (E.2.2.2 101)]) ⟨hx, hb, hml, hown, hts⟩ (q_ordinal l E f n 26 (by decide)) (va_cwU 0 hts gX3_contentOf_Jx29ce0_ordinal_8abf5_u60X5 rfl rfl rfl rfl (by decide +kernel) ⟨(Nat.le_of_ble_eq_true rfl), (Nat.le_of_ble_eq_true rfl)⟩) ⟨q_P.blind, va_recvE hA.2.2.1.1 (by decide) hS, fun U hU hWm => ⟨rfl, hA.go hS hU hWm, by rw [hU]; exact hW⟩⟩ rfl rfl hl.1 rfl (lv_room (Nat.le_of_ble_eq_true rfl)) dX3_contentOf_10 ⟨(Nat.le_of_ble_eq_true rfl), (Nat.le_of_ble_eq_true rfl)⟩) hS (fun r_10 f_10 n_10 H locs hp hW hS => ?_)
  obtain ⟨rfl, rfl, rfl⟩ := hp
  refine va_ti hx hb hA.2.2.1.2.2.2.1.2 hS (vp_in_nI (by decide) (by decide)) (v := .int 0) (by rw [nI_clamp (by decide)]; rfl) dX3_contentOf_13 ?_
  refine lv_lookup (x := 0) (off := 62) (tgt := 76) hx hb dX3_contentOf_14 (by decide) (by decide) (by decide) ?_
  refine lv_aload_n hx hb dX3_contentOf_76 rfl (lv_at hl 0 rfl) ?_
  refine q_ci (va_runV (As := []) (rest := []) ⟨hx, hb, hml, hown, hts⟩ (kX7_space l E f n a h w ml t d h0) (cwV 0 hts gX3_contentOf_X7_space rfl rfl rfl (by decide +kernel) ⟨(Nat.le_of_ble_eq_true rfl), (Nat.le_of_ble_eq_true rfl)⟩) (q_pV hA hW hS (ci := 7) rfl h0) rfl rfl hl.1 rfl (lv_room (Nat.le_of_ble_eq_true rfl)) dX3_contentOf_77 ⟨Nat.le_of_ble_eq_true rfl, Nat.le_of_ble_eq_true rfl⟩) hS (fun r_77 f_77 n_77 H locs hp hW hS => ?_)
  obtain ⟨rfl, rfl, rfl⟩ := hp
  have hW : q_W E (f) n H := hW
  exact q_iret hx hb hr hlocks hW hS ⟨rfl, rfl, rfl⟩ (Nat.le_of_ble_eq_true rfl) (Nat.le_of_ble_eq_true rfl) dX3_contentOf_80

set_option maxHeartbeats 4000000 in
set_option maxRecDepth 100000 in
theorem kX3_worth_38 (l : Launch) (E : q_E) (f : q_H) (n : Nat) (ck k bk : Nat) (hd v : Nat → Int32) (b w : Int32) (a : Nat) (h : Option Nat) (ar dp : Nat) (num : Int32) (lf rg : Option Nat) (hc : f ck = some (cCook k b w)) (hv : f a = some (cVal E 38 num lf rg h)) (hk : KIT E f k bk hd v) (har : ar < 5) : Met l yX3_worth wsX3_worth ({ frames := 3 * dp + 3, cells := 0, slots := 0, locals := 100 * dp + 100 }) (q_P E [.ref ck, .ref a, .int (nI ar)] f n) (q_Qi E (fun r f1 n1 => num = r ∧ f = f1 ∧ n = n1)) 0 0 (q_ge E) := by
  refine Met.ofW (cc := cX3_worth) (maxL := 3) (ret := (some .int)) (by decide) rfl ?_
  intro p e s m args below meth c s₁ B hml hv
  obtain ⟨rfl, hA, hW⟩ := hv
  have hx := B.exec
  have hb := B.bytes
  have hr := B.returns
  have hts := atoms_spec (ws := wsX3_worth) B.pre
  have hown : s.vm.findClass RX3 = some m.cls := findClass_of_methodNamed B.named
  have hlocks := B.notSynchronized
  have hS : va_S (q_ge E) s.heap s.heap [] := va_S.rf
  have iX11 : ∀ w ∈ wsX110, w ∈ wsX3_worth := by decide +kernel
  have hl := lv_entry ([.ref ck, .ref a, .int (nI ar)]) (n := 3) (Nat.le_of_ble_eq_true rfl)
  rw [lg_entry_eq]
  generalize (lg_sl ([.ref ck, .ref a, .int (nI ar)]) ++ List.replicate (3 - (lg_sl ([.ref ck, .ref a, .int (nI ar)])).length) Slot.unset).toArray = ls at hl ⊢
  have hl : lv_has ls 3 [(0, .ref ck), (1, .ref a), (2, .int (nI ar))] := hl
  refine lv_aload_n hx hb dX3_worth_0 rfl (lv_at hl 1 rfl) ?_
  refine lv_ifnull hx hb dX3_worth_1 ?_
  refine lv_iload_n hx hb dX3_worth_4 rfl (lv_at hl 2 rfl) ?_
  refine lv_iconst (v := 5) hx hb dX3_worth_5 (by decide) ?_
  refine lv_icmp_lt (tgt := 11) hx hb dX3_worth_6 (by decide) (fun c_6 => ?_) (fun c_6 => absurd (nI_lt har (by decide)) c_6)
  refine va_gets hx hb hA.2.2.1.2.2.2.1.1 hS hown (hts (.fieldLink RX3 50 "HighRecipes$1" "$SwitchMap$HighRecipes$Kind" "[I") (by decide +kernel)) (fun _ h9 => h9) dX3_worth_11 ?_
  refine lv_aload_n hx hb dX3_worth_14 rfl (lv_at hl 1 rfl) ?_
  refine q_getN hx hb hts hown hA hW iX11 hv rfl 0 (by decide) (va_Nw.use rfl (hA.2.2.2.1 ("HighRecipes$Cooking", 196, "HighRecipes$Value", "kind", "LHighRecipes$Kind;", "HighRecipes") (by decide +kernel))) (fun _ h9 => h9) (v := .ref (E.2.2.2 38)) rfl dX3_worth_15 ?_
  refine q_ci (va_runU (As := []) (rest := [.ref (E.2.2.2 101)]) ⟨hx, hb, hml, hown, hts⟩ (q_ordinal l E f n 38 (by decide)) (va_cwU 0 hts gX3_worth_Jx29ce0_ordinal_8abf5_u60X5 rfl rfl rfl rfl (by decide +kernel) ⟨(by show 0 + 1 ≤ 3 * dp + 3; omega), (by show 8 + (1 + 11) + 0 ≤ 100 * dp + 100; omega)⟩) ⟨q_P.blind, va_recvE hA.2.2.1.1 (by decide) hS, fun U hU hWm => ⟨rfl, hA.go hS hU hWm, by rw [hU]; exact hW⟩⟩ rfl rfl hl.1 rfl (lv_room (Nat.le_of_ble_eq_true rfl)) dX3_worth_18 ⟨(Nat.le_of_ble_eq_true rfl), (Nat.le_of_ble_eq_true rfl)⟩) hS (fun r_18 f_18 n_18 H locs hp hW hS => ?_)
  obtain ⟨rfl, rfl, rfl⟩ := hp
  refine va_ti hx hb hA.2.2.1.2.2.2.1.2 hS (vp_in_nI (by decide) (by decide)) (v := .int 9) (by rw [nI_clamp (by decide)]; rfl) dX3_worth_21 ?_
  refine lv_tableIn (x := 9) (off := 54) (tgt := 76) hx hb dX3_worth_22 (by decide) (by decide) (by decide) (by decide) ?_
  refine lv_aload_n hx hb dX3_worth_76 rfl (lv_at hl 1 rfl) ?_
  refine q_getN hx hb hts hown hA hW iX11 hv rfl 1 (by decide) (va_Nw.use rfl (hA.2.2.2.1 ("HighRecipes$Cooking", 209, "HighRecipes$Value", "number", "I", "HighRecipes") (by decide +kernel))) (fun _ h9 => h9) (v := .int num) rfl dX3_worth_77 ?_
  exact q_iret hx hb hr hlocks hW hS ⟨rfl, rfl, rfl⟩ (Nat.le_of_ble_eq_true rfl) (Nat.le_of_ble_eq_true rfl) dX3_worth_80

set_option maxHeartbeats 4000000 in
set_option maxRecDepth 100000 in
theorem kX3_worth_19 (l : Launch) (E : q_E) (f : q_H) (n : Nat) (ck k bk : Nat) (hd v : Nat → Int32) (b w : Int32) (a : Nat) (h : Option Nat) (ar dp : Nat) (num : Int32) (lf rg : Option Nat) (hc : f ck = some (cCook k b w)) (hv : f a = some (cVal E 19 num lf rg h)) (hk : KIT E f k bk hd v) (har : ar < 5) : Met l yX3_worth wsX3_worth ({ frames := 3 * dp + 3, cells := 0, slots := 0, locals := 100 * dp + 100 }) (q_P E [.ref ck, .ref a, .int (nI ar)] f n) (q_Qi E (fun r f1 n1 => v 0 = r ∧ f = f1 ∧ n = n1)) 0 0 (q_ge E) := by
  refine Met.ofW (cc := cX3_worth) (maxL := 3) (ret := (some .int)) (by decide) rfl ?_
  intro p e s m args below meth c s₁ B hml hv
  obtain ⟨rfl, hA, hW⟩ := hv
  have hx := B.exec
  have hb := B.bytes
  have hr := B.returns
  have hts := atoms_spec (ws := wsX3_worth) B.pre
  have hown : s.vm.findClass RX3 = some m.cls := findClass_of_methodNamed B.named
  have hlocks := B.notSynchronized
  have hS : va_S (q_ge E) s.heap s.heap [] := va_S.rf
  have iX11 : ∀ w ∈ wsX110, w ∈ wsX3_worth := by decide +kernel
  have iX3 : ∀ w ∈ wsX30, w ∈ wsX3_worth := by decide +kernel
  have iX6 : ∀ w ∈ wsX60, w ∈ wsX3_worth := by decide +kernel
  have hl := lv_entry ([.ref ck, .ref a, .int (nI ar)]) (n := 3) (Nat.le_of_ble_eq_true rfl)
  rw [lg_entry_eq]
  generalize (lg_sl ([.ref ck, .ref a, .int (nI ar)]) ++ List.replicate (3 - (lg_sl ([.ref ck, .ref a, .int (nI ar)])).length) Slot.unset).toArray = ls at hl ⊢
  have hl : lv_has ls 3 [(0, .ref ck), (1, .ref a), (2, .int (nI ar))] := hl
  refine lv_aload_n hx hb dX3_worth_0 rfl (lv_at hl 1 rfl) ?_
  refine lv_ifnull hx hb dX3_worth_1 ?_
  refine lv_iload_n hx hb dX3_worth_4 rfl (lv_at hl 2 rfl) ?_
  refine lv_iconst (v := 5) hx hb dX3_worth_5 (by decide) ?_
  refine lv_icmp_lt (tgt := 11) hx hb dX3_worth_6 (by decide) (fun c_6 => ?_) (fun c_6 => absurd (nI_lt har (by decide)) c_6)
  refine va_gets hx hb hA.2.2.1.2.2.2.1.1 hS hown (hts (.fieldLink RX3 50 "HighRecipes$1" "$SwitchMap$HighRecipes$Kind" "[I") (by decide +kernel)) (fun _ h9 => h9) dX3_worth_11 ?_
  refine lv_aload_n hx hb dX3_worth_14 rfl (lv_at hl 1 rfl) ?_
  refine q_getN hx hb hts hown hA hW iX11 hv rfl 0 (by decide) (va_Nw.use rfl (hA.2.2.2.1 ("HighRecipes$Cooking", 196, "HighRecipes$Value", "kind", "LHighRecipes$Kind;", "HighRecipes") (by decide +kernel))) (fun _ h9 => h9) (v := .ref (E.2.2.2 19)) rfl dX3_worth_15 ?_
  refine q_ci (va_runU (As := []) (rest := [.ref (E.2.2.2 101)]) ⟨hx, hb, hml, hown, hts⟩ (q_ordinal l E f n 19 (by decide)) (va_cwU 0 hts gX3_worth_Jx29ce0_ordinal_8abf5_u60X5 rfl rfl rfl rfl (by decide +kernel) ⟨(by show 0 + 1 ≤ 3 * dp + 3; omega), (by show 8 + (1 + 11) + 0 ≤ 100 * dp + 100; omega)⟩) ⟨q_P.blind, va_recvE hA.2.2.1.1 (by decide) hS, fun U hU hWm => ⟨rfl, hA.go hS hU hWm, by rw [hU]; exact hW⟩⟩ rfl rfl hl.1 rfl (lv_room (Nat.le_of_ble_eq_true rfl)) dX3_worth_18 ⟨(Nat.le_of_ble_eq_true rfl), (Nat.le_of_ble_eq_true rfl)⟩) hS (fun r_18 f_18 n_18 H locs hp hW hS => ?_)
  obtain ⟨rfl, rfl, rfl⟩ := hp
  refine va_ti hx hb hA.2.2.1.2.2.2.1.2 hS (vp_in_nI (by decide) (by decide)) (v := .int 14) (by rw [nI_clamp (by decide)]; rfl) dX3_worth_21 ?_
  refine lv_tableIn (x := 14) (off := 157) (tgt := 179) hx hb dX3_worth_22 (by decide) (by decide) (by decide) (by decide) ?_
  refine lv_aload_n hx hb dX3_worth_179 rfl (lv_at hl 0 rfl) ?_
  refine q_get hx hb hts hown hA hW iX3 hc rfl 0 (by decide) (hts (.fieldLink RX3 15 "HighRecipes$Cooking" "kitchen" "LHighRecipes$Kitchen;") (by decide +kernel)) (fun _ h9 => h9) (v := .ref k) rfl dX3_worth_180 ?_
  refine q_getN hx hb hts hown hA hW iX6 hk.g0 rfl 5 (by decide) (va_Nw.use rfl (hA.2.2.2.1 ("HighRecipes$Cooking", 166, "HighRecipes$Kitchen", "altitude", "I", "HighRecipes") (by decide +kernel))) (fun _ h9 => h9) (v := .int (v 0)) rfl dX3_worth_183 ?_
  exact q_iret hx hb hr hlocks hW hS ⟨rfl, rfl, rfl⟩ (Nat.le_of_ble_eq_true rfl) (Nat.le_of_ble_eq_true rfl) dX3_worth_186

set_option maxHeartbeats 4000000 in
set_option maxRecDepth 100000 in
theorem kX3_worth_20 (l : Launch) (E : q_E) (f : q_H) (n : Nat) (ck k bk : Nat) (hd v : Nat → Int32) (b w : Int32) (a : Nat) (h : Option Nat) (ar dp : Nat) (num : Int32) (lf rg : Option Nat) (hc : f ck = some (cCook k b w)) (hv : f a = some (cVal E 20 num lf rg h)) (hk : KIT E f k bk hd v) (har : ar < 5) : Met l yX3_worth wsX3_worth ({ frames := 3 * dp + 3, cells := 0, slots := 0, locals := 100 * dp + 100 }) (q_P E [.ref ck, .ref a, .int (nI ar)] f n) (q_Qi E (fun r f1 n1 => z_boil (v 0) = r ∧ f = f1 ∧ n = n1)) 0 0 (q_ge E) := by
  refine Met.ofW (cc := cX3_worth) (maxL := 3) (ret := (some .int)) (by decide) rfl ?_
  intro p e s m args below meth c s₁ B hml hv
  obtain ⟨rfl, hA, hW⟩ := hv
  have hx := B.exec
  have hb := B.bytes
  have hr := B.returns
  have hts := atoms_spec (ws := wsX3_worth) B.pre
  have hown : s.vm.findClass RX3 = some m.cls := findClass_of_methodNamed B.named
  have hlocks := B.notSynchronized
  have hS : va_S (q_ge E) s.heap s.heap [] := va_S.rf
  have iX11 : ∀ w ∈ wsX110, w ∈ wsX3_worth := by decide +kernel
  have iX3 : ∀ w ∈ wsX30, w ∈ wsX3_worth := by decide +kernel
  have hl := lv_entry ([.ref ck, .ref a, .int (nI ar)]) (n := 3) (Nat.le_of_ble_eq_true rfl)
  rw [lg_entry_eq]
  generalize (lg_sl ([.ref ck, .ref a, .int (nI ar)]) ++ List.replicate (3 - (lg_sl ([.ref ck, .ref a, .int (nI ar)])).length) Slot.unset).toArray = ls at hl ⊢
  have hl : lv_has ls 3 [(0, .ref ck), (1, .ref a), (2, .int (nI ar))] := hl
  refine lv_aload_n hx hb dX3_worth_0 rfl (lv_at hl 1 rfl) ?_
  refine lv_ifnull hx hb dX3_worth_1 ?_
  refine lv_iload_n hx hb dX3_worth_4 rfl (lv_at hl 2 rfl) ?_
  refine lv_iconst (v := 5) hx hb dX3_worth_5 (by decide) ?_
  refine lv_icmp_lt (tgt := 11) hx hb dX3_worth_6 (by decide) (fun c_6 => ?_) (fun c_6 => absurd (nI_lt har (by decide)) c_6)
  refine va_gets hx hb hA.2.2.1.2.2.2.1.1 hS hown (hts (.fieldLink RX3 50 "HighRecipes$1" "$SwitchMap$HighRecipes$Kind" "[I") (by decide +kernel)) (fun _ h9 => h9) dX3_worth_11 ?_
  refine lv_aload_n hx hb dX3_worth_14 rfl (lv_at hl 1 rfl) ?_
  refine q_getN hx hb hts hown hA hW iX11 hv rfl 0 (by decide) (va_Nw.use rfl (hA.2.2.2.1 ("HighRecipes$Cooking", 196, "HighRecipes$Value", "kind", "LHighRecipes$Kind;", "HighRecipes") (by decide +kernel))) (fun _ h9 => h9) (v := .ref (E.2.2.2 20)) rfl dX3_worth_15 ?_
  refine q_ci (va_runU (As := []) (rest := [.ref (E.2.2.2 101)]) ⟨hx, hb, hml, hown, hts⟩ (q_ordinal l E f n 20 (by decide)) (va_cwU 0 hts gX3_worth_Jx29ce0_ordinal_8abf5_u60X5 rfl rfl rfl rfl (by decide +kernel) ⟨(by show 0 + 1 ≤ 3 * dp + 3; omega), (by show 8 + (1 + 11) + 0 ≤ 100 * dp + 100; omega)⟩) ⟨q_P.blind, va_recvE hA.2.2.1.1 (by decide) hS, fun U hU hWm => ⟨rfl, hA.go hS hU hWm, by rw [hU]; exact hW⟩⟩ rfl rfl hl.1 rfl (lv_room (Nat.le_of_ble_eq_true rfl)) dX3_worth_18 ⟨(Nat.le_of_ble_eq_true rfl), (Nat.le_of_ble_eq_true rfl)⟩) hS (fun r_18 f_18 n_18 H locs hp hW hS => ?_)
  obtain ⟨rfl, rfl, rfl⟩ := hp
  refine va_ti hx hb hA.2.2.1.2.2.2.1.2 hS (vp_in_nI (by decide) (by decide)) (v := .int 15) (by rw [nI_clamp (by decide)]; rfl) dX3_worth_21 ?_
  refine lv_tableIn (x := 15) (off := 165) (tgt := 187) hx hb dX3_worth_22 (by decide) (by decide) (by decide) (by decide) ?_
  refine lv_aload_n hx hb dX3_worth_187 rfl (lv_at hl 0 rfl) ?_
  refine q_get hx hb hts hown hA hW iX3 hc rfl 0 (by decide) (hts (.fieldLink RX3 15 "HighRecipes$Cooking" "kitchen" "LHighRecipes$Kitchen;") (by decide +kernel)) (fun _ h9 => h9) (v := .ref k) rfl dX3_worth_188 ?_
  refine q_ci (va_runV (As := []) (rest := []) ⟨hx, hb, hml, hown, hts⟩ (kX6_boilingHeat l E f n k bk hd v (by assumption)) (cwV 0 hts gX3_worth_X6_boilingHeat rfl rfl rfl (by decide +kernel) ⟨(by show 1 + 1 ≤ 3 * dp + 3; omega), (by show 8 + (1 + 11) + 20 ≤ 100 * dp + 100; omega)⟩) (q_pV hA hW hS (ci := 6) rfl hk.g0) rfl rfl hl.1 rfl (lv_room (Nat.le_of_ble_eq_true rfl)) dX3_worth_191 ⟨Nat.le_of_ble_eq_true rfl, Nat.le_of_ble_eq_true rfl⟩) hS (fun r_191 f_191 n_191 H locs hp hW hS => ?_)
  obtain ⟨rfl, rfl, rfl⟩ := hp
  have hW : q_W E (f) n H := hW
  exact q_iret hx hb hr hlocks hW hS ⟨rfl, rfl, rfl⟩ (Nat.le_of_ble_eq_true rfl) (Nat.le_of_ble_eq_true rfl) dX3_worth_194

set_option maxHeartbeats 4000000 in
set_option maxRecDepth 100000 in
theorem kX3_worth_21 (l : Launch) (E : q_E) (f : q_H) (n : Nat) (ck k bk : Nat) (hd v : Nat → Int32) (b w : Int32) (a : Nat) (h : Option Nat) (ar dp : Nat) (num : Int32) (lf rg : Option Nat) (hc : f ck = some (cCook k b w)) (hv : f a = some (cVal E 21 num lf rg h)) (hk : KIT E f k bk hd v) (har : ar < 5) : Met l yX3_worth wsX3_worth ({ frames := 3 * dp + 3, cells := 0, slots := 0, locals := 100 * dp + 100 }) (q_P E [.ref ck, .ref a, .int (nI ar)] f n) (q_Qi E (fun r f1 n1 => v 3 = r ∧ f = f1 ∧ n = n1)) 0 0 (q_ge E) := by
  refine Met.ofW (cc := cX3_worth) (maxL := 3) (ret := (some .int)) (by decide) rfl ?_
  intro p e s m args below meth c s₁ B hml hv
  obtain ⟨rfl, hA, hW⟩ := hv
  have hx := B.exec
  have hb := B.bytes
  have hr := B.returns
  have hts := atoms_spec (ws := wsX3_worth) B.pre
  have hown : s.vm.findClass RX3 = some m.cls := findClass_of_methodNamed B.named
  have hlocks := B.notSynchronized
  have hS : va_S (q_ge E) s.heap s.heap [] := va_S.rf
  have iX11 : ∀ w ∈ wsX110, w ∈ wsX3_worth := by decide +kernel
  have iX3 : ∀ w ∈ wsX30, w ∈ wsX3_worth := by decide +kernel
  have iX6 : ∀ w ∈ wsX60, w ∈ wsX3_worth := by decide +kernel
  have hl := lv_entry ([.ref ck, .ref a, .int (nI ar)]) (n := 3) (Nat.le_of_ble_eq_true rfl)
  rw [lg_entry_eq]
  generalize (lg_sl ([.ref ck, .ref a, .int (nI ar)]) ++ List.replicate (3 - (lg_sl ([.ref ck, .ref a, .int (nI ar)])).length) Slot.unset).toArray = ls at hl ⊢
  have hl : lv_has ls 3 [(0, .ref ck), (1, .ref a), (2, .int (nI ar))] := hl
  refine lv_aload_n hx hb dX3_worth_0 rfl (lv_at hl 1 rfl) ?_
  refine lv_ifnull hx hb dX3_worth_1 ?_
  refine lv_iload_n hx hb dX3_worth_4 rfl (lv_at hl 2 rfl) ?_
  refine lv_iconst (v := 5) hx hb dX3_worth_5 (by decide) ?_
  refine lv_icmp_lt (tgt := 11) hx hb dX3_worth_6 (by decide) (fun c_6 => ?_) (fun c_6 => absurd (nI_lt har (by decide)) c_6)
  refine va_gets hx hb hA.2.2.1.2.2.2.1.1 hS hown (hts (.fieldLink RX3 50 "HighRecipes$1" "$SwitchMap$HighRecipes$Kind" "[I") (by decide +kernel)) (fun _ h9 => h9) dX3_worth_11 ?_
  refine lv_aload_n hx hb dX3_worth_14 rfl (lv_at hl 1 rfl) ?_
  refine q_getN hx hb hts hown hA hW iX11 hv rfl 0 (by decide) (va_Nw.use rfl (hA.2.2.2.1 ("HighRecipes$Cooking", 196, "HighRecipes$Value", "kind", "LHighRecipes$Kind;", "HighRecipes") (by decide +kernel))) (fun _ h9 => h9) (v := .ref (E.2.2.2 21)) rfl dX3_worth_15 ?_
  refine q_ci (va_runU (As := []) (rest := [.ref (E.2.2.2 101)]) ⟨hx, hb, hml, hown, hts⟩ (q_ordinal l E f n 21 (by decide)) (va_cwU 0 hts gX3_worth_Jx29ce0_ordinal_8abf5_u60X5 rfl rfl rfl rfl (by decide +kernel) ⟨(by show 0 + 1 ≤ 3 * dp + 3; omega), (by show 8 + (1 + 11) + 0 ≤ 100 * dp + 100; omega)⟩) ⟨q_P.blind, va_recvE hA.2.2.1.1 (by decide) hS, fun U hU hWm => ⟨rfl, hA.go hS hU hWm, by rw [hU]; exact hW⟩⟩ rfl rfl hl.1 rfl (lv_room (Nat.le_of_ble_eq_true rfl)) dX3_worth_18 ⟨(Nat.le_of_ble_eq_true rfl), (Nat.le_of_ble_eq_true rfl)⟩) hS (fun r_18 f_18 n_18 H locs hp hW hS => ?_)
  obtain ⟨rfl, rfl, rfl⟩ := hp
  refine va_ti hx hb hA.2.2.1.2.2.2.1.2 hS (vp_in_nI (by decide) (by decide)) (v := .int 16) (by rw [nI_clamp (by decide)]; rfl) dX3_worth_21 ?_
  refine lv_tableIn (x := 16) (off := 173) (tgt := 195) hx hb dX3_worth_22 (by decide) (by decide) (by decide) (by decide) ?_
  refine lv_aload_n hx hb dX3_worth_195 rfl (lv_at hl 0 rfl) ?_
  refine q_get hx hb hts hown hA hW iX3 hc rfl 0 (by decide) (hts (.fieldLink RX3 15 "HighRecipes$Cooking" "kitchen" "LHighRecipes$Kitchen;") (by decide +kernel)) (fun _ h9 => h9) (v := .ref k) rfl dX3_worth_196 ?_
  refine q_getN hx hb hts hown hA hW iX6 hk.g0 rfl 8 (by decide) (va_Nw.use rfl (hA.2.2.2.1 ("HighRecipes$Cooking", 22, "HighRecipes$Kitchen", "minute", "I", "HighRecipes") (by decide +kernel))) (fun _ h9 => h9) (v := .int (v 3)) rfl dX3_worth_199 ?_
  exact q_iret hx hb hr hlocks hW hS ⟨rfl, rfl, rfl⟩ (Nat.le_of_ble_eq_true rfl) (Nat.le_of_ble_eq_true rfl) dX3_worth_202

set_option maxHeartbeats 4000000 in
set_option maxRecDepth 100000 in
theorem kX3_worth_22 (l : Launch) (E : q_E) (f : q_H) (n : Nat) (ck k bk : Nat) (hd v : Nat → Int32) (b w : Int32) (a : Nat) (h : Option Nat) (ar dp : Nat) (num : Int32) (lf rg : Option Nat) (hc : f ck = some (cCook k b w)) (hv : f a = some (cVal E 22 num lf rg h)) (hk : KIT E f k bk hd v) (har : ar < 5) : Met l yX3_worth wsX3_worth ({ frames := 3 * dp + 3, cells := 0, slots := 0, locals := 100 * dp + 100 }) (q_P E [.ref ck, .ref a, .int (nI ar)] f n) (q_Qi E (fun r f1 n1 => v 1 = r ∧ f = f1 ∧ n = n1)) 0 0 (q_ge E) := by
  refine Met.ofW (cc := cX3_worth) (maxL := 3) (ret := (some .int)) (by decide) rfl ?_
  intro p e s m args below meth c s₁ B hml hv
  obtain ⟨rfl, hA, hW⟩ := hv
  have hx := B.exec
  have hb := B.bytes
  have hr := B.returns
  have hts := atoms_spec (ws := wsX3_worth) B.pre
  have hown : s.vm.findClass RX3 = some m.cls := findClass_of_methodNamed B.named
  have hlocks := B.notSynchronized
  have hS : va_S (q_ge E) s.heap s.heap [] := va_S.rf
  have iX11 : ∀ w ∈ wsX110, w ∈ wsX3_worth := by decide +kernel
  have iX3 : ∀ w ∈ wsX30, w ∈ wsX3_worth := by decide +kernel
  have iX6 : ∀ w ∈ wsX60, w ∈ wsX3_worth := by decide +kernel
  have hl := lv_entry ([.ref ck, .ref a, .int (nI ar)]) (n := 3) (Nat.le_of_ble_eq_true rfl)
  rw [lg_entry_eq]
  generalize (lg_sl ([.ref ck, .ref a, .int (nI ar)]) ++ List.replicate (3 - (lg_sl ([.ref ck, .ref a, .int (nI ar)])).length) Slot.unset).toArray = ls at hl ⊢
  have hl : lv_has ls 3 [(0, .ref ck), (1, .ref a), (2, .int (nI ar))] := hl
  refine lv_aload_n hx hb dX3_worth_0 rfl (lv_at hl 1 rfl) ?_
  refine lv_ifnull hx hb dX3_worth_1 ?_
  refine lv_iload_n hx hb dX3_worth_4 rfl (lv_at hl 2 rfl) ?_
  refine lv_iconst (v := 5) hx hb dX3_worth_5 (by decide) ?_
  refine lv_icmp_lt (tgt := 11) hx hb dX3_worth_6 (by decide) (fun c_6 => ?_) (fun c_6 => absurd (nI_lt har (by decide)) c_6)
  refine va_gets hx hb hA.2.2.1.2.2.2.1.1 hS hown (hts (.fieldLink RX3 50 "HighRecipes$1" "$SwitchMap$HighRecipes$Kind" "[I") (by decide +kernel)) (fun _ h9 => h9) dX3_worth_11 ?_
  refine lv_aload_n hx hb dX3_worth_14 rfl (lv_at hl 1 rfl) ?_
  refine q_getN hx hb hts hown hA hW iX11 hv rfl 0 (by decide) (va_Nw.use rfl (hA.2.2.2.1 ("HighRecipes$Cooking", 196, "HighRecipes$Value", "kind", "LHighRecipes$Kind;", "HighRecipes") (by decide +kernel))) (fun _ h9 => h9) (v := .ref (E.2.2.2 22)) rfl dX3_worth_15 ?_
  refine q_ci (va_runU (As := []) (rest := [.ref (E.2.2.2 101)]) ⟨hx, hb, hml, hown, hts⟩ (q_ordinal l E f n 22 (by decide)) (va_cwU 0 hts gX3_worth_Jx29ce0_ordinal_8abf5_u60X5 rfl rfl rfl rfl (by decide +kernel) ⟨(by show 0 + 1 ≤ 3 * dp + 3; omega), (by show 8 + (1 + 11) + 0 ≤ 100 * dp + 100; omega)⟩) ⟨q_P.blind, va_recvE hA.2.2.1.1 (by decide) hS, fun U hU hWm => ⟨rfl, hA.go hS hU hWm, by rw [hU]; exact hW⟩⟩ rfl rfl hl.1 rfl (lv_room (Nat.le_of_ble_eq_true rfl)) dX3_worth_18 ⟨(Nat.le_of_ble_eq_true rfl), (Nat.le_of_ble_eq_true rfl)⟩) hS (fun r_18 f_18 n_18 H locs hp hW hS => ?_)
  obtain ⟨rfl, rfl, rfl⟩ := hp
  refine va_ti hx hb hA.2.2.1.2.2.2.1.2 hS (vp_in_nI (by decide) (by decide)) (v := .int 17) (by rw [nI_clamp (by decide)]; rfl) dX3_worth_21 ?_
  refine lv_tableIn (x := 17) (off := 181) (tgt := 203) hx hb dX3_worth_22 (by decide) (by decide) (by decide) (by decide) ?_
  refine lv_aload_n hx hb dX3_worth_203 rfl (lv_at hl 0 rfl) ?_
  refine q_get hx hb hts hown hA hW iX3 hc rfl 0 (by decide) (hts (.fieldLink RX3 15 "HighRecipes$Cooking" "kitchen" "LHighRecipes$Kitchen;") (by decide +kernel)) (fun _ h9 => h9) (v := .ref k) rfl dX3_worth_204 ?_
  refine q_getN hx hb hts hown hA hW iX6 hk.g0 rfl 6 (by decide) (va_Nw.use rfl (hA.2.2.2.1 ("HighRecipes$Cooking", 212, "HighRecipes$Kitchen", "servings", "I", "HighRecipes") (by decide +kernel))) (fun _ h9 => h9) (v := .int (v 1)) rfl dX3_worth_207 ?_
  exact q_iret hx hb hr hlocks hW hS ⟨rfl, rfl, rfl⟩ (Nat.le_of_ble_eq_true rfl) (Nat.le_of_ble_eq_true rfl) dX3_worth_210

set_option maxHeartbeats 4000000 in
set_option maxRecDepth 100000 in
theorem kX3_worth_23 (l : Launch) (E : q_E) (f : q_H) (n : Nat) (ck k bk : Nat) (hd v : Nat → Int32) (b w : Int32) (a : Nat) (h : Option Nat) (ar dp : Nat) (num : Int32) (lf rg : Option Nat) (hc : f ck = some (cCook k b w)) (hv : f a = some (cVal E 23 num lf rg h)) (hk : KIT E f k bk hd v) (har : ar < 5) : Met l yX3_worth wsX3_worth ({ frames := 3 * dp + 3, cells := 0, slots := 0, locals := 100 * dp + 100 }) (q_P E [.ref ck, .ref a, .int (nI ar)] f n) (q_Qi E (fun r f1 n1 => v 2 = r ∧ f = f1 ∧ n = n1)) 0 0 (q_ge E) := by
  refine Met.ofW (cc := cX3_worth) (maxL := 3) (ret := (some .int)) (by decide) rfl ?_
  intro p e s m args below meth c s₁ B hml hv
  obtain ⟨rfl, hA, hW⟩ := hv
  have hx := B.exec
  have hb := B.bytes
  have hr := B.returns
  have hts := atoms_spec (ws := wsX3_worth) B.pre
  have hown : s.vm.findClass RX3 = some m.cls := findClass_of_methodNamed B.named
  have hlocks := B.notSynchronized
  have hS : va_S (q_ge E) s.heap s.heap [] := va_S.rf
  have iX11 : ∀ w ∈ wsX110, w ∈ wsX3_worth := by decide +kernel
  have iX3 : ∀ w ∈ wsX30, w ∈ wsX3_worth := by decide +kernel
  have iX6 : ∀ w ∈ wsX60, w ∈ wsX3_worth := by decide +kernel
  have hl := lv_entry ([.ref ck, .ref a, .int (nI ar)]) (n := 3) (Nat.le_of_ble_eq_true rfl)
  rw [lg_entry_eq]
  generalize (lg_sl ([.ref ck, .ref a, .int (nI ar)]) ++ List.replicate (3 - (lg_sl ([.ref ck, .ref a, .int (nI ar)])).length) Slot.unset).toArray = ls at hl ⊢
  have hl : lv_has ls 3 [(0, .ref ck), (1, .ref a), (2, .int (nI ar))] := hl
  refine lv_aload_n hx hb dX3_worth_0 rfl (lv_at hl 1 rfl) ?_
  refine lv_ifnull hx hb dX3_worth_1 ?_
  refine lv_iload_n hx hb dX3_worth_4 rfl (lv_at hl 2 rfl) ?_
  refine lv_iconst (v := 5) hx hb dX3_worth_5 (by decide) ?_
  refine lv_icmp_lt (tgt := 11) hx hb dX3_worth_6 (by decide) (fun c_6 => ?_) (fun c_6 => absurd (nI_lt har (by decide)) c_6)
  refine va_gets hx hb hA.2.2.1.2.2.2.1.1 hS hown (hts (.fieldLink RX3 50 "HighRecipes$1" "$SwitchMap$HighRecipes$Kind" "[I") (by decide +kernel)) (fun _ h9 => h9) dX3_worth_11 ?_
  refine lv_aload_n hx hb dX3_worth_14 rfl (lv_at hl 1 rfl) ?_
  refine q_getN hx hb hts hown hA hW iX11 hv rfl 0 (by decide) (va_Nw.use rfl (hA.2.2.2.1 ("HighRecipes$Cooking", 196, "HighRecipes$Value", "kind", "LHighRecipes$Kind;", "HighRecipes") (by decide +kernel))) (fun _ h9 => h9) (v := .ref (E.2.2.2 23)) rfl dX3_worth_15 ?_
  refine q_ci (va_runU (As := []) (rest := [.ref (E.2.2.2 101)]) ⟨hx, hb, hml, hown, hts⟩ (q_ordinal l E f n 23 (by decide)) (va_cwU 0 hts gX3_worth_Jx29ce0_ordinal_8abf5_u60X5 rfl rfl rfl rfl (by decide +kernel) ⟨(by show 0 + 1 ≤ 3 * dp + 3; omega), (by show 8 + (1 + 11) + 0 ≤ 100 * dp + 100; omega)⟩) ⟨q_P.blind, va_recvE hA.2.2.1.1 (by decide) hS, fun U hU hWm => ⟨rfl, hA.go hS hU hWm, by rw [hU]; exact hW⟩⟩ rfl rfl hl.1 rfl (lv_room (Nat.le_of_ble_eq_true rfl)) dX3_worth_18 ⟨(Nat.le_of_ble_eq_true rfl), (Nat.le_of_ble_eq_true rfl)⟩) hS (fun r_18 f_18 n_18 H locs hp hW hS => ?_)
  obtain ⟨rfl, rfl, rfl⟩ := hp
  refine va_ti hx hb hA.2.2.1.2.2.2.1.2 hS (vp_in_nI (by decide) (by decide)) (v := .int 18) (by rw [nI_clamp (by decide)]; rfl) dX3_worth_21 ?_
  refine lv_tableIn (x := 18) (off := 189) (tgt := 211) hx hb dX3_worth_22 (by decide) (by decide) (by decide) (by decide) ?_
  refine lv_aload_n hx hb dX3_worth_211 rfl (lv_at hl 0 rfl) ?_
  refine q_get hx hb hts hown hA hW iX3 hc rfl 0 (by decide) (hts (.fieldLink RX3 15 "HighRecipes$Cooking" "kitchen" "LHighRecipes$Kitchen;") (by decide +kernel)) (fun _ h9 => h9) (v := .ref k) rfl dX3_worth_212 ?_
  refine q_getN hx hb hts hown hA hW iX6 hk.g0 rfl 7 (by decide) (va_Nw.use rfl (hA.2.2.2.1 ("HighRecipes$Cooking", 215, "HighRecipes$Kitchen", "spoon", "I", "HighRecipes") (by decide +kernel))) (fun _ h9 => h9) (v := .int (v 2)) rfl dX3_worth_215 ?_
  exact q_iret hx hb hr hlocks hW hS ⟨rfl, rfl, rfl⟩ (Nat.le_of_ble_eq_true rfl) (Nat.le_of_ble_eq_true rfl) dX3_worth_218

set_option maxHeartbeats 4000000 in
set_option maxRecDepth 100000 in
theorem kX3_worth_4 (l : Launch) (E : q_E) (f : q_H) (n : Nat) (ck k bk : Nat) (hd v : Nat → Int32) (b w : Int32) (pn : Nat) (rc ac : Int32) (a : Nat) (h : Option Nat) (ar dp : Nat) (lf rg : Option Nat) (i : Nat) (hc : f ck = some (cCook k b w)) (hv : f a = some (cVal E 4 (nI i) lf rg h)) (hB : f bk = some (cBook bk (nI pn) rc ac)) (hk : KIT E f k bk hd v) (har : ar < 5) (hi : i < pn) (hbo : kOut k bk) (hpn : pn ≤ 8) : Met l yX3_worth wsX3_worth ({ frames := 3 * dp + 3, cells := 0, slots := 0, locals := 100 * dp + 100 }) (q_P E [.ref ck, .ref a, .int (nI ar)] f n) (q_Qi E (fun r f1 n1 => v (52 + 4 * i) = r ∧ f = f1 ∧ n = n1)) 0 0 (q_ge E) := by
  refine Met.ofW (cc := cX3_worth) (maxL := 3) (ret := (some .int)) (by decide) rfl ?_
  intro p e s m args below meth c s₁ B hml hv
  obtain ⟨rfl, hA, hW⟩ := hv
  have hx := B.exec
  have hb := B.bytes
  have hr := B.returns
  have hts := atoms_spec (ws := wsX3_worth) B.pre
  have hown : s.vm.findClass RX3 = some m.cls := findClass_of_methodNamed B.named
  have hlocks := B.notSynchronized
  have hS : va_S (q_ge E) s.heap s.heap [] := va_S.rf
  have iX11 : ∀ w ∈ wsX110, w ∈ wsX3_worth := by decide +kernel
  have iX3 : ∀ w ∈ wsX30, w ∈ wsX3_worth := by decide +kernel
  have hl := lv_entry ([.ref ck, .ref a, .int (nI ar)]) (n := 3) (Nat.le_of_ble_eq_true rfl)
  rw [lg_entry_eq]
  generalize (lg_sl ([.ref ck, .ref a, .int (nI ar)]) ++ List.replicate (3 - (lg_sl ([.ref ck, .ref a, .int (nI ar)])).length) Slot.unset).toArray = ls at hl ⊢
  have hl : lv_has ls 3 [(0, .ref ck), (1, .ref a), (2, .int (nI ar))] := hl
  refine lv_aload_n hx hb dX3_worth_0 rfl (lv_at hl 1 rfl) ?_
  refine lv_ifnull hx hb dX3_worth_1 ?_
  refine lv_iload_n hx hb dX3_worth_4 rfl (lv_at hl 2 rfl) ?_
  refine lv_iconst (v := 5) hx hb dX3_worth_5 (by decide) ?_
  refine lv_icmp_lt (tgt := 11) hx hb dX3_worth_6 (by decide) (fun c_6 => ?_) (fun c_6 => absurd (nI_lt har (by decide)) c_6)
  refine va_gets hx hb hA.2.2.1.2.2.2.1.1 hS hown (hts (.fieldLink RX3 50 "HighRecipes$1" "$SwitchMap$HighRecipes$Kind" "[I") (by decide +kernel)) (fun _ h9 => h9) dX3_worth_11 ?_
  refine lv_aload_n hx hb dX3_worth_14 rfl (lv_at hl 1 rfl) ?_
  refine q_getN hx hb hts hown hA hW iX11 hv rfl 0 (by decide) (va_Nw.use rfl (hA.2.2.2.1 ("HighRecipes$Cooking", 196, "HighRecipes$Value", "kind", "LHighRecipes$Kind;", "HighRecipes") (by decide +kernel))) (fun _ h9 => h9) (v := .ref (E.2.2.2 4)) rfl dX3_worth_15 ?_
  refine q_ci (va_runU (As := []) (rest := [.ref (E.2.2.2 101)]) ⟨hx, hb, hml, hown, hts⟩ (q_ordinal l E f n 4 (by decide)) (va_cwU 0 hts gX3_worth_Jx29ce0_ordinal_8abf5_u60X5 rfl rfl rfl rfl (by decide +kernel) ⟨(by show 0 + 1 ≤ 3 * dp + 3; omega), (by show 8 + (1 + 11) + 0 ≤ 100 * dp + 100; omega)⟩) ⟨q_P.blind, va_recvE hA.2.2.1.1 (by decide) hS, fun U hU hWm => ⟨rfl, hA.go hS hU hWm, by rw [hU]; exact hW⟩⟩ rfl rfl hl.1 rfl (lv_room (Nat.le_of_ble_eq_true rfl)) dX3_worth_18 ⟨(Nat.le_of_ble_eq_true rfl), (Nat.le_of_ble_eq_true rfl)⟩) hS (fun r_18 f_18 n_18 H locs hp hW hS => ?_)
  obtain ⟨rfl, rfl, rfl⟩ := hp
  refine va_ti hx hb hA.2.2.1.2.2.2.1.2 hS (vp_in_nI (by decide) (by decide)) (v := .int 19) (by rw [nI_clamp (by decide)]; rfl) dX3_worth_21 ?_
  refine lv_tableOut (x := 19) (tgt := 219) hx hb dX3_worth_22 (by decide) (by decide) ?_
  refine lv_aload_n hx hb dX3_worth_219 rfl (lv_at hl 0 rfl) ?_
  refine q_get hx hb hts hown hA hW iX3 hc rfl 0 (by decide) (hts (.fieldLink RX3 15 "HighRecipes$Cooking" "kitchen" "LHighRecipes$Kitchen;") (by decide +kernel)) (fun _ h9 => h9) (v := .ref k) rfl dX3_worth_220 ?_
  refine lv_aload_n hx hb dX3_worth_223 rfl (lv_at hl 1 rfl) ?_
  refine q_getN hx hb hts hown hA hW iX11 hv rfl 1 (by decide) (va_Nw.use rfl (hA.2.2.2.1 ("HighRecipes$Cooking", 209, "HighRecipes$Value", "number", "I", "HighRecipes") (by decide +kernel))) (fun _ h9 => h9) (v := .int (nI i)) rfl dX3_worth_224 ?_
  refine q_cq (va_runV (As := [.int (nI i)]) (rest := []) ⟨hx, hb, hml, hown, hts⟩ (kX6_panAt l E f n k bk hd v pn rc ac i hB (by assumption) (by assumption) (by assumption) hi) (cwV 1 hts gX3_worth_X6_panAt rfl rfl rfl (by decide +kernel) ⟨(by show 0 + 1 ≤ 3 * dp + 3; omega), (by show 8 + (2 + 11) + 0 ≤ 100 * dp + 100; omega)⟩) (q_pV hA hW hS (ci := 6) rfl hk.g0) rfl rfl hl.1 rfl (lv_room (Nat.le_of_ble_eq_true rfl)) dX3_worth_227 ⟨Nat.le_of_ble_eq_true rfl, Nat.le_of_ble_eq_true rfl⟩) hS (fun r_227 f_227 n_227 H locs hp hW hS => ?_)
  obtain ⟨rfl, rfl, rfl⟩ := hp
  have hW : q_W E (f) n H := hW
  refine lv_aload_n hx hb dX3_worth_230 rfl (lv_at hl 1 rfl) ?_
  refine q_getN hx hb hts hown hA hW iX11 hv rfl 0 (by decide) (va_Nw.use rfl (hA.2.2.2.1 ("HighRecipes$Cooking", 196, "HighRecipes$Value", "kind", "LHighRecipes$Kind;", "HighRecipes") (by decide +kernel))) (fun _ h9 => h9) (v := .ref (E.2.2.2 4)) rfl dX3_worth_231 ?_
  refine q_ci (va_runS (As := [.ref (k + 12 + i), .ref (E.2.2.2 4)]) (rest := []) ⟨hx, hb, hml, hown, hts⟩ (kX3_contentOf_4 l E f n (k + 12 + i) (hd i) (v (52 + 4 * i)) (v (53 + 4 * i)) (v (54 + 4 * i)) (v (55 + 4 * i)) (hk.gp (q_8 hi hpn))) (va_cwS 2 hts gX3_worth_X3_contentOf rfl rfl rfl (by decide +kernel) ⟨(by show 1 + 1 ≤ 3 * dp + 3; omega), (by show 8 + (2 + 11) + 20 ≤ 100 * dp + 100; omega)⟩) (q_pS hA hW hS) rfl rfl hl.1 rfl (lv_room (Nat.le_of_ble_eq_true rfl)) dX3_worth_234 ⟨Nat.le_of_ble_eq_true rfl, Nat.le_of_ble_eq_true rfl⟩) hS (fun r_234 f_234 n_234 H locs hp hW hS => ?_)
  obtain ⟨rfl, rfl, rfl⟩ := hp
  have hW : q_W E (f) n H := hW
  exact q_iret hx hb hr hlocks hW hS ⟨rfl, rfl, rfl⟩ (Nat.le_of_ble_eq_true rfl) (Nat.le_of_ble_eq_true rfl) dX3_worth_237

set_option maxHeartbeats 4000000 in
set_option maxRecDepth 100000 in
theorem kX3_worth_5 (l : Launch) (E : q_E) (f : q_H) (n : Nat) (ck k bk : Nat) (hd v : Nat → Int32) (b w : Int32) (pn : Nat) (rc ac : Int32) (a : Nat) (h : Option Nat) (ar dp : Nat) (lf rg : Option Nat) (i : Nat) (hc : f ck = some (cCook k b w)) (hv : f a = some (cVal E 5 (nI i) lf rg h)) (hB : f bk = some (cBook bk (nI pn) rc ac)) (hk : KIT E f k bk hd v) (har : ar < 5) (hi : i < pn) (hbo : kOut k bk) (hpn : pn ≤ 8) : Met l yX3_worth wsX3_worth ({ frames := 3 * dp + 3, cells := 0, slots := 0, locals := 100 * dp + 100 }) (q_P E [.ref ck, .ref a, .int (nI ar)] f n) (q_Qi E (fun r f1 n1 => v (53 + 4 * i) = r ∧ f = f1 ∧ n = n1)) 0 0 (q_ge E) := by
  refine Met.ofW (cc := cX3_worth) (maxL := 3) (ret := (some .int)) (by decide) rfl ?_
  intro p e s m args below meth c s₁ B hml hv
  obtain ⟨rfl, hA, hW⟩ := hv
  have hx := B.exec
  have hb := B.bytes
  have hr := B.returns
  have hts := atoms_spec (ws := wsX3_worth) B.pre
  have hown : s.vm.findClass RX3 = some m.cls := findClass_of_methodNamed B.named
  have hlocks := B.notSynchronized
  have hS : va_S (q_ge E) s.heap s.heap [] := va_S.rf
  have iX11 : ∀ w ∈ wsX110, w ∈ wsX3_worth := by decide +kernel
  have iX3 : ∀ w ∈ wsX30, w ∈ wsX3_worth := by decide +kernel
  have hl := lv_entry ([.ref ck, .ref a, .int (nI ar)]) (n := 3) (Nat.le_of_ble_eq_true rfl)
  rw [lg_entry_eq]
  generalize (lg_sl ([.ref ck, .ref a, .int (nI ar)]) ++ List.replicate (3 - (lg_sl ([.ref ck, .ref a, .int (nI ar)])).length) Slot.unset).toArray = ls at hl ⊢
  have hl : lv_has ls 3 [(0, .ref ck), (1, .ref a), (2, .int (nI ar))] := hl
  refine lv_aload_n hx hb dX3_worth_0 rfl (lv_at hl 1 rfl) ?_
  refine lv_ifnull hx hb dX3_worth_1 ?_
  refine lv_iload_n hx hb dX3_worth_4 rfl (lv_at hl 2 rfl) ?_
  refine lv_iconst (v := 5) hx hb dX3_worth_5 (by decide) ?_
  refine lv_icmp_lt (tgt := 11) hx hb dX3_worth_6 (by decide) (fun c_6 => ?_) (fun c_6 => absurd (nI_lt har (by decide)) c_6)
  refine va_gets hx hb hA.2.2.1.2.2.2.1.1 hS hown (hts (.fieldLink RX3 50 "HighRecipes$1" "$SwitchMap$HighRecipes$Kind" "[I") (by decide +kernel)) (fun _ h9 => h9) dX3_worth_11 ?_
  refine lv_aload_n hx hb dX3_worth_14 rfl (lv_at hl 1 rfl) ?_
  refine q_getN hx hb hts hown hA hW iX11 hv rfl 0 (by decide) (va_Nw.use rfl (hA.2.2.2.1 ("HighRecipes$Cooking", 196, "HighRecipes$Value", "kind", "LHighRecipes$Kind;", "HighRecipes") (by decide +kernel))) (fun _ h9 => h9) (v := .ref (E.2.2.2 5)) rfl dX3_worth_15 ?_
  refine q_ci (va_runU (As := []) (rest := [.ref (E.2.2.2 101)]) ⟨hx, hb, hml, hown, hts⟩ (q_ordinal l E f n 5 (by decide)) (va_cwU 0 hts gX3_worth_Jx29ce0_ordinal_8abf5_u60X5 rfl rfl rfl rfl (by decide +kernel) ⟨(by show 0 + 1 ≤ 3 * dp + 3; omega), (by show 8 + (1 + 11) + 0 ≤ 100 * dp + 100; omega)⟩) ⟨q_P.blind, va_recvE hA.2.2.1.1 (by decide) hS, fun U hU hWm => ⟨rfl, hA.go hS hU hWm, by rw [hU]; exact hW⟩⟩ rfl rfl hl.1 rfl (lv_room (Nat.le_of_ble_eq_true rfl)) dX3_worth_18 ⟨(Nat.le_of_ble_eq_true rfl), (Nat.le_of_ble_eq_true rfl)⟩) hS (fun r_18 f_18 n_18 H locs hp hW hS => ?_)
  obtain ⟨rfl, rfl, rfl⟩ := hp
  refine va_ti hx hb hA.2.2.1.2.2.2.1.2 hS (vp_in_nI (by decide) (by decide)) (v := .int 20) (by rw [nI_clamp (by decide)]; rfl) dX3_worth_21 ?_
  refine lv_tableOut (x := 20) (tgt := 219) hx hb dX3_worth_22 (by decide) (by decide) ?_
  refine lv_aload_n hx hb dX3_worth_219 rfl (lv_at hl 0 rfl) ?_
  refine q_get hx hb hts hown hA hW iX3 hc rfl 0 (by decide) (hts (.fieldLink RX3 15 "HighRecipes$Cooking" "kitchen" "LHighRecipes$Kitchen;") (by decide +kernel)) (fun _ h9 => h9) (v := .ref k) rfl dX3_worth_220 ?_
  refine lv_aload_n hx hb dX3_worth_223 rfl (lv_at hl 1 rfl) ?_
  refine q_getN hx hb hts hown hA hW iX11 hv rfl 1 (by decide) (va_Nw.use rfl (hA.2.2.2.1 ("HighRecipes$Cooking", 209, "HighRecipes$Value", "number", "I", "HighRecipes") (by decide +kernel))) (fun _ h9 => h9) (v := .int (nI i)) rfl dX3_worth_224 ?_
  refine q_cq (va_runV (As := [.int (nI i)]) (rest := []) ⟨hx, hb, hml, hown, hts⟩ (kX6_panAt l E f n k bk hd v pn rc ac i hB (by assumption) (by assumption) (by assumption) hi) (cwV 1 hts gX3_worth_X6_panAt rfl rfl rfl (by decide +kernel) ⟨(by show 0 + 1 ≤ 3 * dp + 3; omega), (by show 8 + (2 + 11) + 0 ≤ 100 * dp + 100; omega)⟩) (q_pV hA hW hS (ci := 6) rfl hk.g0) rfl rfl hl.1 rfl (lv_room (Nat.le_of_ble_eq_true rfl)) dX3_worth_227 ⟨Nat.le_of_ble_eq_true rfl, Nat.le_of_ble_eq_true rfl⟩) hS (fun r_227 f_227 n_227 H locs hp hW hS => ?_)
  obtain ⟨rfl, rfl, rfl⟩ := hp
  have hW : q_W E (f) n H := hW
  refine lv_aload_n hx hb dX3_worth_230 rfl (lv_at hl 1 rfl) ?_
  refine q_getN hx hb hts hown hA hW iX11 hv rfl 0 (by decide) (va_Nw.use rfl (hA.2.2.2.1 ("HighRecipes$Cooking", 196, "HighRecipes$Value", "kind", "LHighRecipes$Kind;", "HighRecipes") (by decide +kernel))) (fun _ h9 => h9) (v := .ref (E.2.2.2 5)) rfl dX3_worth_231 ?_
  refine q_ci (va_runS (As := [.ref (k + 12 + i), .ref (E.2.2.2 5)]) (rest := []) ⟨hx, hb, hml, hown, hts⟩ (kX3_contentOf_5 l E f n (k + 12 + i) (hd i) (v (52 + 4 * i)) (v (53 + 4 * i)) (v (54 + 4 * i)) (v (55 + 4 * i)) (hk.gp (q_8 hi hpn))) (va_cwS 2 hts gX3_worth_X3_contentOf rfl rfl rfl (by decide +kernel) ⟨(by show 1 + 1 ≤ 3 * dp + 3; omega), (by show 8 + (2 + 11) + 20 ≤ 100 * dp + 100; omega)⟩) (q_pS hA hW hS) rfl rfl hl.1 rfl (lv_room (Nat.le_of_ble_eq_true rfl)) dX3_worth_234 ⟨Nat.le_of_ble_eq_true rfl, Nat.le_of_ble_eq_true rfl⟩) hS (fun r_234 f_234 n_234 H locs hp hW hS => ?_)
  obtain ⟨rfl, rfl, rfl⟩ := hp
  have hW : q_W E (f) n H := hW
  exact q_iret hx hb hr hlocks hW hS ⟨rfl, rfl, rfl⟩ (Nat.le_of_ble_eq_true rfl) (Nat.le_of_ble_eq_true rfl) dX3_worth_237

set_option maxHeartbeats 4000000 in
set_option maxRecDepth 100000 in
theorem kX3_worth_7 (l : Launch) (E : q_E) (f : q_H) (n : Nat) (ck k bk : Nat) (hd v : Nat → Int32) (b w : Int32) (pn : Nat) (rc ac : Int32) (a : Nat) (h : Option Nat) (ar dp : Nat) (lf rg : Option Nat) (i : Nat) (hc : f ck = some (cCook k b w)) (hv : f a = some (cVal E 7 (nI i) lf rg h)) (hB : f bk = some (cBook bk (nI pn) rc ac)) (hk : KIT E f k bk hd v) (har : ar < 5) (hi : i < pn) (hbo : kOut k bk) (hpn : pn ≤ 8) : Met l yX3_worth wsX3_worth ({ frames := 3 * dp + 3, cells := 0, slots := 0, locals := 100 * dp + 100 }) (q_P E [.ref ck, .ref a, .int (nI ar)] f n) (q_Qi E (fun r f1 n1 => v (54 + 4 * i) = r ∧ f = f1 ∧ n = n1)) 0 0 (q_ge E) := by
  refine Met.ofW (cc := cX3_worth) (maxL := 3) (ret := (some .int)) (by decide) rfl ?_
  intro p e s m args below meth c s₁ B hml hv
  obtain ⟨rfl, hA, hW⟩ := hv
  have hx := B.exec
  have hb := B.bytes
  have hr := B.returns
  have hts := atoms_spec (ws := wsX3_worth) B.pre
  have hown : s.vm.findClass RX3 = some m.cls := findClass_of_methodNamed B.named
  have hlocks := B.notSynchronized
  have hS : va_S (q_ge E) s.heap s.heap [] := va_S.rf
  have iX11 : ∀ w ∈ wsX110, w ∈ wsX3_worth := by decide +kernel
  have iX3 : ∀ w ∈ wsX30, w ∈ wsX3_worth := by decide +kernel
  have hl := lv_entry ([.ref ck, .ref a, .int (nI ar)]) (n := 3) (Nat.le_of_ble_eq_true rfl)
  rw [lg_entry_eq]
  generalize (lg_sl ([.ref ck, .ref a, .int (nI ar)]) ++ List.replicate (3 - (lg_sl ([.ref ck, .ref a, .int (nI ar)])).length) Slot.unset).toArray = ls at hl ⊢
  have hl : lv_has ls 3 [(0, .ref ck), (1, .ref a), (2, .int (nI ar))] := hl
  refine lv_aload_n hx hb dX3_worth_0 rfl (lv_at hl 1 rfl) ?_
  refine lv_ifnull hx hb dX3_worth_1 ?_
  refine lv_iload_n hx hb dX3_worth_4 rfl (lv_at hl 2 rfl) ?_
  refine lv_iconst (v := 5) hx hb dX3_worth_5 (by decide) ?_
  refine lv_icmp_lt (tgt := 11) hx hb dX3_worth_6 (by decide) (fun c_6 => ?_) (fun c_6 => absurd (nI_lt har (by decide)) c_6)
  refine va_gets hx hb hA.2.2.1.2.2.2.1.1 hS hown (hts (.fieldLink RX3 50 "HighRecipes$1" "$SwitchMap$HighRecipes$Kind" "[I") (by decide +kernel)) (fun _ h9 => h9) dX3_worth_11 ?_
  refine lv_aload_n hx hb dX3_worth_14 rfl (lv_at hl 1 rfl) ?_
  refine q_getN hx hb hts hown hA hW iX11 hv rfl 0 (by decide) (va_Nw.use rfl (hA.2.2.2.1 ("HighRecipes$Cooking", 196, "HighRecipes$Value", "kind", "LHighRecipes$Kind;", "HighRecipes") (by decide +kernel))) (fun _ h9 => h9) (v := .ref (E.2.2.2 7)) rfl dX3_worth_15 ?_
  refine q_ci (va_runU (As := []) (rest := [.ref (E.2.2.2 101)]) ⟨hx, hb, hml, hown, hts⟩ (q_ordinal l E f n 7 (by decide)) (va_cwU 0 hts gX3_worth_Jx29ce0_ordinal_8abf5_u60X5 rfl rfl rfl rfl (by decide +kernel) ⟨(by show 0 + 1 ≤ 3 * dp + 3; omega), (by show 8 + (1 + 11) + 0 ≤ 100 * dp + 100; omega)⟩) ⟨q_P.blind, va_recvE hA.2.2.1.1 (by decide) hS, fun U hU hWm => ⟨rfl, hA.go hS hU hWm, by rw [hU]; exact hW⟩⟩ rfl rfl hl.1 rfl (lv_room (Nat.le_of_ble_eq_true rfl)) dX3_worth_18 ⟨(Nat.le_of_ble_eq_true rfl), (Nat.le_of_ble_eq_true rfl)⟩) hS (fun r_18 f_18 n_18 H locs hp hW hS => ?_)
  obtain ⟨rfl, rfl, rfl⟩ := hp
  refine va_ti hx hb hA.2.2.1.2.2.2.1.2 hS (vp_in_nI (by decide) (by decide)) (v := .int 4) (by rw [nI_clamp (by decide)]; rfl) dX3_worth_21 ?_
  refine lv_tableOut (x := 4) (tgt := 219) hx hb dX3_worth_22 (by decide) (by decide) ?_
  refine lv_aload_n hx hb dX3_worth_219 rfl (lv_at hl 0 rfl) ?_
  refine q_get hx hb hts hown hA hW iX3 hc rfl 0 (by decide) (hts (.fieldLink RX3 15 "HighRecipes$Cooking" "kitchen" "LHighRecipes$Kitchen;") (by decide +kernel)) (fun _ h9 => h9) (v := .ref k) rfl dX3_worth_220 ?_
  refine lv_aload_n hx hb dX3_worth_223 rfl (lv_at hl 1 rfl) ?_
  refine q_getN hx hb hts hown hA hW iX11 hv rfl 1 (by decide) (va_Nw.use rfl (hA.2.2.2.1 ("HighRecipes$Cooking", 209, "HighRecipes$Value", "number", "I", "HighRecipes") (by decide +kernel))) (fun _ h9 => h9) (v := .int (nI i)) rfl dX3_worth_224 ?_
  refine q_cq (va_runV (As := [.int (nI i)]) (rest := []) ⟨hx, hb, hml, hown, hts⟩ (kX6_panAt l E f n k bk hd v pn rc ac i hB (by assumption) (by assumption) (by assumption) hi) (cwV 1 hts gX3_worth_X6_panAt rfl rfl rfl (by decide +kernel) ⟨(by show 0 + 1 ≤ 3 * dp + 3; omega), (by show 8 + (2 + 11) + 0 ≤ 100 * dp + 100; omega)⟩) (q_pV hA hW hS (ci := 6) rfl hk.g0) rfl rfl hl.1 rfl (lv_room (Nat.le_of_ble_eq_true rfl)) dX3_worth_227 ⟨Nat.le_of_ble_eq_true rfl, Nat.le_of_ble_eq_true rfl⟩) hS (fun r_227 f_227 n_227 H locs hp hW hS => ?_)
  obtain ⟨rfl, rfl, rfl⟩ := hp
  have hW : q_W E (f) n H := hW
  refine lv_aload_n hx hb dX3_worth_230 rfl (lv_at hl 1 rfl) ?_
  refine q_getN hx hb hts hown hA hW iX11 hv rfl 0 (by decide) (va_Nw.use rfl (hA.2.2.2.1 ("HighRecipes$Cooking", 196, "HighRecipes$Value", "kind", "LHighRecipes$Kind;", "HighRecipes") (by decide +kernel))) (fun _ h9 => h9) (v := .ref (E.2.2.2 7)) rfl dX3_worth_231 ?_
  refine q_ci (va_runS (As := [.ref (k + 12 + i), .ref (E.2.2.2 7)]) (rest := []) ⟨hx, hb, hml, hown, hts⟩ (kX3_contentOf_7 l E f n (k + 12 + i) (hd i) (v (52 + 4 * i)) (v (53 + 4 * i)) (v (54 + 4 * i)) (v (55 + 4 * i)) (hk.gp (q_8 hi hpn))) (va_cwS 2 hts gX3_worth_X3_contentOf rfl rfl rfl (by decide +kernel) ⟨(by show 1 + 1 ≤ 3 * dp + 3; omega), (by show 8 + (2 + 11) + 20 ≤ 100 * dp + 100; omega)⟩) (q_pS hA hW hS) rfl rfl hl.1 rfl (lv_room (Nat.le_of_ble_eq_true rfl)) dX3_worth_234 ⟨Nat.le_of_ble_eq_true rfl, Nat.le_of_ble_eq_true rfl⟩) hS (fun r_234 f_234 n_234 H locs hp hW hS => ?_)
  obtain ⟨rfl, rfl, rfl⟩ := hp
  have hW : q_W E (f) n H := hW
  exact q_iret hx hb hr hlocks hW hS ⟨rfl, rfl, rfl⟩ (Nat.le_of_ble_eq_true rfl) (Nat.le_of_ble_eq_true rfl) dX3_worth_237

set_option maxHeartbeats 4000000 in
set_option maxRecDepth 100000 in
theorem kX3_worth_25 (l : Launch) (E : q_E) (f : q_H) (n : Nat) (ck k bk : Nat) (hd v : Nat → Int32) (b w : Int32) (pn : Nat) (rc ac : Int32) (a : Nat) (h : Option Nat) (ar dp : Nat) (lf rg : Option Nat) (i : Nat) (hc : f ck = some (cCook k b w)) (hv : f a = some (cVal E 25 (nI i) lf rg h)) (hB : f bk = some (cBook bk (nI pn) rc ac)) (hk : KIT E f k bk hd v) (har : ar < 5) (hi : i < pn) (hbo : kOut k bk) (hpn : pn ≤ 8) : Met l yX3_worth wsX3_worth ({ frames := 3 * dp + 3, cells := 0, slots := 0, locals := 100 * dp + 100 }) (q_P E [.ref ck, .ref a, .int (nI ar)] f n) (q_Qi E (fun r f1 n1 => v (55 + 4 * i) = r ∧ f = f1 ∧ n = n1)) 0 0 (q_ge E) := by
  refine Met.ofW (cc := cX3_worth) (maxL := 3) (ret := (some .int)) (by decide) rfl ?_
  intro p e s m args below meth c s₁ B hml hv
  obtain ⟨rfl, hA, hW⟩ := hv
  have hx := B.exec
  have hb := B.bytes
  have hr := B.returns
  have hts := atoms_spec (ws := wsX3_worth) B.pre
  have hown : s.vm.findClass RX3 = some m.cls := findClass_of_methodNamed B.named
  have hlocks := B.notSynchronized
  have hS : va_S (q_ge E) s.heap s.heap [] := va_S.rf
  have iX11 : ∀ w ∈ wsX110, w ∈ wsX3_worth := by decide +kernel
  have iX3 : ∀ w ∈ wsX30, w ∈ wsX3_worth := by decide +kernel
  have hl := lv_entry ([.ref ck, .ref a, .int (nI ar)]) (n := 3) (Nat.le_of_ble_eq_true rfl)
  rw [lg_entry_eq]
  generalize (lg_sl ([.ref ck, .ref a, .int (nI ar)]) ++ List.replicate (3 - (lg_sl ([.ref ck, .ref a, .int (nI ar)])).length) Slot.unset).toArray = ls at hl ⊢
  have hl : lv_has ls 3 [(0, .ref ck), (1, .ref a), (2, .int (nI ar))] := hl
  refine lv_aload_n hx hb dX3_worth_0 rfl (lv_at hl 1 rfl) ?_
  refine lv_ifnull hx hb dX3_worth_1 ?_
  refine lv_iload_n hx hb dX3_worth_4 rfl (lv_at hl 2 rfl) ?_
  refine lv_iconst (v := 5) hx hb dX3_worth_5 (by decide) ?_
  refine lv_icmp_lt (tgt := 11) hx hb dX3_worth_6 (by decide) (fun c_6 => ?_) (fun c_6 => absurd (nI_lt har (by decide)) c_6)
  refine va_gets hx hb hA.2.2.1.2.2.2.1.1 hS hown (hts (.fieldLink RX3 50 "HighRecipes$1" "$SwitchMap$HighRecipes$Kind" "[I") (by decide +kernel)) (fun _ h9 => h9) dX3_worth_11 ?_
  refine lv_aload_n hx hb dX3_worth_14 rfl (lv_at hl 1 rfl) ?_
  refine q_getN hx hb hts hown hA hW iX11 hv rfl 0 (by decide) (va_Nw.use rfl (hA.2.2.2.1 ("HighRecipes$Cooking", 196, "HighRecipes$Value", "kind", "LHighRecipes$Kind;", "HighRecipes") (by decide +kernel))) (fun _ h9 => h9) (v := .ref (E.2.2.2 25)) rfl dX3_worth_15 ?_
  refine q_ci (va_runU (As := []) (rest := [.ref (E.2.2.2 101)]) ⟨hx, hb, hml, hown, hts⟩ (q_ordinal l E f n 25 (by decide)) (va_cwU 0 hts gX3_worth_Jx29ce0_ordinal_8abf5_u60X5 rfl rfl rfl rfl (by decide +kernel) ⟨(by show 0 + 1 ≤ 3 * dp + 3; omega), (by show 8 + (1 + 11) + 0 ≤ 100 * dp + 100; omega)⟩) ⟨q_P.blind, va_recvE hA.2.2.1.1 (by decide) hS, fun U hU hWm => ⟨rfl, hA.go hS hU hWm, by rw [hU]; exact hW⟩⟩ rfl rfl hl.1 rfl (lv_room (Nat.le_of_ble_eq_true rfl)) dX3_worth_18 ⟨(Nat.le_of_ble_eq_true rfl), (Nat.le_of_ble_eq_true rfl)⟩) hS (fun r_18 f_18 n_18 H locs hp hW hS => ?_)
  obtain ⟨rfl, rfl, rfl⟩ := hp
  refine va_ti hx hb hA.2.2.1.2.2.2.1.2 hS (vp_in_nI (by decide) (by decide)) (v := .int 21) (by rw [nI_clamp (by decide)]; rfl) dX3_worth_21 ?_
  refine lv_tableOut (x := 21) (tgt := 219) hx hb dX3_worth_22 (by decide) (by decide) ?_
  refine lv_aload_n hx hb dX3_worth_219 rfl (lv_at hl 0 rfl) ?_
  refine q_get hx hb hts hown hA hW iX3 hc rfl 0 (by decide) (hts (.fieldLink RX3 15 "HighRecipes$Cooking" "kitchen" "LHighRecipes$Kitchen;") (by decide +kernel)) (fun _ h9 => h9) (v := .ref k) rfl dX3_worth_220 ?_
  refine lv_aload_n hx hb dX3_worth_223 rfl (lv_at hl 1 rfl) ?_
  refine q_getN hx hb hts hown hA hW iX11 hv rfl 1 (by decide) (va_Nw.use rfl (hA.2.2.2.1 ("HighRecipes$Cooking", 209, "HighRecipes$Value", "number", "I", "HighRecipes") (by decide +kernel))) (fun _ h9 => h9) (v := .int (nI i)) rfl dX3_worth_224 ?_
  refine q_cq (va_runV (As := [.int (nI i)]) (rest := []) ⟨hx, hb, hml, hown, hts⟩ (kX6_panAt l E f n k bk hd v pn rc ac i hB (by assumption) (by assumption) (by assumption) hi) (cwV 1 hts gX3_worth_X6_panAt rfl rfl rfl (by decide +kernel) ⟨(by show 0 + 1 ≤ 3 * dp + 3; omega), (by show 8 + (2 + 11) + 0 ≤ 100 * dp + 100; omega)⟩) (q_pV hA hW hS (ci := 6) rfl hk.g0) rfl rfl hl.1 rfl (lv_room (Nat.le_of_ble_eq_true rfl)) dX3_worth_227 ⟨Nat.le_of_ble_eq_true rfl, Nat.le_of_ble_eq_true rfl⟩) hS (fun r_227 f_227 n_227 H locs hp hW hS => ?_)
  obtain ⟨rfl, rfl, rfl⟩ := hp
  have hW : q_W E (f) n H := hW
  refine lv_aload_n hx hb dX3_worth_230 rfl (lv_at hl 1 rfl) ?_
  refine q_getN hx hb hts hown hA hW iX11 hv rfl 0 (by decide) (va_Nw.use rfl (hA.2.2.2.1 ("HighRecipes$Cooking", 196, "HighRecipes$Value", "kind", "LHighRecipes$Kind;", "HighRecipes") (by decide +kernel))) (fun _ h9 => h9) (v := .ref (E.2.2.2 25)) rfl dX3_worth_231 ?_
  refine q_ci (va_runS (As := [.ref (k + 12 + i), .ref (E.2.2.2 25)]) (rest := []) ⟨hx, hb, hml, hown, hts⟩ (kX3_contentOf_25 l E f n (k + 12 + i) (hd i) (v (52 + 4 * i)) (v (53 + 4 * i)) (v (54 + 4 * i)) (v (55 + 4 * i)) (hk.gp (q_8 hi hpn))) (va_cwS 2 hts gX3_worth_X3_contentOf rfl rfl rfl (by decide +kernel) ⟨(by show 1 + 1 ≤ 3 * dp + 3; omega), (by show 8 + (2 + 11) + 20 ≤ 100 * dp + 100; omega)⟩) (q_pS hA hW hS) rfl rfl hl.1 rfl (lv_room (Nat.le_of_ble_eq_true rfl)) dX3_worth_234 ⟨Nat.le_of_ble_eq_true rfl, Nat.le_of_ble_eq_true rfl⟩) hS (fun r_234 f_234 n_234 H locs hp hW hS => ?_)
  obtain ⟨rfl, rfl, rfl⟩ := hp
  have hW : q_W E (f) n H := hW
  exact q_iret hx hb hr hlocks hW hS ⟨rfl, rfl, rfl⟩ (Nat.le_of_ble_eq_true rfl) (Nat.le_of_ble_eq_true rfl) dX3_worth_237

set_option maxHeartbeats 4000000 in
set_option maxRecDepth 100000 in
theorem kX3_worth_26 (l : Launch) (E : q_E) (f : q_H) (n : Nat) (ck k bk : Nat) (hd v : Nat → Int32) (b w : Int32) (pn : Nat) (rc ac : Int32) (a : Nat) (h : Option Nat) (ar dp : Nat) (lf rg : Option Nat) (i : Nat) (hc : f ck = some (cCook k b w)) (hv : f a = some (cVal E 26 (nI i) lf rg h)) (hB : f bk = some (cBook bk (nI pn) rc ac)) (hk : KIT E f k bk hd v) (har : ar < 5) (hi : i < pn) (hbo : kOut k bk) (hpn : pn ≤ 8) : Met l yX3_worth wsX3_worth ({ frames := 3 * dp + 3, cells := 0, slots := 0, locals := 100 * dp + 100 }) (q_P E [.ref ck, .ref a, .int (nI ar)] f n) (q_Qi E (fun r f1 n1 => hd i - v (52 + 4 * i) - v (53 + 4 * i) = r ∧ f = f1 ∧ n = n1)) 0 0 (q_ge E) := by
  refine Met.ofW (cc := cX3_worth) (maxL := 3) (ret := (some .int)) (by decide) rfl ?_
  intro p e s m args below meth c s₁ B hml hv
  obtain ⟨rfl, hA, hW⟩ := hv
  have hx := B.exec
  have hb := B.bytes
  have hr := B.returns
  have hts := atoms_spec (ws := wsX3_worth) B.pre
  have hown : s.vm.findClass RX3 = some m.cls := findClass_of_methodNamed B.named
  have hlocks := B.notSynchronized
  have hS : va_S (q_ge E) s.heap s.heap [] := va_S.rf
  have iX11 : ∀ w ∈ wsX110, w ∈ wsX3_worth := by decide +kernel
  have iX3 : ∀ w ∈ wsX30, w ∈ wsX3_worth := by decide +kernel
  have hl := lv_entry ([.ref ck, .ref a, .int (nI ar)]) (n := 3) (Nat.le_of_ble_eq_true rfl)
  rw [lg_entry_eq]
  generalize (lg_sl ([.ref ck, .ref a, .int (nI ar)]) ++ List.replicate (3 - (lg_sl ([.ref ck, .ref a, .int (nI ar)])).length) Slot.unset).toArray = ls at hl ⊢
  have hl : lv_has ls 3 [(0, .ref ck), (1, .ref a), (2, .int (nI ar))] := hl
  refine lv_aload_n hx hb dX3_worth_0 rfl (lv_at hl 1 rfl) ?_
  refine lv_ifnull hx hb dX3_worth_1 ?_
  refine lv_iload_n hx hb dX3_worth_4 rfl (lv_at hl 2 rfl) ?_
  refine lv_iconst (v := 5) hx hb dX3_worth_5 (by decide) ?_
  refine lv_icmp_lt (tgt := 11) hx hb dX3_worth_6 (by decide) (fun c_6 => ?_) (fun c_6 => absurd (nI_lt har (by decide)) c_6)
  refine va_gets hx hb hA.2.2.1.2.2.2.1.1 hS hown (hts (.fieldLink RX3 50 "HighRecipes$1" "$SwitchMap$HighRecipes$Kind" "[I") (by decide +kernel)) (fun _ h9 => h9) dX3_worth_11 ?_
  refine lv_aload_n hx hb dX3_worth_14 rfl (lv_at hl 1 rfl) ?_
  refine q_getN hx hb hts hown hA hW iX11 hv rfl 0 (by decide) (va_Nw.use rfl (hA.2.2.2.1 ("HighRecipes$Cooking", 196, "HighRecipes$Value", "kind", "LHighRecipes$Kind;", "HighRecipes") (by decide +kernel))) (fun _ h9 => h9) (v := .ref (E.2.2.2 26)) rfl dX3_worth_15 ?_
  refine q_ci (va_runU (As := []) (rest := [.ref (E.2.2.2 101)]) ⟨hx, hb, hml, hown, hts⟩ (q_ordinal l E f n 26 (by decide)) (va_cwU 0 hts gX3_worth_Jx29ce0_ordinal_8abf5_u60X5 rfl rfl rfl rfl (by decide +kernel) ⟨(by show 0 + 1 ≤ 3 * dp + 3; omega), (by show 8 + (1 + 11) + 0 ≤ 100 * dp + 100; omega)⟩) ⟨q_P.blind, va_recvE hA.2.2.1.1 (by decide) hS, fun U hU hWm => ⟨rfl, hA.go hS hU hWm, by rw [hU]; exact hW⟩⟩ rfl rfl hl.1 rfl (lv_room (Nat.le_of_ble_eq_true rfl)) dX3_worth_18 ⟨(Nat.le_of_ble_eq_true rfl), (Nat.le_of_ble_eq_true rfl)⟩) hS (fun r_18 f_18 n_18 H locs hp hW hS => ?_)
  obtain ⟨rfl, rfl, rfl⟩ := hp
  refine va_ti hx hb hA.2.2.1.2.2.2.1.2 hS (vp_in_nI (by decide) (by decide)) (v := .int 0) (by rw [nI_clamp (by decide)]; rfl) dX3_worth_21 ?_
  refine lv_tableOut (x := 0) (tgt := 219) hx hb dX3_worth_22 (by decide) (by decide) ?_
  refine lv_aload_n hx hb dX3_worth_219 rfl (lv_at hl 0 rfl) ?_
  refine q_get hx hb hts hown hA hW iX3 hc rfl 0 (by decide) (hts (.fieldLink RX3 15 "HighRecipes$Cooking" "kitchen" "LHighRecipes$Kitchen;") (by decide +kernel)) (fun _ h9 => h9) (v := .ref k) rfl dX3_worth_220 ?_
  refine lv_aload_n hx hb dX3_worth_223 rfl (lv_at hl 1 rfl) ?_
  refine q_getN hx hb hts hown hA hW iX11 hv rfl 1 (by decide) (va_Nw.use rfl (hA.2.2.2.1 ("HighRecipes$Cooking", 209, "HighRecipes$Value", "number", "I", "HighRecipes") (by decide +kernel))) (fun _ h9 => h9) (v := .int (nI i)) rfl dX3_worth_224 ?_
  refine q_cq (va_runV (As := [.int (nI i)]) (rest := []) ⟨hx, hb, hml, hown, hts⟩ (kX6_panAt l E f n k bk hd v pn rc ac i hB (by assumption) (by assumption) (by assumption) hi) (cwV 1 hts gX3_worth_X6_panAt rfl rfl rfl (by decide +kernel) ⟨(by show 0 + 1 ≤ 3 * dp + 3; omega), (by show 8 + (2 + 11) + 0 ≤ 100 * dp + 100; omega)⟩) (q_pV hA hW hS (ci := 6) rfl hk.g0) rfl rfl hl.1 rfl (lv_room (Nat.le_of_ble_eq_true rfl)) dX3_worth_227 ⟨Nat.le_of_ble_eq_true rfl, Nat.le_of_ble_eq_true rfl⟩) hS (fun r_227 f_227 n_227 H locs hp hW hS => ?_)
  obtain ⟨rfl, rfl, rfl⟩ := hp
  have hW : q_W E (f) n H := hW
  refine lv_aload_n hx hb dX3_worth_230 rfl (lv_at hl 1 rfl) ?_
  refine q_getN hx hb hts hown hA hW iX11 hv rfl 0 (by decide) (va_Nw.use rfl (hA.2.2.2.1 ("HighRecipes$Cooking", 196, "HighRecipes$Value", "kind", "LHighRecipes$Kind;", "HighRecipes") (by decide +kernel))) (fun _ h9 => h9) (v := .ref (E.2.2.2 26)) rfl dX3_worth_231 ?_
  refine q_ci (va_runS (As := [.ref (k + 12 + i), .ref (E.2.2.2 26)]) (rest := []) ⟨hx, hb, hml, hown, hts⟩ (kX3_contentOf_26 l E f n (k + 12 + i) (hd i) (v (52 + 4 * i)) (v (53 + 4 * i)) (v (54 + 4 * i)) (v (55 + 4 * i)) (hk.gp (q_8 hi hpn))) (va_cwS 2 hts gX3_worth_X3_contentOf rfl rfl rfl (by decide +kernel) ⟨(by show 1 + 1 ≤ 3 * dp + 3; omega), (by show 8 + (2 + 11) + 20 ≤ 100 * dp + 100; omega)⟩) (q_pS hA hW hS) rfl rfl hl.1 rfl (lv_room (Nat.le_of_ble_eq_true rfl)) dX3_worth_234 ⟨Nat.le_of_ble_eq_true rfl, Nat.le_of_ble_eq_true rfl⟩) hS (fun r_234 f_234 n_234 H locs hp hW hS => ?_)
  obtain ⟨rfl, rfl, rfl⟩ := hp
  have hW : q_W E (f) n H := hW
  exact q_iret hx hb hr hlocks hW hS ⟨rfl, rfl, rfl⟩ (Nat.le_of_ble_eq_true rfl) (Nat.le_of_ble_eq_true rfl) dX3_worth_237

set_option maxHeartbeats 4000000 in
set_option maxRecDepth 100000 in
theorem kX3_worth_33 (l : Launch) (E : q_E) (f : q_H) (n : Nat) (ck k bk : Nat) (hd v : Nat → Int32) (b w : Int32) (a : Nat) (h : Option Nat) (ar dp : Nat) (num : Int32) (x y : Nat) (dx dy : Int32) (hc : f ck = some (cCook k b w)) (hv : f a = some (cVal E 33 num (some x) (some y) h)) (hk : KIT E f k bk hd v) (har : ar < 5) (ix : Met l yX3_worth wsX3_worth ({ frames := 3 * dp, cells := 0, slots := 0, locals := 100 * dp }) (q_P E [.ref ck, .ref x, .int (nI (ar + 1))] f n) (q_Qi E (fun r f1 n1 => dx = r ∧ f = f1 ∧ n = n1)) 0 0 (q_ge E)) (iy : Met l yX3_worth wsX3_worth ({ frames := 3 * dp, cells := 0, slots := 0, locals := 100 * dp }) (q_P E [.ref ck, .ref y, .int (nI (ar + 1))] f n) (q_Qi E (fun r f1 n1 => dy = r ∧ f = f1 ∧ n = n1)) 0 0 (q_ge E)) : Met l yX3_worth wsX3_worth ({ frames := 3 * dp + 3, cells := 0, slots := 0, locals := 100 * dp + 100 }) (q_P E [.ref ck, .ref a, .int (nI ar)] f n) (q_Qi E (fun r f1 n1 => dx + dy = r ∧ f = f1 ∧ n = n1)) 0 0 (q_ge E) := by
  refine Met.ofW (cc := cX3_worth) (maxL := 3) (ret := (some .int)) (by decide) rfl ?_
  intro p e s m args below meth c s₁ B hml hv
  obtain ⟨rfl, hA, hW⟩ := hv
  have hx := B.exec
  have hb := B.bytes
  have hr := B.returns
  have hts := atoms_spec (ws := wsX3_worth) B.pre
  have hown : s.vm.findClass RX3 = some m.cls := findClass_of_methodNamed B.named
  have hlocks := B.notSynchronized
  have hS : va_S (q_ge E) s.heap s.heap [] := va_S.rf
  have iX11 : ∀ w ∈ wsX110, w ∈ wsX3_worth := by decide +kernel
  have hl := lv_entry ([.ref ck, .ref a, .int (nI ar)]) (n := 3) (Nat.le_of_ble_eq_true rfl)
  rw [lg_entry_eq]
  generalize (lg_sl ([.ref ck, .ref a, .int (nI ar)]) ++ List.replicate (3 - (lg_sl ([.ref ck, .ref a, .int (nI ar)])).length) Slot.unset).toArray = ls at hl ⊢
  have hl : lv_has ls 3 [(0, .ref ck), (1, .ref a), (2, .int (nI ar))] := hl
  refine lv_aload_n hx hb dX3_worth_0 rfl (lv_at hl 1 rfl) ?_
  refine lv_ifnull hx hb dX3_worth_1 ?_
  refine lv_iload_n hx hb dX3_worth_4 rfl (lv_at hl 2 rfl) ?_
  refine lv_iconst (v := 5) hx hb dX3_worth_5 (by decide) ?_
  refine lv_icmp_lt (tgt := 11) hx hb dX3_worth_6 (by decide) (fun c_6 => ?_) (fun c_6 => absurd (nI_lt har (by decide)) c_6)
  refine va_gets hx hb hA.2.2.1.2.2.2.1.1 hS hown (hts (.fieldLink RX3 50 "HighRecipes$1" "$SwitchMap$HighRecipes$Kind" "[I") (by decide +kernel)) (fun _ h9 => h9) dX3_worth_11 ?_
  refine lv_aload_n hx hb dX3_worth_14 rfl (lv_at hl 1 rfl) ?_
  refine q_getN hx hb hts hown hA hW iX11 hv rfl 0 (by decide) (va_Nw.use rfl (hA.2.2.2.1 ("HighRecipes$Cooking", 196, "HighRecipes$Value", "kind", "LHighRecipes$Kind;", "HighRecipes") (by decide +kernel))) (fun _ h9 => h9) (v := .ref (E.2.2.2 33)) rfl dX3_worth_15 ?_
  refine q_ci (va_runU (As := []) (rest := [.ref (E.2.2.2 101)]) ⟨hx, hb, hml, hown, hts⟩ (q_ordinal l E f n 33 (by decide)) (va_cwU 0 hts gX3_worth_Jx29ce0_ordinal_8abf5_u60X5 rfl rfl rfl rfl (by decide +kernel) ⟨(by show 0 + 1 ≤ 3 * dp + 3; omega), (by show 8 + (1 + 11) + 0 ≤ 100 * dp + 100; omega)⟩) ⟨q_P.blind, va_recvE hA.2.2.1.1 (by decide) hS, fun U hU hWm => ⟨rfl, hA.go hS hU hWm, by rw [hU]; exact hW⟩⟩ rfl rfl hl.1 rfl (lv_room (Nat.le_of_ble_eq_true rfl)) dX3_worth_18 ⟨(Nat.le_of_ble_eq_true rfl), (Nat.le_of_ble_eq_true rfl)⟩) hS (fun r_18 f_18 n_18 H locs hp hW hS => ?_)
  obtain ⟨rfl, rfl, rfl⟩ := hp
  refine va_ti hx hb hA.2.2.1.2.2.2.1.2 hS (vp_in_nI (by decide) (by decide)) (v := .int 10) (by rw [nI_clamp (by decide)]; rfl) dX3_worth_21 ?_
  refine lv_tableIn (x := 10) (off := 59) (tgt := 81) hx hb dX3_worth_22 (by decide) (by decide) (by decide) (by decide) ?_
  refine lv_aload_n hx hb dX3_worth_81 rfl (lv_at hl 0 rfl) ?_
  refine lv_aload_n hx hb dX3_worth_82 rfl (lv_at hl 1 rfl) ?_
  refine q_getN hx hb hts hown hA hW iX11 hv rfl 2 (by decide) (va_Nw.use rfl (hA.2.2.2.1 ("HighRecipes$Cooking", 188, "HighRecipes$Value", "left", "LHighRecipes$Value;", "HighRecipes") (by decide +kernel))) (fun _ h9 => h9) (v := .ref x) rfl dX3_worth_83 ?_
  refine lv_iload_n hx hb dX3_worth_86 rfl (lv_at hl 2 rfl) ?_
  refine lv_iconst (v := 1) hx hb dX3_worth_87 (by decide) ?_
  refine lv_iadd hx hb dX3_worth_88 ?_
  rw [nI_1]
  refine q_ci (va_runV (As := [.ref x, .int (nI (ar + 1))]) (rest := []) ⟨hx, hb, hml, hown, hts⟩ (ix) (cwV 2 hts gX3_worth_X3_worth rfl rfl rfl (by decide +kernel) ⟨(by show (3 * dp) + 1 ≤ 3 * dp + 3; omega), (by show 8 + (3 + 11) + (100 * dp) ≤ 100 * dp + 100; omega)⟩) (q_pV hA hW hS (ci := 4) rfl hc) rfl rfl hl.1 rfl (lv_room (Nat.le_of_ble_eq_true rfl)) dX3_worth_89 ⟨Nat.le_of_ble_eq_true rfl, Nat.le_of_ble_eq_true rfl⟩) hS (fun r_89 f_89 n_89 H locs hp hW hS => ?_)
  obtain ⟨rfl, rfl, rfl⟩ := hp
  have hW : q_W E (f) n H := hW
  refine lv_aload_n hx hb dX3_worth_92 rfl (lv_at hl 0 rfl) ?_
  refine lv_aload_n hx hb dX3_worth_93 rfl (lv_at hl 1 rfl) ?_
  refine q_getN hx hb hts hown hA hW iX11 hv rfl 3 (by decide) (va_Nw.use rfl (hA.2.2.2.1 ("HighRecipes$Cooking", 193, "HighRecipes$Value", "right", "LHighRecipes$Value;", "HighRecipes") (by decide +kernel))) (fun _ h9 => h9) (v := .ref y) rfl dX3_worth_94 ?_
  refine lv_iload_n hx hb dX3_worth_97 rfl (lv_at hl 2 rfl) ?_
  refine lv_iconst (v := 1) hx hb dX3_worth_98 (by decide) ?_
  refine lv_iadd hx hb dX3_worth_99 ?_
  rw [nI_1]
  refine q_ci (va_runV (As := [.ref y, .int (nI (ar + 1))]) (rest := [.int dx]) ⟨hx, hb, hml, hown, hts⟩ (iy) (cwV 2 hts gX3_worth_X3_worth rfl rfl rfl (by decide +kernel) ⟨(by show (3 * dp) + 1 ≤ 3 * dp + 3; omega), (by show 8 + (3 + 11) + (100 * dp) ≤ 100 * dp + 100; omega)⟩) (q_pV hA hW hS (ci := 4) rfl hc) rfl rfl hl.1 rfl (lv_room (Nat.le_of_ble_eq_true rfl)) dX3_worth_100 ⟨Nat.le_of_ble_eq_true rfl, Nat.le_of_ble_eq_true rfl⟩) hS (fun r_100 f_100 n_100 H locs hp hW hS => ?_)
  obtain ⟨rfl, rfl, rfl⟩ := hp
  have hW : q_W E (f) n H := hW
  refine lv_iadd hx hb dX3_worth_103 ?_
  exact q_iret hx hb hr hlocks hW hS ⟨rfl, rfl, rfl⟩ (Nat.le_of_ble_eq_true rfl) (Nat.le_of_ble_eq_true rfl) dX3_worth_104

set_option maxHeartbeats 4000000 in
set_option maxRecDepth 100000 in
theorem kX3_worth_34 (l : Launch) (E : q_E) (f : q_H) (n : Nat) (ck k bk : Nat) (hd v : Nat → Int32) (b w : Int32) (a : Nat) (h : Option Nat) (ar dp : Nat) (num : Int32) (x y : Nat) (dx dy : Int32) (hc : f ck = some (cCook k b w)) (hv : f a = some (cVal E 34 num (some x) (some y) h)) (hk : KIT E f k bk hd v) (har : ar < 5) (ix : Met l yX3_worth wsX3_worth ({ frames := 3 * dp, cells := 0, slots := 0, locals := 100 * dp }) (q_P E [.ref ck, .ref x, .int (nI (ar + 1))] f n) (q_Qi E (fun r f1 n1 => dx = r ∧ f = f1 ∧ n = n1)) 0 0 (q_ge E)) (iy : Met l yX3_worth wsX3_worth ({ frames := 3 * dp, cells := 0, slots := 0, locals := 100 * dp }) (q_P E [.ref ck, .ref y, .int (nI (ar + 1))] f n) (q_Qi E (fun r f1 n1 => dy = r ∧ f = f1 ∧ n = n1)) 0 0 (q_ge E)) : Met l yX3_worth wsX3_worth ({ frames := 3 * dp + 3, cells := 0, slots := 0, locals := 100 * dp + 100 }) (q_P E [.ref ck, .ref a, .int (nI ar)] f n) (q_Qi E (fun r f1 n1 => dx - dy = r ∧ f = f1 ∧ n = n1)) 0 0 (q_ge E) := by
  refine Met.ofW (cc := cX3_worth) (maxL := 3) (ret := (some .int)) (by decide) rfl ?_
  intro p e s m args below meth c s₁ B hml hv
  obtain ⟨rfl, hA, hW⟩ := hv
  have hx := B.exec
  have hb := B.bytes
  have hr := B.returns
  have hts := atoms_spec (ws := wsX3_worth) B.pre
  have hown : s.vm.findClass RX3 = some m.cls := findClass_of_methodNamed B.named
  have hlocks := B.notSynchronized
  have hS : va_S (q_ge E) s.heap s.heap [] := va_S.rf
  have iX11 : ∀ w ∈ wsX110, w ∈ wsX3_worth := by decide +kernel
  have hl := lv_entry ([.ref ck, .ref a, .int (nI ar)]) (n := 3) (Nat.le_of_ble_eq_true rfl)
  rw [lg_entry_eq]
  generalize (lg_sl ([.ref ck, .ref a, .int (nI ar)]) ++ List.replicate (3 - (lg_sl ([.ref ck, .ref a, .int (nI ar)])).length) Slot.unset).toArray = ls at hl ⊢
  have hl : lv_has ls 3 [(0, .ref ck), (1, .ref a), (2, .int (nI ar))] := hl
  refine lv_aload_n hx hb dX3_worth_0 rfl (lv_at hl 1 rfl) ?_
  refine lv_ifnull hx hb dX3_worth_1 ?_
  refine lv_iload_n hx hb dX3_worth_4 rfl (lv_at hl 2 rfl) ?_
  refine lv_iconst (v := 5) hx hb dX3_worth_5 (by decide) ?_
  refine lv_icmp_lt (tgt := 11) hx hb dX3_worth_6 (by decide) (fun c_6 => ?_) (fun c_6 => absurd (nI_lt har (by decide)) c_6)
  refine va_gets hx hb hA.2.2.1.2.2.2.1.1 hS hown (hts (.fieldLink RX3 50 "HighRecipes$1" "$SwitchMap$HighRecipes$Kind" "[I") (by decide +kernel)) (fun _ h9 => h9) dX3_worth_11 ?_
  refine lv_aload_n hx hb dX3_worth_14 rfl (lv_at hl 1 rfl) ?_
  refine q_getN hx hb hts hown hA hW iX11 hv rfl 0 (by decide) (va_Nw.use rfl (hA.2.2.2.1 ("HighRecipes$Cooking", 196, "HighRecipes$Value", "kind", "LHighRecipes$Kind;", "HighRecipes") (by decide +kernel))) (fun _ h9 => h9) (v := .ref (E.2.2.2 34)) rfl dX3_worth_15 ?_
  refine q_ci (va_runU (As := []) (rest := [.ref (E.2.2.2 101)]) ⟨hx, hb, hml, hown, hts⟩ (q_ordinal l E f n 34 (by decide)) (va_cwU 0 hts gX3_worth_Jx29ce0_ordinal_8abf5_u60X5 rfl rfl rfl rfl (by decide +kernel) ⟨(by show 0 + 1 ≤ 3 * dp + 3; omega), (by show 8 + (1 + 11) + 0 ≤ 100 * dp + 100; omega)⟩) ⟨q_P.blind, va_recvE hA.2.2.1.1 (by decide) hS, fun U hU hWm => ⟨rfl, hA.go hS hU hWm, by rw [hU]; exact hW⟩⟩ rfl rfl hl.1 rfl (lv_room (Nat.le_of_ble_eq_true rfl)) dX3_worth_18 ⟨(Nat.le_of_ble_eq_true rfl), (Nat.le_of_ble_eq_true rfl)⟩) hS (fun r_18 f_18 n_18 H locs hp hW hS => ?_)
  obtain ⟨rfl, rfl, rfl⟩ := hp
  refine va_ti hx hb hA.2.2.1.2.2.2.1.2 hS (vp_in_nI (by decide) (by decide)) (v := .int 11) (by rw [nI_clamp (by decide)]; rfl) dX3_worth_21 ?_
  refine lv_tableIn (x := 11) (off := 83) (tgt := 105) hx hb dX3_worth_22 (by decide) (by decide) (by decide) (by decide) ?_
  refine lv_aload_n hx hb dX3_worth_105 rfl (lv_at hl 0 rfl) ?_
  refine lv_aload_n hx hb dX3_worth_106 rfl (lv_at hl 1 rfl) ?_
  refine q_getN hx hb hts hown hA hW iX11 hv rfl 2 (by decide) (va_Nw.use rfl (hA.2.2.2.1 ("HighRecipes$Cooking", 188, "HighRecipes$Value", "left", "LHighRecipes$Value;", "HighRecipes") (by decide +kernel))) (fun _ h9 => h9) (v := .ref x) rfl dX3_worth_107 ?_
  refine lv_iload_n hx hb dX3_worth_110 rfl (lv_at hl 2 rfl) ?_
  refine lv_iconst (v := 1) hx hb dX3_worth_111 (by decide) ?_
  refine lv_iadd hx hb dX3_worth_112 ?_
  rw [nI_1]
  refine q_ci (va_runV (As := [.ref x, .int (nI (ar + 1))]) (rest := []) ⟨hx, hb, hml, hown, hts⟩ (ix) (cwV 2 hts gX3_worth_X3_worth rfl rfl rfl (by decide +kernel) ⟨(by show (3 * dp) + 1 ≤ 3 * dp + 3; omega), (by show 8 + (3 + 11) + (100 * dp) ≤ 100 * dp + 100; omega)⟩) (q_pV hA hW hS (ci := 4) rfl hc) rfl rfl hl.1 rfl (lv_room (Nat.le_of_ble_eq_true rfl)) dX3_worth_113 ⟨Nat.le_of_ble_eq_true rfl, Nat.le_of_ble_eq_true rfl⟩) hS (fun r_113 f_113 n_113 H locs hp hW hS => ?_)
  obtain ⟨rfl, rfl, rfl⟩ := hp
  have hW : q_W E (f) n H := hW
  refine lv_aload_n hx hb dX3_worth_116 rfl (lv_at hl 0 rfl) ?_
  refine lv_aload_n hx hb dX3_worth_117 rfl (lv_at hl 1 rfl) ?_
  refine q_getN hx hb hts hown hA hW iX11 hv rfl 3 (by decide) (va_Nw.use rfl (hA.2.2.2.1 ("HighRecipes$Cooking", 193, "HighRecipes$Value", "right", "LHighRecipes$Value;", "HighRecipes") (by decide +kernel))) (fun _ h9 => h9) (v := .ref y) rfl dX3_worth_118 ?_
  refine lv_iload_n hx hb dX3_worth_121 rfl (lv_at hl 2 rfl) ?_
  refine lv_iconst (v := 1) hx hb dX3_worth_122 (by decide) ?_
  refine lv_iadd hx hb dX3_worth_123 ?_
  rw [nI_1]
  refine q_ci (va_runV (As := [.ref y, .int (nI (ar + 1))]) (rest := [.int dx]) ⟨hx, hb, hml, hown, hts⟩ (iy) (cwV 2 hts gX3_worth_X3_worth rfl rfl rfl (by decide +kernel) ⟨(by show (3 * dp) + 1 ≤ 3 * dp + 3; omega), (by show 8 + (3 + 11) + (100 * dp) ≤ 100 * dp + 100; omega)⟩) (q_pV hA hW hS (ci := 4) rfl hc) rfl rfl hl.1 rfl (lv_room (Nat.le_of_ble_eq_true rfl)) dX3_worth_124 ⟨Nat.le_of_ble_eq_true rfl, Nat.le_of_ble_eq_true rfl⟩) hS (fun r_124 f_124 n_124 H locs hp hW hS => ?_)
  obtain ⟨rfl, rfl, rfl⟩ := hp
  have hW : q_W E (f) n H := hW
  refine lv_isub hx hb dX3_worth_127 ?_
  exact q_iret hx hb hr hlocks hW hS ⟨rfl, rfl, rfl⟩ (Nat.le_of_ble_eq_true rfl) (Nat.le_of_ble_eq_true rfl) dX3_worth_128

set_option maxHeartbeats 4000000 in
set_option maxRecDepth 100000 in
theorem kX3_worth_35 (l : Launch) (E : q_E) (f : q_H) (n : Nat) (ck k bk : Nat) (hd v : Nat → Int32) (b w : Int32) (a : Nat) (h : Option Nat) (ar dp : Nat) (num : Int32) (x y : Nat) (dx dy : Int32) (hc : f ck = some (cCook k b w)) (hv : f a = some (cVal E 35 num (some x) (some y) h)) (hk : KIT E f k bk hd v) (har : ar < 5) (ix : Met l yX3_worth wsX3_worth ({ frames := 3 * dp, cells := 0, slots := 0, locals := 100 * dp }) (q_P E [.ref ck, .ref x, .int (nI (ar + 1))] f n) (q_Qi E (fun r f1 n1 => dx = r ∧ f = f1 ∧ n = n1)) 0 0 (q_ge E)) (iy : Met l yX3_worth wsX3_worth ({ frames := 3 * dp, cells := 0, slots := 0, locals := 100 * dp }) (q_P E [.ref ck, .ref y, .int (nI (ar + 1))] f n) (q_Qi E (fun r f1 n1 => dy = r ∧ f = f1 ∧ n = n1)) 0 0 (q_ge E)) : Met l yX3_worth wsX3_worth ({ frames := 3 * dp + 3, cells := 0, slots := 0, locals := 100 * dp + 100 }) (q_P E [.ref ck, .ref a, .int (nI ar)] f n) (q_Qi E (fun r f1 n1 => dx * dy = r ∧ f = f1 ∧ n = n1)) 0 0 (q_ge E) := by
  refine Met.ofW (cc := cX3_worth) (maxL := 3) (ret := (some .int)) (by decide) rfl ?_
  intro p e s m args below meth c s₁ B hml hv
  obtain ⟨rfl, hA, hW⟩ := hv
  have hx := B.exec
  have hb := B.bytes
  have hr := B.returns
  have hts := atoms_spec (ws := wsX3_worth) B.pre
  have hown : s.vm.findClass RX3 = some m.cls := findClass_of_methodNamed B.named
  have hlocks := B.notSynchronized
  have hS : va_S (q_ge E) s.heap s.heap [] := va_S.rf
  have iX11 : ∀ w ∈ wsX110, w ∈ wsX3_worth := by decide +kernel
  have hl := lv_entry ([.ref ck, .ref a, .int (nI ar)]) (n := 3) (Nat.le_of_ble_eq_true rfl)
  rw [lg_entry_eq]
  generalize (lg_sl ([.ref ck, .ref a, .int (nI ar)]) ++ List.replicate (3 - (lg_sl ([.ref ck, .ref a, .int (nI ar)])).length) Slot.unset).toArray = ls at hl ⊢
  have hl : lv_has ls 3 [(0, .ref ck), (1, .ref a), (2, .int (nI ar))] := hl
  refine lv_aload_n hx hb dX3_worth_0 rfl (lv_at hl 1 rfl) ?_
  refine lv_ifnull hx hb dX3_worth_1 ?_
  refine lv_iload_n hx hb dX3_worth_4 rfl (lv_at hl 2 rfl) ?_
  refine lv_iconst (v := 5) hx hb dX3_worth_5 (by decide) ?_
  refine lv_icmp_lt (tgt := 11) hx hb dX3_worth_6 (by decide) (fun c_6 => ?_) (fun c_6 => absurd (nI_lt har (by decide)) c_6)
  refine va_gets hx hb hA.2.2.1.2.2.2.1.1 hS hown (hts (.fieldLink RX3 50 "HighRecipes$1" "$SwitchMap$HighRecipes$Kind" "[I") (by decide +kernel)) (fun _ h9 => h9) dX3_worth_11 ?_
  refine lv_aload_n hx hb dX3_worth_14 rfl (lv_at hl 1 rfl) ?_
  refine q_getN hx hb hts hown hA hW iX11 hv rfl 0 (by decide) (va_Nw.use rfl (hA.2.2.2.1 ("HighRecipes$Cooking", 196, "HighRecipes$Value", "kind", "LHighRecipes$Kind;", "HighRecipes") (by decide +kernel))) (fun _ h9 => h9) (v := .ref (E.2.2.2 35)) rfl dX3_worth_15 ?_
  refine q_ci (va_runU (As := []) (rest := [.ref (E.2.2.2 101)]) ⟨hx, hb, hml, hown, hts⟩ (q_ordinal l E f n 35 (by decide)) (va_cwU 0 hts gX3_worth_Jx29ce0_ordinal_8abf5_u60X5 rfl rfl rfl rfl (by decide +kernel) ⟨(by show 0 + 1 ≤ 3 * dp + 3; omega), (by show 8 + (1 + 11) + 0 ≤ 100 * dp + 100; omega)⟩) ⟨q_P.blind, va_recvE hA.2.2.1.1 (by decide) hS, fun U hU hWm => ⟨rfl, hA.go hS hU hWm, by rw [hU]; exact hW⟩⟩ rfl rfl hl.1 rfl (lv_room (Nat.le_of_ble_eq_true rfl)) dX3_worth_18 ⟨(Nat.le_of_ble_eq_true rfl), (Nat.le_of_ble_eq_true rfl)⟩) hS (fun r_18 f_18 n_18 H locs hp hW hS => ?_)
  obtain ⟨rfl, rfl, rfl⟩ := hp
  refine va_ti hx hb hA.2.2.1.2.2.2.1.2 hS (vp_in_nI (by decide) (by decide)) (v := .int 12) (by rw [nI_clamp (by decide)]; rfl) dX3_worth_21 ?_
  refine lv_tableIn (x := 12) (off := 107) (tgt := 129) hx hb dX3_worth_22 (by decide) (by decide) (by decide) (by decide) ?_
  refine lv_aload_n hx hb dX3_worth_129 rfl (lv_at hl 0 rfl) ?_
  refine lv_aload_n hx hb dX3_worth_130 rfl (lv_at hl 1 rfl) ?_
  refine q_getN hx hb hts hown hA hW iX11 hv rfl 2 (by decide) (va_Nw.use rfl (hA.2.2.2.1 ("HighRecipes$Cooking", 188, "HighRecipes$Value", "left", "LHighRecipes$Value;", "HighRecipes") (by decide +kernel))) (fun _ h9 => h9) (v := .ref x) rfl dX3_worth_131 ?_
  refine lv_iload_n hx hb dX3_worth_134 rfl (lv_at hl 2 rfl) ?_
  refine lv_iconst (v := 1) hx hb dX3_worth_135 (by decide) ?_
  refine lv_iadd hx hb dX3_worth_136 ?_
  rw [nI_1]
  refine q_ci (va_runV (As := [.ref x, .int (nI (ar + 1))]) (rest := []) ⟨hx, hb, hml, hown, hts⟩ (ix) (cwV 2 hts gX3_worth_X3_worth rfl rfl rfl (by decide +kernel) ⟨(by show (3 * dp) + 1 ≤ 3 * dp + 3; omega), (by show 8 + (3 + 11) + (100 * dp) ≤ 100 * dp + 100; omega)⟩) (q_pV hA hW hS (ci := 4) rfl hc) rfl rfl hl.1 rfl (lv_room (Nat.le_of_ble_eq_true rfl)) dX3_worth_137 ⟨Nat.le_of_ble_eq_true rfl, Nat.le_of_ble_eq_true rfl⟩) hS (fun r_137 f_137 n_137 H locs hp hW hS => ?_)
  obtain ⟨rfl, rfl, rfl⟩ := hp
  have hW : q_W E (f) n H := hW
  refine lv_aload_n hx hb dX3_worth_140 rfl (lv_at hl 0 rfl) ?_
  refine lv_aload_n hx hb dX3_worth_141 rfl (lv_at hl 1 rfl) ?_
  refine q_getN hx hb hts hown hA hW iX11 hv rfl 3 (by decide) (va_Nw.use rfl (hA.2.2.2.1 ("HighRecipes$Cooking", 193, "HighRecipes$Value", "right", "LHighRecipes$Value;", "HighRecipes") (by decide +kernel))) (fun _ h9 => h9) (v := .ref y) rfl dX3_worth_142 ?_
  refine lv_iload_n hx hb dX3_worth_145 rfl (lv_at hl 2 rfl) ?_
  refine lv_iconst (v := 1) hx hb dX3_worth_146 (by decide) ?_
  refine lv_iadd hx hb dX3_worth_147 ?_
  rw [nI_1]
  refine q_ci (va_runV (As := [.ref y, .int (nI (ar + 1))]) (rest := [.int dx]) ⟨hx, hb, hml, hown, hts⟩ (iy) (cwV 2 hts gX3_worth_X3_worth rfl rfl rfl (by decide +kernel) ⟨(by show (3 * dp) + 1 ≤ 3 * dp + 3; omega), (by show 8 + (3 + 11) + (100 * dp) ≤ 100 * dp + 100; omega)⟩) (q_pV hA hW hS (ci := 4) rfl hc) rfl rfl hl.1 rfl (lv_room (Nat.le_of_ble_eq_true rfl)) dX3_worth_148 ⟨Nat.le_of_ble_eq_true rfl, Nat.le_of_ble_eq_true rfl⟩) hS (fun r_148 f_148 n_148 H locs hp hW hS => ?_)
  obtain ⟨rfl, rfl, rfl⟩ := hp
  have hW : q_W E (f) n H := hW
  refine lv_imul hx hb dX3_worth_151 ?_
  exact q_iret hx hb hr hlocks hW hS ⟨rfl, rfl, rfl⟩ (Nat.le_of_ble_eq_true rfl) (Nat.le_of_ble_eq_true rfl) dX3_worth_152

set_option maxHeartbeats 4000000 in
set_option maxRecDepth 100000 in
theorem kX3_worth_36 (l : Launch) (E : q_E) (f : q_H) (n : Nat) (ck k bk : Nat) (hd v : Nat → Int32) (b w : Int32) (a : Nat) (h : Option Nat) (ar dp : Nat) (num : Int32) (x y : Nat) (dx dy : Int32) (hc : f ck = some (cCook k b w)) (hv : f a = some (cVal E 36 num (some x) (some y) h)) (hk : KIT E f k bk hd v) (har : ar < 5) (ix : Met l yX3_worth wsX3_worth ({ frames := 3 * dp, cells := 0, slots := 0, locals := 100 * dp }) (q_P E [.ref ck, .ref x, .int (nI (ar + 1))] f n) (q_Qi E (fun r f1 n1 => dx = r ∧ f = f1 ∧ n = n1)) 0 0 (q_ge E)) (iy : Met l yX3_worth wsX3_worth ({ frames := 3 * dp, cells := 0, slots := 0, locals := 100 * dp }) (q_P E [.ref ck, .ref y, .int (nI (ar + 1))] f n) (q_Qi E (fun r f1 n1 => dy = r ∧ f = f1 ∧ n = n1)) 0 0 (q_ge E)) : Met l yX3_worth wsX3_worth ({ frames := 3 * dp + 3, cells := 0, slots := 0, locals := 100 * dp + 100 }) (q_P E [.ref ck, .ref a, .int (nI ar)] f n) (q_Qi E (fun r f1 n1 => q_quot dx dy = r ∧ f = f1 ∧ n = n1)) 0 0 (q_ge E) := by
  refine Met.ofW (cc := cX3_worth) (maxL := 3) (ret := (some .int)) (by decide) rfl ?_
  intro p e s m args below meth c s₁ B hml hv
  obtain ⟨rfl, hA, hW⟩ := hv
  have hx := B.exec
  have hb := B.bytes
  have hr := B.returns
  have hts := atoms_spec (ws := wsX3_worth) B.pre
  have hown : s.vm.findClass RX3 = some m.cls := findClass_of_methodNamed B.named
  have hlocks := B.notSynchronized
  have hS : va_S (q_ge E) s.heap s.heap [] := va_S.rf
  have iX11 : ∀ w ∈ wsX110, w ∈ wsX3_worth := by decide +kernel
  have hl := lv_entry ([.ref ck, .ref a, .int (nI ar)]) (n := 3) (Nat.le_of_ble_eq_true rfl)
  rw [lg_entry_eq]
  generalize (lg_sl ([.ref ck, .ref a, .int (nI ar)]) ++ List.replicate (3 - (lg_sl ([.ref ck, .ref a, .int (nI ar)])).length) Slot.unset).toArray = ls at hl ⊢
  have hl : lv_has ls 3 [(0, .ref ck), (1, .ref a), (2, .int (nI ar))] := hl
  refine lv_aload_n hx hb dX3_worth_0 rfl (lv_at hl 1 rfl) ?_
  refine lv_ifnull hx hb dX3_worth_1 ?_
  refine lv_iload_n hx hb dX3_worth_4 rfl (lv_at hl 2 rfl) ?_
  refine lv_iconst (v := 5) hx hb dX3_worth_5 (by decide) ?_
  refine lv_icmp_lt (tgt := 11) hx hb dX3_worth_6 (by decide) (fun c_6 => ?_) (fun c_6 => absurd (nI_lt har (by decide)) c_6)
  refine va_gets hx hb hA.2.2.1.2.2.2.1.1 hS hown (hts (.fieldLink RX3 50 "HighRecipes$1" "$SwitchMap$HighRecipes$Kind" "[I") (by decide +kernel)) (fun _ h9 => h9) dX3_worth_11 ?_
  refine lv_aload_n hx hb dX3_worth_14 rfl (lv_at hl 1 rfl) ?_
  refine q_getN hx hb hts hown hA hW iX11 hv rfl 0 (by decide) (va_Nw.use rfl (hA.2.2.2.1 ("HighRecipes$Cooking", 196, "HighRecipes$Value", "kind", "LHighRecipes$Kind;", "HighRecipes") (by decide +kernel))) (fun _ h9 => h9) (v := .ref (E.2.2.2 36)) rfl dX3_worth_15 ?_
  refine q_ci (va_runU (As := []) (rest := [.ref (E.2.2.2 101)]) ⟨hx, hb, hml, hown, hts⟩ (q_ordinal l E f n 36 (by decide)) (va_cwU 0 hts gX3_worth_Jx29ce0_ordinal_8abf5_u60X5 rfl rfl rfl rfl (by decide +kernel) ⟨(by show 0 + 1 ≤ 3 * dp + 3; omega), (by show 8 + (1 + 11) + 0 ≤ 100 * dp + 100; omega)⟩) ⟨q_P.blind, va_recvE hA.2.2.1.1 (by decide) hS, fun U hU hWm => ⟨rfl, hA.go hS hU hWm, by rw [hU]; exact hW⟩⟩ rfl rfl hl.1 rfl (lv_room (Nat.le_of_ble_eq_true rfl)) dX3_worth_18 ⟨(Nat.le_of_ble_eq_true rfl), (Nat.le_of_ble_eq_true rfl)⟩) hS (fun r_18 f_18 n_18 H locs hp hW hS => ?_)
  obtain ⟨rfl, rfl, rfl⟩ := hp
  refine va_ti hx hb hA.2.2.1.2.2.2.1.2 hS (vp_in_nI (by decide) (by decide)) (v := .int 13) (by rw [nI_clamp (by decide)]; rfl) dX3_worth_21 ?_
  refine lv_tableIn (x := 13) (off := 131) (tgt := 153) hx hb dX3_worth_22 (by decide) (by decide) (by decide) (by decide) ?_
  refine lv_aload_n hx hb dX3_worth_153 rfl (lv_at hl 0 rfl) ?_
  refine lv_aload_n hx hb dX3_worth_154 rfl (lv_at hl 1 rfl) ?_
  refine q_getN hx hb hts hown hA hW iX11 hv rfl 2 (by decide) (va_Nw.use rfl (hA.2.2.2.1 ("HighRecipes$Cooking", 188, "HighRecipes$Value", "left", "LHighRecipes$Value;", "HighRecipes") (by decide +kernel))) (fun _ h9 => h9) (v := .ref x) rfl dX3_worth_155 ?_
  refine lv_iload_n hx hb dX3_worth_158 rfl (lv_at hl 2 rfl) ?_
  refine lv_iconst (v := 1) hx hb dX3_worth_159 (by decide) ?_
  refine lv_iadd hx hb dX3_worth_160 ?_
  rw [nI_1]
  refine q_ci (va_runV (As := [.ref x, .int (nI (ar + 1))]) (rest := []) ⟨hx, hb, hml, hown, hts⟩ (ix) (cwV 2 hts gX3_worth_X3_worth rfl rfl rfl (by decide +kernel) ⟨(by show (3 * dp) + 1 ≤ 3 * dp + 3; omega), (by show 8 + (3 + 11) + (100 * dp) ≤ 100 * dp + 100; omega)⟩) (q_pV hA hW hS (ci := 4) rfl hc) rfl rfl hl.1 rfl (lv_room (Nat.le_of_ble_eq_true rfl)) dX3_worth_161 ⟨Nat.le_of_ble_eq_true rfl, Nat.le_of_ble_eq_true rfl⟩) hS (fun r_161 f_161 n_161 H locs hp hW hS => ?_)
  obtain ⟨rfl, rfl, rfl⟩ := hp
  have hW : q_W E (f) n H := hW
  refine lv_aload_n hx hb dX3_worth_164 rfl (lv_at hl 0 rfl) ?_
  refine lv_aload_n hx hb dX3_worth_165 rfl (lv_at hl 1 rfl) ?_
  refine q_getN hx hb hts hown hA hW iX11 hv rfl 3 (by decide) (va_Nw.use rfl (hA.2.2.2.1 ("HighRecipes$Cooking", 193, "HighRecipes$Value", "right", "LHighRecipes$Value;", "HighRecipes") (by decide +kernel))) (fun _ h9 => h9) (v := .ref y) rfl dX3_worth_166 ?_
  refine lv_iload_n hx hb dX3_worth_169 rfl (lv_at hl 2 rfl) ?_
  refine lv_iconst (v := 1) hx hb dX3_worth_170 (by decide) ?_
  refine lv_iadd hx hb dX3_worth_171 ?_
  rw [nI_1]
  refine q_ci (va_runV (As := [.ref y, .int (nI (ar + 1))]) (rest := [.int dx]) ⟨hx, hb, hml, hown, hts⟩ (iy) (cwV 2 hts gX3_worth_X3_worth rfl rfl rfl (by decide +kernel) ⟨(by show (3 * dp) + 1 ≤ 3 * dp + 3; omega), (by show 8 + (3 + 11) + (100 * dp) ≤ 100 * dp + 100; omega)⟩) (q_pV hA hW hS (ci := 4) rfl hc) rfl rfl hl.1 rfl (lv_room (Nat.le_of_ble_eq_true rfl)) dX3_worth_172 ⟨Nat.le_of_ble_eq_true rfl, Nat.le_of_ble_eq_true rfl⟩) hS (fun r_172 f_172 n_172 H locs hp hW hS => ?_)
  obtain ⟨rfl, rfl, rfl⟩ := hp
  have hW : q_W E (f) n H := hW
  refine q_ci (va_runSN (As := [.int dx, .int dy]) (rest := []) ⟨hx, hb, hml, hown, hts⟩ (kX12_quotient l E f n dx dy) ⟨va_cnB 2 hts gX3_worth_X12_quotient_n178 rfl rfl rfl (hA.2.2.2.2.1 ("HighRecipes$Cooking", 178, ⟨"HighRecipes", "quotient", "(II)I"⟩, "HighRecipes") (by decide +kernel)) (hts (.initialized RX12) (by decide +kernel)) (by decide +kernel) ⟨(by show 0 + 1 ≤ 3 * dp + 3; omega), (by show 8 + (2 + 11) + 0 ≤ 100 * dp + 100; omega)⟩, hts (.static yX12_quotient) (by decide +kernel), trivial⟩ (q_pS hA hW hS) rfl rfl hl.1 rfl (lv_room (Nat.le_of_ble_eq_true rfl)) dX3_worth_175 ⟨Nat.le_of_ble_eq_true rfl, Nat.le_of_ble_eq_true rfl⟩) hS (fun r_175 f_175 n_175 H locs hp hW hS => ?_)
  obtain ⟨rfl, rfl, rfl⟩ := hp
  have hW : q_W E (f) n H := hW
  exact q_iret hx hb hr hlocks hW hS ⟨rfl, rfl, rfl⟩ (Nat.le_of_ble_eq_true rfl) (Nat.le_of_ble_eq_true rfl) dX3_worth_178

set_option maxHeartbeats 4000000 in
/-- the worth of a value: what it stands for -/
theorem kX3_worth (l : Launch) (E : q_E) (n : Nat) (f : q_H) (ck k bk : Nat) (hd v : Nat → Int32) (b w : Int32) (pn : Nat) (rc ac : Int32) (lo hi : Nat) (hc : f ck = some (cCook k b w)) (hB : f bk = some (cBook bk (nI pn) rc ac)) (hk : KIT E f k bk hd v) (hbo : kOut k bk) (hpn : pn ≤ 8) : ∀ (dp a ar : Nat) (D : q_D), rV E pn lo hi f dp a D → ar + dp ≤ 5 → Met l yX3_worth wsX3_worth ({ frames := 3 * dp, cells := 0, slots := 0, locals := 100 * dp }) (q_P E [.ref ck, .ref a, .int (nI ar)] f n) (q_Qi E (fun r f1 n1 => D hd v = r ∧ f = f1 ∧ n = n1)) 0 0 (q_ge E)
  | 0, _, _, _, h, _ => h.elim
  | dp + 1, a, ar, D, h, hd9 => by
    obtain ⟨-, -, kd, num, lf, rg, h, he, hcs⟩ := h
    have har : ar < 5 := by omega
    rcases hcs with ⟨rfl, rfl⟩ | ⟨k1, k2, rfl⟩ | ⟨hkd, i, hi, rfl, rfl⟩ | ⟨k1, k2, x, y, D1, D2, rfl, rfl, r1, r2, rfl⟩
    · exact kX3_worth_38 l E f n ck k bk hd v b w a h ar dp num lf rg hc he hk har
    · rcases (by omega : kd = 19 ∨ kd = 20 ∨ kd = 21 ∨ kd = 22 ∨ kd = 23) with rfl | rfl | rfl | rfl | rfl
      · exact kX3_worth_19 l E f n ck k bk hd v b w a h ar dp num lf rg hc he hk har
      · exact kX3_worth_20 l E f n ck k bk hd v b w a h ar dp num lf rg hc he hk har
      · exact kX3_worth_21 l E f n ck k bk hd v b w a h ar dp num lf rg hc he hk har
      · exact kX3_worth_22 l E f n ck k bk hd v b w a h ar dp num lf rg hc he hk har
      · exact kX3_worth_23 l E f n ck k bk hd v b w a h ar dp num lf rg hc he hk har
    · rcases hkd with rfl | rfl | rfl | rfl | rfl
      · exact kX3_worth_4 l E f n ck k bk hd v b w pn rc ac a h ar dp lf rg i hc he hB hk har hi hbo hpn
      · exact kX3_worth_5 l E f n ck k bk hd v b w pn rc ac a h ar dp lf rg i hc he hB hk har hi hbo hpn
      · exact kX3_worth_7 l E f n ck k bk hd v b w pn rc ac a h ar dp lf rg i hc he hB hk har hi hbo hpn
      · exact kX3_worth_25 l E f n ck k bk hd v b w pn rc ac a h ar dp lf rg i hc he hB hk har hi hbo hpn
      · exact kX3_worth_26 l E f n ck k bk hd v b w pn rc ac a h ar dp lf rg i hc he hB hk har hi hbo hpn
    · have ix := kX3_worth l E n f ck k bk hd v b w pn rc ac lo _ hc hB hk hbo hpn dp x (ar + 1) D1 r1 (by omega)
      have iy := kX3_worth l E n f ck k bk hd v b w pn rc ac lo _ hc hB hk hbo hpn dp y (ar + 1) D2 r2 (by omega)
      rcases (by omega : kd = 33 ∨ kd = 34 ∨ kd = 35 ∨ kd = 36) with rfl | rfl | rfl | rfl
      · exact kX3_worth_33 l E f n ck k bk hd v b w a h ar dp num x y _ _ hc he hk har ix iy
      · exact kX3_worth_34 l E f n ck k bk hd v b w a h ar dp num x y _ _ hc he hk har ix iy
      · exact kX3_worth_35 l E f n ck k bk hd v b w a h ar dp num x y _ _ hc he hk har ix iy
      · exact kX3_worth_36 l E f n ck k bk hd v b w a h ar dp num x y _ _ hc he hk har ix iy

