/-! the law's values, reckoned in its kitchen; compares -/

set_option maxHeartbeats 4000000 in
set_option maxRecDepth 100000 in
theorem kX16_value_s0 (l : Launch) (E : q_E) (f : q_H) (n : Nat) (x9 y9 : Nat) (k pa re ki wa no pn : Nat) (pr : Nat → Nat) (hd v : q_V) (b : Nat) (w : Int32) (a k9 : Nat) (x y : Option Nat) (h0 : f a = some (cNode 0 (nI k9) x y)) (hK : LK E f k pa re ki wa no pn pr hd v b w) : Met l yX16_value wsX16_value ({ frames := x9 + 3, cells := 0, slots := 0, locals := y9 + 100 }) (q_P E [.ref a, .ref k] f n) (q_Qi E (fun r f1 n1 => nI k9 = r ∧ f = f1 ∧ n = n1)) 0 0 (q_ge E) := by
  refine Met.ofW (cc := cX16_value) (maxL := 4) (ret := (some .int)) (by decide) rfl ?_
  intro p0_ e0_ s0_ m0_ args0_ below0_ meth0_ c0_ s1_ B hml hv
  obtain ⟨rfl, hA, hW⟩ := hv
  have hx := B.exec
  have hb := B.bytes
  have hr := B.returns
  have hts := atoms_spec (ws := wsX16_value) B.pre
  have hown : s0_.vm.findClass RX16 = some m0_.cls := findClass_of_methodNamed B.named
  have hlocks := B.notSynchronized
  have hS : va_S (q_ge E) s0_.heap s0_.heap [] := va_S.rf
  have iX16 : ∀ w ∈ wsX160, w ∈ wsX16_value := by decide +kernel
  have hl := lv_entry ([.ref a, .ref k]) (n := 4) (Nat.le_of_ble_eq_true rfl)
  rw [lg_entry_eq]
  generalize (lg_sl ([.ref a, .ref k]) ++ List.replicate (4 - (lg_sl ([.ref a, .ref k])).length) Slot.unset).toArray = ls at hl ⊢
  have hl : lv_has ls 4 [(0, .ref a), (1, .ref k)] := hl
  obtain ⟨hk0, ⟨gk, hki, hkv⟩, ⟨gw, hwa, hwv⟩, ⟨gn, hno, hnv⟩, ⟨gp, hpa, hpv⟩, hrow⟩ := id hK
  have l_k := hW.lt hk0
  have l_ki := hW.lt hki
  have l_wa := hW.lt hwa
  have l_no := hW.lt hno
  have l_pa := hW.lt hpa
  have l_h0 := hW.lt h0
  refine lv_aload_n hx hb dX16_value_0 rfl (lv_at hl 0 rfl) ?_
  refine q_get hx hb hts hown hA hW iX16 h0 rfl 0 (by decide) (hts (.fieldLink RX16 7 "HighRecipesLaw$Node" "sort" "I") (by decide +kernel)) (fun _ h9 => h9) (v := .int 0) rfl dX16_value_1 ?_
  refine lv_bipush (v := 10) hx hb dX16_value_4 (by decide) ?_
  refine lv_icmp_le (tgt := 84) hx hb dX16_value_6 (by decide) (fun c_6 => ?_) (fun c_6 => absurd c_6 (by decide))
  refine lv_aload_n hx hb dX16_value_84 rfl (lv_at hl 0 rfl) ?_
  refine q_get hx hb hts hown hA hW iX16 h0 rfl 0 (by decide) (hts (.fieldLink RX16 7 "HighRecipesLaw$Node" "sort" "I") (by decide +kernel)) (fun _ h9 => h9) (v := .int 0) rfl dX16_value_85 ?_
  refine lv_tableIn (x := 0) (off := 60) (tgt := 148) hx hb dX16_value_88 (by decide) (by decide) (by decide) (by decide) ?_
  refine lv_aload_n hx hb dX16_value_148 rfl (lv_at hl 0 rfl) ?_
  refine q_get hx hb hts hown hA hW iX16 h0 rfl 1 (by decide) (hts (.fieldLink RX16 13 "HighRecipesLaw$Node" "n" "I") (by decide +kernel)) (fun _ h9 => h9) (v := .int (nI k9)) rfl dX16_value_149 ?_
  exact q_iret hx hb hr hlocks hW hS ⟨rfl, rfl, rfl⟩ (Nat.le_of_ble_eq_true rfl) (Nat.le_of_ble_eq_true rfl) dX16_value_152

set_option maxHeartbeats 4000000 in
set_option maxRecDepth 100000 in
theorem kX16_value_s1 (l : Launch) (E : q_E) (f : q_H) (n : Nat) (x9 y9 : Nat) (k pa re ki wa no pn : Nat) (pr : Nat → Nat) (hd v : q_V) (b : Nat) (w : Int32) (a k9 : Nat) (x y : Option Nat) (h0 : f a = some (cNode 1 (nI k9) x y)) (hK : LK E f k pa re ki wa no pn pr hd v b w) : Met l yX16_value wsX16_value ({ frames := x9 + 3, cells := 0, slots := 0, locals := y9 + 100 }) (q_P E [.ref a, .ref k] f n) (q_Qi E (fun r f1 n1 => v 0 = r ∧ f = f1 ∧ n = n1)) 0 0 (q_ge E) := by
  refine Met.ofW (cc := cX16_value) (maxL := 4) (ret := (some .int)) (by decide) rfl ?_
  intro p0_ e0_ s0_ m0_ args0_ below0_ meth0_ c0_ s1_ B hml hv
  obtain ⟨rfl, hA, hW⟩ := hv
  have hx := B.exec
  have hb := B.bytes
  have hr := B.returns
  have hts := atoms_spec (ws := wsX16_value) B.pre
  have hown : s0_.vm.findClass RX16 = some m0_.cls := findClass_of_methodNamed B.named
  have hlocks := B.notSynchronized
  have hS : va_S (q_ge E) s0_.heap s0_.heap [] := va_S.rf
  have iX15 : ∀ w ∈ wsX150, w ∈ wsX16_value := by decide +kernel
  have iX16 : ∀ w ∈ wsX160, w ∈ wsX16_value := by decide +kernel
  have hl := lv_entry ([.ref a, .ref k]) (n := 4) (Nat.le_of_ble_eq_true rfl)
  rw [lg_entry_eq]
  generalize (lg_sl ([.ref a, .ref k]) ++ List.replicate (4 - (lg_sl ([.ref a, .ref k])).length) Slot.unset).toArray = ls at hl ⊢
  have hl : lv_has ls 4 [(0, .ref a), (1, .ref k)] := hl
  obtain ⟨hk0, ⟨gk, hki, hkv⟩, ⟨gw, hwa, hwv⟩, ⟨gn, hno, hnv⟩, ⟨gp, hpa, hpv⟩, hrow⟩ := id hK
  have l_k := hW.lt hk0
  have l_ki := hW.lt hki
  have l_wa := hW.lt hwa
  have l_no := hW.lt hno
  have l_pa := hW.lt hpa
  have l_h0 := hW.lt h0
  refine lv_aload_n hx hb dX16_value_0 rfl (lv_at hl 0 rfl) ?_
  refine q_get hx hb hts hown hA hW iX16 h0 rfl 0 (by decide) (hts (.fieldLink RX16 7 "HighRecipesLaw$Node" "sort" "I") (by decide +kernel)) (fun _ h9 => h9) (v := .int 1) rfl dX16_value_1 ?_
  refine lv_bipush (v := 10) hx hb dX16_value_4 (by decide) ?_
  refine lv_icmp_le (tgt := 84) hx hb dX16_value_6 (by decide) (fun c_6 => ?_) (fun c_6 => absurd c_6 (by decide))
  refine lv_aload_n hx hb dX16_value_84 rfl (lv_at hl 0 rfl) ?_
  refine q_get hx hb hts hown hA hW iX16 h0 rfl 0 (by decide) (hts (.fieldLink RX16 7 "HighRecipesLaw$Node" "sort" "I") (by decide +kernel)) (fun _ h9 => h9) (v := .int 1) rfl dX16_value_85 ?_
  refine lv_tableIn (x := 1) (off := 65) (tgt := 153) hx hb dX16_value_88 (by decide) (by decide) (by decide) (by decide) ?_
  refine lv_aload_n hx hb dX16_value_153 rfl (lv_at hl 1 rfl) ?_
  refine q_get hx hb hts hown hA hW iX15 hk0 rfl 0 (by decide) (hts (.fieldLink RX16 81 "HighRecipesLaw$Kitchen" "altitude" "I") (by decide +kernel)) (fun _ h9 => h9) (v := .int (v 0)) rfl dX16_value_154 ?_
  exact q_iret hx hb hr hlocks hW hS ⟨rfl, rfl, rfl⟩ (Nat.le_of_ble_eq_true rfl) (Nat.le_of_ble_eq_true rfl) dX16_value_157

set_option maxHeartbeats 4000000 in
set_option maxRecDepth 100000 in
theorem kX16_value_s2 (l : Launch) (E : q_E) (f : q_H) (n : Nat) (x9 y9 : Nat) (k pa re ki wa no pn : Nat) (pr : Nat → Nat) (hd v : q_V) (b : Nat) (w : Int32) (a k9 : Nat) (x y : Option Nat) (h0 : f a = some (cNode 2 (nI k9) x y)) (hK : LK E f k pa re ki wa no pn pr hd v b w) : Met l yX16_value wsX16_value ({ frames := x9 + 3, cells := 0, slots := 0, locals := y9 + 100 }) (q_P E [.ref a, .ref k] f n) (q_Qi E (fun r f1 n1 => z_boil (v 0) = r ∧ f = f1 ∧ n = n1)) 0 0 (q_ge E) := by
  refine Met.ofW (cc := cX16_value) (maxL := 4) (ret := (some .int)) (by decide) rfl ?_
  intro p0_ e0_ s0_ m0_ args0_ below0_ meth0_ c0_ s1_ B hml hv
  obtain ⟨rfl, hA, hW⟩ := hv
  have hx := B.exec
  have hb := B.bytes
  have hr := B.returns
  have hts := atoms_spec (ws := wsX16_value) B.pre
  have hown : s0_.vm.findClass RX16 = some m0_.cls := findClass_of_methodNamed B.named
  have hlocks := B.notSynchronized
  have hS : va_S (q_ge E) s0_.heap s0_.heap [] := va_S.rf
  have iX16 : ∀ w ∈ wsX160, w ∈ wsX16_value := by decide +kernel
  have hl := lv_entry ([.ref a, .ref k]) (n := 4) (Nat.le_of_ble_eq_true rfl)
  rw [lg_entry_eq]
  generalize (lg_sl ([.ref a, .ref k]) ++ List.replicate (4 - (lg_sl ([.ref a, .ref k])).length) Slot.unset).toArray = ls at hl ⊢
  have hl : lv_has ls 4 [(0, .ref a), (1, .ref k)] := hl
  obtain ⟨hk0, ⟨gk, hki, hkv⟩, ⟨gw, hwa, hwv⟩, ⟨gn, hno, hnv⟩, ⟨gp, hpa, hpv⟩, hrow⟩ := id hK
  have l_k := hW.lt hk0
  have l_ki := hW.lt hki
  have l_wa := hW.lt hwa
  have l_no := hW.lt hno
  have l_pa := hW.lt hpa
  have l_h0 := hW.lt h0
  refine lv_aload_n hx hb dX16_value_0 rfl (lv_at hl 0 rfl) ?_
  refine q_get hx hb hts hown hA hW iX16 h0 rfl 0 (by decide) (hts (.fieldLink RX16 7 "HighRecipesLaw$Node" "sort" "I") (by decide +kernel)) (fun _ h9 => h9) (v := .int 2) rfl dX16_value_1 ?_
  refine lv_bipush (v := 10) hx hb dX16_value_4 (by decide) ?_
  refine lv_icmp_le (tgt := 84) hx hb dX16_value_6 (by decide) (fun c_6 => ?_) (fun c_6 => absurd c_6 (by decide))
  refine lv_aload_n hx hb dX16_value_84 rfl (lv_at hl 0 rfl) ?_
  refine q_get hx hb hts hown hA hW iX16 h0 rfl 0 (by decide) (hts (.fieldLink RX16 7 "HighRecipesLaw$Node" "sort" "I") (by decide +kernel)) (fun _ h9 => h9) (v := .int 2) rfl dX16_value_85 ?_
  refine lv_tableIn (x := 2) (off := 70) (tgt := 158) hx hb dX16_value_88 (by decide) (by decide) (by decide) (by decide) ?_
  refine lv_aload_n hx hb dX16_value_158 rfl (lv_at hl 1 rfl) ?_
  refine q_ci (va_runV (As := []) (rest := []) ⟨hx, hb, hml, hown, hts⟩ (kX15_boiling l E f n k pa re ki wa no pn pr hd v b w (by assumption)) (cwV 0 hts gX16_value_X15_boiling rfl rfl rfl (by decide +kernel) ⟨(by show 0 + 1 ≤ x9 + 3; omega), (by show 8 + (1 + 11) + 0 ≤ y9 + 100; omega)⟩) (q_pV hA hW hS (ci := 15) rfl hk0) rfl rfl hl.1 rfl (lv_room (Nat.le_of_ble_eq_true rfl)) dX16_value_159 ⟨(Nat.le_of_ble_eq_true rfl), (Nat.le_of_ble_eq_true rfl)⟩) hS (fun r_159 f_159 n_159 H locs hp hW hS => ?_)
  obtain ⟨rfl, rfl, rfl⟩ := hp
  have hW : q_W E (f) n H := hW
  exact q_iret hx hb hr hlocks hW hS ⟨rfl, rfl, rfl⟩ (Nat.le_of_ble_eq_true rfl) (Nat.le_of_ble_eq_true rfl) dX16_value_162

set_option maxHeartbeats 4000000 in
set_option maxRecDepth 100000 in
theorem kX16_value_s3 (l : Launch) (E : q_E) (f : q_H) (n : Nat) (x9 y9 : Nat) (k pa re ki wa no pn : Nat) (pr : Nat → Nat) (hd v : q_V) (b : Nat) (w : Int32) (a k9 : Nat) (x y : Option Nat) (h0 : f a = some (cNode 3 (nI k9) x y)) (hK : LK E f k pa re ki wa no pn pr hd v b w) : Met l yX16_value wsX16_value ({ frames := x9 + 3, cells := 0, slots := 0, locals := y9 + 100 }) (q_P E [.ref a, .ref k] f n) (q_Qi E (fun r f1 n1 => v 3 = r ∧ f = f1 ∧ n = n1)) 0 0 (q_ge E) := by
  refine Met.ofW (cc := cX16_value) (maxL := 4) (ret := (some .int)) (by decide) rfl ?_
  intro p0_ e0_ s0_ m0_ args0_ below0_ meth0_ c0_ s1_ B hml hv
  obtain ⟨rfl, hA, hW⟩ := hv
  have hx := B.exec
  have hb := B.bytes
  have hr := B.returns
  have hts := atoms_spec (ws := wsX16_value) B.pre
  have hown : s0_.vm.findClass RX16 = some m0_.cls := findClass_of_methodNamed B.named
  have hlocks := B.notSynchronized
  have hS : va_S (q_ge E) s0_.heap s0_.heap [] := va_S.rf
  have iX15 : ∀ w ∈ wsX150, w ∈ wsX16_value := by decide +kernel
  have iX16 : ∀ w ∈ wsX160, w ∈ wsX16_value := by decide +kernel
  have hl := lv_entry ([.ref a, .ref k]) (n := 4) (Nat.le_of_ble_eq_true rfl)
  rw [lg_entry_eq]
  generalize (lg_sl ([.ref a, .ref k]) ++ List.replicate (4 - (lg_sl ([.ref a, .ref k])).length) Slot.unset).toArray = ls at hl ⊢
  have hl : lv_has ls 4 [(0, .ref a), (1, .ref k)] := hl
  obtain ⟨hk0, ⟨gk, hki, hkv⟩, ⟨gw, hwa, hwv⟩, ⟨gn, hno, hnv⟩, ⟨gp, hpa, hpv⟩, hrow⟩ := id hK
  have l_k := hW.lt hk0
  have l_ki := hW.lt hki
  have l_wa := hW.lt hwa
  have l_no := hW.lt hno
  have l_pa := hW.lt hpa
  have l_h0 := hW.lt h0
  refine lv_aload_n hx hb dX16_value_0 rfl (lv_at hl 0 rfl) ?_
  refine q_get hx hb hts hown hA hW iX16 h0 rfl 0 (by decide) (hts (.fieldLink RX16 7 "HighRecipesLaw$Node" "sort" "I") (by decide +kernel)) (fun _ h9 => h9) (v := .int 3) rfl dX16_value_1 ?_
  refine lv_bipush (v := 10) hx hb dX16_value_4 (by decide) ?_
  refine lv_icmp_le (tgt := 84) hx hb dX16_value_6 (by decide) (fun c_6 => ?_) (fun c_6 => absurd c_6 (by decide))
  refine lv_aload_n hx hb dX16_value_84 rfl (lv_at hl 0 rfl) ?_
  refine q_get hx hb hts hown hA hW iX16 h0 rfl 0 (by decide) (hts (.fieldLink RX16 7 "HighRecipesLaw$Node" "sort" "I") (by decide +kernel)) (fun _ h9 => h9) (v := .int 3) rfl dX16_value_85 ?_
  refine lv_tableIn (x := 3) (off := 75) (tgt := 163) hx hb dX16_value_88 (by decide) (by decide) (by decide) (by decide) ?_
  refine lv_aload_n hx hb dX16_value_163 rfl (lv_at hl 1 rfl) ?_
  refine q_get hx hb hts hown hA hW iX15 hk0 rfl 3 (by decide) (hts (.fieldLink RX16 90 "HighRecipesLaw$Kitchen" "minute" "I") (by decide +kernel)) (fun _ h9 => h9) (v := .int (v 3)) rfl dX16_value_164 ?_
  exact q_iret hx hb hr hlocks hW hS ⟨rfl, rfl, rfl⟩ (Nat.le_of_ble_eq_true rfl) (Nat.le_of_ble_eq_true rfl) dX16_value_167

set_option maxHeartbeats 4000000 in
set_option maxRecDepth 100000 in
theorem kX16_value_s4 (l : Launch) (E : q_E) (f : q_H) (n : Nat) (x9 y9 : Nat) (k pa re ki wa no pn : Nat) (pr : Nat → Nat) (hd v : q_V) (b : Nat) (w : Int32) (a k9 : Nat) (x y : Option Nat) (h0 : f a = some (cNode 4 (nI k9) x y)) (hK : LK E f k pa re ki wa no pn pr hd v b w) : Met l yX16_value wsX16_value ({ frames := x9 + 3, cells := 0, slots := 0, locals := y9 + 100 }) (q_P E [.ref a, .ref k] f n) (q_Qi E (fun r f1 n1 => v 1 = r ∧ f = f1 ∧ n = n1)) 0 0 (q_ge E) := by
  refine Met.ofW (cc := cX16_value) (maxL := 4) (ret := (some .int)) (by decide) rfl ?_
  intro p0_ e0_ s0_ m0_ args0_ below0_ meth0_ c0_ s1_ B hml hv
  obtain ⟨rfl, hA, hW⟩ := hv
  have hx := B.exec
  have hb := B.bytes
  have hr := B.returns
  have hts := atoms_spec (ws := wsX16_value) B.pre
  have hown : s0_.vm.findClass RX16 = some m0_.cls := findClass_of_methodNamed B.named
  have hlocks := B.notSynchronized
  have hS : va_S (q_ge E) s0_.heap s0_.heap [] := va_S.rf
  have iX15 : ∀ w ∈ wsX150, w ∈ wsX16_value := by decide +kernel
  have iX16 : ∀ w ∈ wsX160, w ∈ wsX16_value := by decide +kernel
  have hl := lv_entry ([.ref a, .ref k]) (n := 4) (Nat.le_of_ble_eq_true rfl)
  rw [lg_entry_eq]
  generalize (lg_sl ([.ref a, .ref k]) ++ List.replicate (4 - (lg_sl ([.ref a, .ref k])).length) Slot.unset).toArray = ls at hl ⊢
  have hl : lv_has ls 4 [(0, .ref a), (1, .ref k)] := hl
  obtain ⟨hk0, ⟨gk, hki, hkv⟩, ⟨gw, hwa, hwv⟩, ⟨gn, hno, hnv⟩, ⟨gp, hpa, hpv⟩, hrow⟩ := id hK
  have l_k := hW.lt hk0
  have l_ki := hW.lt hki
  have l_wa := hW.lt hwa
  have l_no := hW.lt hno
  have l_pa := hW.lt hpa
  have l_h0 := hW.lt h0
  refine lv_aload_n hx hb dX16_value_0 rfl (lv_at hl 0 rfl) ?_
  refine q_get hx hb hts hown hA hW iX16 h0 rfl 0 (by decide) (hts (.fieldLink RX16 7 "HighRecipesLaw$Node" "sort" "I") (by decide +kernel)) (fun _ h9 => h9) (v := .int 4) rfl dX16_value_1 ?_
  refine lv_bipush (v := 10) hx hb dX16_value_4 (by decide) ?_
  refine lv_icmp_le (tgt := 84) hx hb dX16_value_6 (by decide) (fun c_6 => ?_) (fun c_6 => absurd c_6 (by decide))
  refine lv_aload_n hx hb dX16_value_84 rfl (lv_at hl 0 rfl) ?_
  refine q_get hx hb hts hown hA hW iX16 h0 rfl 0 (by decide) (hts (.fieldLink RX16 7 "HighRecipesLaw$Node" "sort" "I") (by decide +kernel)) (fun _ h9 => h9) (v := .int 4) rfl dX16_value_85 ?_
  refine lv_tableIn (x := 4) (off := 80) (tgt := 168) hx hb dX16_value_88 (by decide) (by decide) (by decide) (by decide) ?_
  refine lv_aload_n hx hb dX16_value_168 rfl (lv_at hl 1 rfl) ?_
  refine q_get hx hb hts hown hA hW iX15 hk0 rfl 1 (by decide) (hts (.fieldLink RX16 93 "HighRecipesLaw$Kitchen" "servings" "I") (by decide +kernel)) (fun _ h9 => h9) (v := .int (v 1)) rfl dX16_value_169 ?_
  exact q_iret hx hb hr hlocks hW hS ⟨rfl, rfl, rfl⟩ (Nat.le_of_ble_eq_true rfl) (Nat.le_of_ble_eq_true rfl) dX16_value_172

set_option maxHeartbeats 4000000 in
set_option maxRecDepth 100000 in
theorem kX16_value_s5 (l : Launch) (E : q_E) (f : q_H) (n : Nat) (x9 y9 : Nat) (k pa re ki wa no pn : Nat) (pr : Nat → Nat) (hd v : q_V) (b : Nat) (w : Int32) (a k9 : Nat) (x y : Option Nat) (h0 : f a = some (cNode 5 (nI k9) x y)) (hK : LK E f k pa re ki wa no pn pr hd v b w) : Met l yX16_value wsX16_value ({ frames := x9 + 3, cells := 0, slots := 0, locals := y9 + 100 }) (q_P E [.ref a, .ref k] f n) (q_Qi E (fun r f1 n1 => v 2 = r ∧ f = f1 ∧ n = n1)) 0 0 (q_ge E) := by
  refine Met.ofW (cc := cX16_value) (maxL := 4) (ret := (some .int)) (by decide) rfl ?_
  intro p0_ e0_ s0_ m0_ args0_ below0_ meth0_ c0_ s1_ B hml hv
  obtain ⟨rfl, hA, hW⟩ := hv
  have hx := B.exec
  have hb := B.bytes
  have hr := B.returns
  have hts := atoms_spec (ws := wsX16_value) B.pre
  have hown : s0_.vm.findClass RX16 = some m0_.cls := findClass_of_methodNamed B.named
  have hlocks := B.notSynchronized
  have hS : va_S (q_ge E) s0_.heap s0_.heap [] := va_S.rf
  have iX15 : ∀ w ∈ wsX150, w ∈ wsX16_value := by decide +kernel
  have iX16 : ∀ w ∈ wsX160, w ∈ wsX16_value := by decide +kernel
  have hl := lv_entry ([.ref a, .ref k]) (n := 4) (Nat.le_of_ble_eq_true rfl)
  rw [lg_entry_eq]
  generalize (lg_sl ([.ref a, .ref k]) ++ List.replicate (4 - (lg_sl ([.ref a, .ref k])).length) Slot.unset).toArray = ls at hl ⊢
  have hl : lv_has ls 4 [(0, .ref a), (1, .ref k)] := hl
  obtain ⟨hk0, ⟨gk, hki, hkv⟩, ⟨gw, hwa, hwv⟩, ⟨gn, hno, hnv⟩, ⟨gp, hpa, hpv⟩, hrow⟩ := id hK
  have l_k := hW.lt hk0
  have l_ki := hW.lt hki
  have l_wa := hW.lt hwa
  have l_no := hW.lt hno
  have l_pa := hW.lt hpa
  have l_h0 := hW.lt h0
  refine lv_aload_n hx hb dX16_value_0 rfl (lv_at hl 0 rfl) ?_
  refine q_get hx hb hts hown hA hW iX16 h0 rfl 0 (by decide) (hts (.fieldLink RX16 7 "HighRecipesLaw$Node" "sort" "I") (by decide +kernel)) (fun _ h9 => h9) (v := .int 5) rfl dX16_value_1 ?_
  refine lv_bipush (v := 10) hx hb dX16_value_4 (by decide) ?_
  refine lv_icmp_le (tgt := 84) hx hb dX16_value_6 (by decide) (fun c_6 => ?_) (fun c_6 => absurd c_6 (by decide))
  refine lv_aload_n hx hb dX16_value_84 rfl (lv_at hl 0 rfl) ?_
  refine q_get hx hb hts hown hA hW iX16 h0 rfl 0 (by decide) (hts (.fieldLink RX16 7 "HighRecipesLaw$Node" "sort" "I") (by decide +kernel)) (fun _ h9 => h9) (v := .int 5) rfl dX16_value_85 ?_
  refine lv_tableIn (x := 5) (off := 85) (tgt := 173) hx hb dX16_value_88 (by decide) (by decide) (by decide) (by decide) ?_
  refine lv_aload_n hx hb dX16_value_173 rfl (lv_at hl 1 rfl) ?_
  refine q_get hx hb hts hown hA hW iX15 hk0 rfl 2 (by decide) (hts (.fieldLink RX16 96 "HighRecipesLaw$Kitchen" "spoon" "I") (by decide +kernel)) (fun _ h9 => h9) (v := .int (v 2)) rfl dX16_value_174 ?_
  exact q_iret hx hb hr hlocks hW hS ⟨rfl, rfl, rfl⟩ (Nat.le_of_ble_eq_true rfl) (Nat.le_of_ble_eq_true rfl) dX16_value_177

set_option maxHeartbeats 4000000 in
set_option maxRecDepth 100000 in
theorem kX16_value_s6 (l : Launch) (E : q_E) (f : q_H) (n : Nat) (x9 y9 : Nat) (k pa re ki wa no pn : Nat) (pr : Nat → Nat) (hd v : q_V) (b : Nat) (w : Int32) (a k9 : Nat) (x y : Option Nat) (h0 : f a = some (cNode 6 (nI k9) x y)) (hK : LK E f k pa re ki wa no pn pr hd v b w) (hi : k9 < pn) (hpn : pn ≤ 8) : Met l yX16_value wsX16_value ({ frames := x9 + 3, cells := 0, slots := 0, locals := y9 + 100 }) (q_P E [.ref a, .ref k] f n) (q_Qi E (fun r f1 n1 => v (52 + 4 * k9) = r ∧ f = f1 ∧ n = n1)) 0 0 (q_ge E) := by
  refine Met.ofW (cc := cX16_value) (maxL := 4) (ret := (some .int)) (by decide) rfl ?_
  intro p0_ e0_ s0_ m0_ args0_ below0_ meth0_ c0_ s1_ B hml hv
  obtain ⟨rfl, hA, hW⟩ := hv
  have hx := B.exec
  have hb := B.bytes
  have hr := B.returns
  have hts := atoms_spec (ws := wsX16_value) B.pre
  have hown : s0_.vm.findClass RX16 = some m0_.cls := findClass_of_methodNamed B.named
  have hlocks := B.notSynchronized
  have hS : va_S (q_ge E) s0_.heap s0_.heap [] := va_S.rf
  have iX15 : ∀ w ∈ wsX150, w ∈ wsX16_value := by decide +kernel
  have iX16 : ∀ w ∈ wsX160, w ∈ wsX16_value := by decide +kernel
  have hl := lv_entry ([.ref a, .ref k]) (n := 4) (Nat.le_of_ble_eq_true rfl)
  rw [lg_entry_eq]
  generalize (lg_sl ([.ref a, .ref k]) ++ List.replicate (4 - (lg_sl ([.ref a, .ref k])).length) Slot.unset).toArray = ls at hl ⊢
  have hl : lv_has ls 4 [(0, .ref a), (1, .ref k)] := hl
  obtain ⟨hk0, ⟨gk, hki, hkv⟩, ⟨gw, hwa, hwv⟩, ⟨gn, hno, hnv⟩, ⟨gp, hpa, hpv⟩, hrow⟩ := id hK
  have l_k := hW.lt hk0
  have l_ki := hW.lt hki
  have l_wa := hW.lt hwa
  have l_no := hW.lt hno
  have l_pa := hW.lt hpa
  have l_h0 := hW.lt h0
  obtain ⟨gr, hr_i, hg0, hg1, hg2, hg3, hg4⟩ := hrow k9 hi
  refine lv_aload_n hx hb dX16_value_0 rfl (lv_at hl 0 rfl) ?_
  refine q_get hx hb hts hown hA hW iX16 h0 rfl 0 (by decide) (hts (.fieldLink RX16 7 "HighRecipesLaw$Node" "sort" "I") (by decide +kernel)) (fun _ h9 => h9) (v := .int 6) rfl dX16_value_1 ?_
  refine lv_bipush (v := 10) hx hb dX16_value_4 (by decide) ?_
  refine lv_icmp_le (tgt := 84) hx hb dX16_value_6 (by decide) (fun c_6 => ?_) (fun c_6 => absurd c_6 (by decide))
  refine lv_aload_n hx hb dX16_value_84 rfl (lv_at hl 0 rfl) ?_
  refine q_get hx hb hts hown hA hW iX16 h0 rfl 0 (by decide) (hts (.fieldLink RX16 7 "HighRecipesLaw$Node" "sort" "I") (by decide +kernel)) (fun _ h9 => h9) (v := .int 6) rfl dX16_value_85 ?_
  refine lv_tableIn (x := 6) (off := 99) (tgt := 187) hx hb dX16_value_88 (by decide) (by decide) (by decide) (by decide) ?_
  refine lv_aload_n hx hb dX16_value_187 rfl (lv_at hl 1 rfl) ?_
  refine q_get hx hb hts hown hA hW iX15 hk0 rfl 4 (by decide) (hts (.fieldLink RX16 102 "HighRecipesLaw$Kitchen" "pans" "[[I") (by decide +kernel)) (fun _ h9 => h9) (v := .ref pa) rfl dX16_value_188 ?_
  refine lv_aload_n hx hb dX16_value_191 rfl (lv_at hl 0 rfl) ?_
  refine q_get hx hb hts hown hA hW iX16 h0 rfl 1 (by decide) (hts (.fieldLink RX16 13 "HighRecipesLaw$Node" "n" "I") (by decide +kernel)) (fun _ h9 => h9) (v := .int (nI k9)) rfl dX16_value_192 ?_
  refine q_aaldA hx hb hA hW 8 rfl hpa (vp_in_nI (by omega) (by omega)) dX16_value_195 ?_
  rw [show gp (nI k9).toNatClampNeg = some (pr k9) from by rw [nI_clamp (by omega)]; exact hpv k9 (by omega)]
  refine lv_aload_n hx hb dX16_value_196 rfl (lv_at hl 0 rfl) ?_
  refine q_get hx hb hts hown hA hW iX16 h0 rfl 0 (by decide) (hts (.fieldLink RX16 7 "HighRecipesLaw$Node" "sort" "I") (by decide +kernel)) (fun _ h9 => h9) (v := .int 6) rfl dX16_value_197 ?_
  refine lv_iconst (v := 5) hx hb dX16_value_200 (by decide) ?_
  refine lv_isub hx hb dX16_value_201 ?_
  rw [show (6 : Int32) - 5 = 1 from by decide]
  refine q_iald hx hb hA hW hr_i (vp_in_nI (n := 1) (by decide) (by decide)) dX16_value_202 ?_
  rw [show gr (1 : Int32).toNatClampNeg = v (52 + 4 * k9) from hg1]
  exact q_iret hx hb hr hlocks hW hS ⟨rfl, rfl, rfl⟩ (Nat.le_of_ble_eq_true rfl) (Nat.le_of_ble_eq_true rfl) dX16_value_203

set_option maxHeartbeats 4000000 in
set_option maxRecDepth 100000 in
theorem kX16_value_s7 (l : Launch) (E : q_E) (f : q_H) (n : Nat) (x9 y9 : Nat) (k pa re ki wa no pn : Nat) (pr : Nat → Nat) (hd v : q_V) (b : Nat) (w : Int32) (a k9 : Nat) (x y : Option Nat) (h0 : f a = some (cNode 7 (nI k9) x y)) (hK : LK E f k pa re ki wa no pn pr hd v b w) (hi : k9 < pn) (hpn : pn ≤ 8) : Met l yX16_value wsX16_value ({ frames := x9 + 3, cells := 0, slots := 0, locals := y9 + 100 }) (q_P E [.ref a, .ref k] f n) (q_Qi E (fun r f1 n1 => v (53 + 4 * k9) = r ∧ f = f1 ∧ n = n1)) 0 0 (q_ge E) := by
  refine Met.ofW (cc := cX16_value) (maxL := 4) (ret := (some .int)) (by decide) rfl ?_
  intro p0_ e0_ s0_ m0_ args0_ below0_ meth0_ c0_ s1_ B hml hv
  obtain ⟨rfl, hA, hW⟩ := hv
  have hx := B.exec
  have hb := B.bytes
  have hr := B.returns
  have hts := atoms_spec (ws := wsX16_value) B.pre
  have hown : s0_.vm.findClass RX16 = some m0_.cls := findClass_of_methodNamed B.named
  have hlocks := B.notSynchronized
  have hS : va_S (q_ge E) s0_.heap s0_.heap [] := va_S.rf
  have iX15 : ∀ w ∈ wsX150, w ∈ wsX16_value := by decide +kernel
  have iX16 : ∀ w ∈ wsX160, w ∈ wsX16_value := by decide +kernel
  have hl := lv_entry ([.ref a, .ref k]) (n := 4) (Nat.le_of_ble_eq_true rfl)
  rw [lg_entry_eq]
  generalize (lg_sl ([.ref a, .ref k]) ++ List.replicate (4 - (lg_sl ([.ref a, .ref k])).length) Slot.unset).toArray = ls at hl ⊢
  have hl : lv_has ls 4 [(0, .ref a), (1, .ref k)] := hl
  obtain ⟨hk0, ⟨gk, hki, hkv⟩, ⟨gw, hwa, hwv⟩, ⟨gn, hno, hnv⟩, ⟨gp, hpa, hpv⟩, hrow⟩ := id hK
  have l_k := hW.lt hk0
  have l_ki := hW.lt hki
  have l_wa := hW.lt hwa
  have l_no := hW.lt hno
  have l_pa := hW.lt hpa
  have l_h0 := hW.lt h0
  obtain ⟨gr, hr_i, hg0, hg1, hg2, hg3, hg4⟩ := hrow k9 hi
  refine lv_aload_n hx hb dX16_value_0 rfl (lv_at hl 0 rfl) ?_
  refine q_get hx hb hts hown hA hW iX16 h0 rfl 0 (by decide) (hts (.fieldLink RX16 7 "HighRecipesLaw$Node" "sort" "I") (by decide +kernel)) (fun _ h9 => h9) (v := .int 7) rfl dX16_value_1 ?_
  refine lv_bipush (v := 10) hx hb dX16_value_4 (by decide) ?_
  refine lv_icmp_le (tgt := 84) hx hb dX16_value_6 (by decide) (fun c_6 => ?_) (fun c_6 => absurd c_6 (by decide))
  refine lv_aload_n hx hb dX16_value_84 rfl (lv_at hl 0 rfl) ?_
  refine q_get hx hb hts hown hA hW iX16 h0 rfl 0 (by decide) (hts (.fieldLink RX16 7 "HighRecipesLaw$Node" "sort" "I") (by decide +kernel)) (fun _ h9 => h9) (v := .int 7) rfl dX16_value_85 ?_
  refine lv_tableIn (x := 7) (off := 99) (tgt := 187) hx hb dX16_value_88 (by decide) (by decide) (by decide) (by decide) ?_
  refine lv_aload_n hx hb dX16_value_187 rfl (lv_at hl 1 rfl) ?_
  refine q_get hx hb hts hown hA hW iX15 hk0 rfl 4 (by decide) (hts (.fieldLink RX16 102 "HighRecipesLaw$Kitchen" "pans" "[[I") (by decide +kernel)) (fun _ h9 => h9) (v := .ref pa) rfl dX16_value_188 ?_
  refine lv_aload_n hx hb dX16_value_191 rfl (lv_at hl 0 rfl) ?_
  refine q_get hx hb hts hown hA hW iX16 h0 rfl 1 (by decide) (hts (.fieldLink RX16 13 "HighRecipesLaw$Node" "n" "I") (by decide +kernel)) (fun _ h9 => h9) (v := .int (nI k9)) rfl dX16_value_192 ?_
  refine q_aaldA hx hb hA hW 8 rfl hpa (vp_in_nI (by omega) (by omega)) dX16_value_195 ?_
  rw [show gp (nI k9).toNatClampNeg = some (pr k9) from by rw [nI_clamp (by omega)]; exact hpv k9 (by omega)]
  refine lv_aload_n hx hb dX16_value_196 rfl (lv_at hl 0 rfl) ?_
  refine q_get hx hb hts hown hA hW iX16 h0 rfl 0 (by decide) (hts (.fieldLink RX16 7 "HighRecipesLaw$Node" "sort" "I") (by decide +kernel)) (fun _ h9 => h9) (v := .int 7) rfl dX16_value_197 ?_
  refine lv_iconst (v := 5) hx hb dX16_value_200 (by decide) ?_
  refine lv_isub hx hb dX16_value_201 ?_
  rw [show (7 : Int32) - 5 = 2 from by decide]
  refine q_iald hx hb hA hW hr_i (vp_in_nI (n := 2) (by decide) (by decide)) dX16_value_202 ?_
  rw [show gr (2 : Int32).toNatClampNeg = v (53 + 4 * k9) from hg2]
  exact q_iret hx hb hr hlocks hW hS ⟨rfl, rfl, rfl⟩ (Nat.le_of_ble_eq_true rfl) (Nat.le_of_ble_eq_true rfl) dX16_value_203

set_option maxHeartbeats 4000000 in
set_option maxRecDepth 100000 in
theorem kX16_value_s8 (l : Launch) (E : q_E) (f : q_H) (n : Nat) (x9 y9 : Nat) (k pa re ki wa no pn : Nat) (pr : Nat → Nat) (hd v : q_V) (b : Nat) (w : Int32) (a k9 : Nat) (x y : Option Nat) (h0 : f a = some (cNode 8 (nI k9) x y)) (hK : LK E f k pa re ki wa no pn pr hd v b w) (hi : k9 < pn) (hpn : pn ≤ 8) : Met l yX16_value wsX16_value ({ frames := x9 + 3, cells := 0, slots := 0, locals := y9 + 100 }) (q_P E [.ref a, .ref k] f n) (q_Qi E (fun r f1 n1 => v (54 + 4 * k9) = r ∧ f = f1 ∧ n = n1)) 0 0 (q_ge E) := by
  refine Met.ofW (cc := cX16_value) (maxL := 4) (ret := (some .int)) (by decide) rfl ?_
  intro p0_ e0_ s0_ m0_ args0_ below0_ meth0_ c0_ s1_ B hml hv
  obtain ⟨rfl, hA, hW⟩ := hv
  have hx := B.exec
  have hb := B.bytes
  have hr := B.returns
  have hts := atoms_spec (ws := wsX16_value) B.pre
  have hown : s0_.vm.findClass RX16 = some m0_.cls := findClass_of_methodNamed B.named
  have hlocks := B.notSynchronized
  have hS : va_S (q_ge E) s0_.heap s0_.heap [] := va_S.rf
  have iX15 : ∀ w ∈ wsX150, w ∈ wsX16_value := by decide +kernel
  have iX16 : ∀ w ∈ wsX160, w ∈ wsX16_value := by decide +kernel
  have hl := lv_entry ([.ref a, .ref k]) (n := 4) (Nat.le_of_ble_eq_true rfl)
  rw [lg_entry_eq]
  generalize (lg_sl ([.ref a, .ref k]) ++ List.replicate (4 - (lg_sl ([.ref a, .ref k])).length) Slot.unset).toArray = ls at hl ⊢
  have hl : lv_has ls 4 [(0, .ref a), (1, .ref k)] := hl
  obtain ⟨hk0, ⟨gk, hki, hkv⟩, ⟨gw, hwa, hwv⟩, ⟨gn, hno, hnv⟩, ⟨gp, hpa, hpv⟩, hrow⟩ := id hK
  have l_k := hW.lt hk0
  have l_ki := hW.lt hki
  have l_wa := hW.lt hwa
  have l_no := hW.lt hno
  have l_pa := hW.lt hpa
  have l_h0 := hW.lt h0
  obtain ⟨gr, hr_i, hg0, hg1, hg2, hg3, hg4⟩ := hrow k9 hi
  refine lv_aload_n hx hb dX16_value_0 rfl (lv_at hl 0 rfl) ?_
  refine q_get hx hb hts hown hA hW iX16 h0 rfl 0 (by decide) (hts (.fieldLink RX16 7 "HighRecipesLaw$Node" "sort" "I") (by decide +kernel)) (fun _ h9 => h9) (v := .int 8) rfl dX16_value_1 ?_
  refine lv_bipush (v := 10) hx hb dX16_value_4 (by decide) ?_
  refine lv_icmp_le (tgt := 84) hx hb dX16_value_6 (by decide) (fun c_6 => ?_) (fun c_6 => absurd c_6 (by decide))
  refine lv_aload_n hx hb dX16_value_84 rfl (lv_at hl 0 rfl) ?_
  refine q_get hx hb hts hown hA hW iX16 h0 rfl 0 (by decide) (hts (.fieldLink RX16 7 "HighRecipesLaw$Node" "sort" "I") (by decide +kernel)) (fun _ h9 => h9) (v := .int 8) rfl dX16_value_85 ?_
  refine lv_tableIn (x := 8) (off := 99) (tgt := 187) hx hb dX16_value_88 (by decide) (by decide) (by decide) (by decide) ?_
  refine lv_aload_n hx hb dX16_value_187 rfl (lv_at hl 1 rfl) ?_
  refine q_get hx hb hts hown hA hW iX15 hk0 rfl 4 (by decide) (hts (.fieldLink RX16 102 "HighRecipesLaw$Kitchen" "pans" "[[I") (by decide +kernel)) (fun _ h9 => h9) (v := .ref pa) rfl dX16_value_188 ?_
  refine lv_aload_n hx hb dX16_value_191 rfl (lv_at hl 0 rfl) ?_
  refine q_get hx hb hts hown hA hW iX16 h0 rfl 1 (by decide) (hts (.fieldLink RX16 13 "HighRecipesLaw$Node" "n" "I") (by decide +kernel)) (fun _ h9 => h9) (v := .int (nI k9)) rfl dX16_value_192 ?_
  refine q_aaldA hx hb hA hW 8 rfl hpa (vp_in_nI (by omega) (by omega)) dX16_value_195 ?_
  rw [show gp (nI k9).toNatClampNeg = some (pr k9) from by rw [nI_clamp (by omega)]; exact hpv k9 (by omega)]
  refine lv_aload_n hx hb dX16_value_196 rfl (lv_at hl 0 rfl) ?_
  refine q_get hx hb hts hown hA hW iX16 h0 rfl 0 (by decide) (hts (.fieldLink RX16 7 "HighRecipesLaw$Node" "sort" "I") (by decide +kernel)) (fun _ h9 => h9) (v := .int 8) rfl dX16_value_197 ?_
  refine lv_iconst (v := 5) hx hb dX16_value_200 (by decide) ?_
  refine lv_isub hx hb dX16_value_201 ?_
  rw [show (8 : Int32) - 5 = 3 from by decide]
  refine q_iald hx hb hA hW hr_i (vp_in_nI (n := 3) (by decide) (by decide)) dX16_value_202 ?_
  rw [show gr (3 : Int32).toNatClampNeg = v (54 + 4 * k9) from hg3]
  exact q_iret hx hb hr hlocks hW hS ⟨rfl, rfl, rfl⟩ (Nat.le_of_ble_eq_true rfl) (Nat.le_of_ble_eq_true rfl) dX16_value_203

set_option maxHeartbeats 4000000 in
set_option maxRecDepth 100000 in
theorem kX16_value_s9 (l : Launch) (E : q_E) (f : q_H) (n : Nat) (x9 y9 : Nat) (k pa re ki wa no pn : Nat) (pr : Nat → Nat) (hd v : q_V) (b : Nat) (w : Int32) (a k9 : Nat) (x y : Option Nat) (h0 : f a = some (cNode 9 (nI k9) x y)) (hK : LK E f k pa re ki wa no pn pr hd v b w) (hi : k9 < pn) (hpn : pn ≤ 8) : Met l yX16_value wsX16_value ({ frames := x9 + 3, cells := 0, slots := 0, locals := y9 + 100 }) (q_P E [.ref a, .ref k] f n) (q_Qi E (fun r f1 n1 => v (55 + 4 * k9) = r ∧ f = f1 ∧ n = n1)) 0 0 (q_ge E) := by
  refine Met.ofW (cc := cX16_value) (maxL := 4) (ret := (some .int)) (by decide) rfl ?_
  intro p0_ e0_ s0_ m0_ args0_ below0_ meth0_ c0_ s1_ B hml hv
  obtain ⟨rfl, hA, hW⟩ := hv
  have hx := B.exec
  have hb := B.bytes
  have hr := B.returns
  have hts := atoms_spec (ws := wsX16_value) B.pre
  have hown : s0_.vm.findClass RX16 = some m0_.cls := findClass_of_methodNamed B.named
  have hlocks := B.notSynchronized
  have hS : va_S (q_ge E) s0_.heap s0_.heap [] := va_S.rf
  have iX15 : ∀ w ∈ wsX150, w ∈ wsX16_value := by decide +kernel
  have iX16 : ∀ w ∈ wsX160, w ∈ wsX16_value := by decide +kernel
  have hl := lv_entry ([.ref a, .ref k]) (n := 4) (Nat.le_of_ble_eq_true rfl)
  rw [lg_entry_eq]
  generalize (lg_sl ([.ref a, .ref k]) ++ List.replicate (4 - (lg_sl ([.ref a, .ref k])).length) Slot.unset).toArray = ls at hl ⊢
  have hl : lv_has ls 4 [(0, .ref a), (1, .ref k)] := hl
  obtain ⟨hk0, ⟨gk, hki, hkv⟩, ⟨gw, hwa, hwv⟩, ⟨gn, hno, hnv⟩, ⟨gp, hpa, hpv⟩, hrow⟩ := id hK
  have l_k := hW.lt hk0
  have l_ki := hW.lt hki
  have l_wa := hW.lt hwa
  have l_no := hW.lt hno
  have l_pa := hW.lt hpa
  have l_h0 := hW.lt h0
  obtain ⟨gr, hr_i, hg0, hg1, hg2, hg3, hg4⟩ := hrow k9 hi
  refine lv_aload_n hx hb dX16_value_0 rfl (lv_at hl 0 rfl) ?_
  refine q_get hx hb hts hown hA hW iX16 h0 rfl 0 (by decide) (hts (.fieldLink RX16 7 "HighRecipesLaw$Node" "sort" "I") (by decide +kernel)) (fun _ h9 => h9) (v := .int 9) rfl dX16_value_1 ?_
  refine lv_bipush (v := 10) hx hb dX16_value_4 (by decide) ?_
  refine lv_icmp_le (tgt := 84) hx hb dX16_value_6 (by decide) (fun c_6 => ?_) (fun c_6 => absurd c_6 (by decide))
  refine lv_aload_n hx hb dX16_value_84 rfl (lv_at hl 0 rfl) ?_
  refine q_get hx hb hts hown hA hW iX16 h0 rfl 0 (by decide) (hts (.fieldLink RX16 7 "HighRecipesLaw$Node" "sort" "I") (by decide +kernel)) (fun _ h9 => h9) (v := .int 9) rfl dX16_value_85 ?_
  refine lv_tableIn (x := 9) (off := 99) (tgt := 187) hx hb dX16_value_88 (by decide) (by decide) (by decide) (by decide) ?_
  refine lv_aload_n hx hb dX16_value_187 rfl (lv_at hl 1 rfl) ?_
  refine q_get hx hb hts hown hA hW iX15 hk0 rfl 4 (by decide) (hts (.fieldLink RX16 102 "HighRecipesLaw$Kitchen" "pans" "[[I") (by decide +kernel)) (fun _ h9 => h9) (v := .ref pa) rfl dX16_value_188 ?_
  refine lv_aload_n hx hb dX16_value_191 rfl (lv_at hl 0 rfl) ?_
  refine q_get hx hb hts hown hA hW iX16 h0 rfl 1 (by decide) (hts (.fieldLink RX16 13 "HighRecipesLaw$Node" "n" "I") (by decide +kernel)) (fun _ h9 => h9) (v := .int (nI k9)) rfl dX16_value_192 ?_
  refine q_aaldA hx hb hA hW 8 rfl hpa (vp_in_nI (by omega) (by omega)) dX16_value_195 ?_
  rw [show gp (nI k9).toNatClampNeg = some (pr k9) from by rw [nI_clamp (by omega)]; exact hpv k9 (by omega)]
  refine lv_aload_n hx hb dX16_value_196 rfl (lv_at hl 0 rfl) ?_
  refine q_get hx hb hts hown hA hW iX16 h0 rfl 0 (by decide) (hts (.fieldLink RX16 7 "HighRecipesLaw$Node" "sort" "I") (by decide +kernel)) (fun _ h9 => h9) (v := .int 9) rfl dX16_value_197 ?_
  refine lv_iconst (v := 5) hx hb dX16_value_200 (by decide) ?_
  refine lv_isub hx hb dX16_value_201 ?_
  rw [show (9 : Int32) - 5 = 4 from by decide]
  refine q_iald hx hb hA hW hr_i (vp_in_nI (n := 4) (by decide) (by decide)) dX16_value_202 ?_
  rw [show gr (4 : Int32).toNatClampNeg = v (55 + 4 * k9) from hg4]
  exact q_iret hx hb hr hlocks hW hS ⟨rfl, rfl, rfl⟩ (Nat.le_of_ble_eq_true rfl) (Nat.le_of_ble_eq_true rfl) dX16_value_203

set_option maxHeartbeats 4000000 in
set_option maxRecDepth 100000 in
theorem kX16_value_s10 (l : Launch) (E : q_E) (f : q_H) (n : Nat) (x9 y9 : Nat) (k pa re ki wa no pn : Nat) (pr : Nat → Nat) (hd v : q_V) (b : Nat) (w : Int32) (a k9 : Nat) (x y : Option Nat) (h0 : f a = some (cNode 10 (nI k9) x y)) (hK : LK E f k pa re ki wa no pn pr hd v b w) (hi : k9 < pn) (hpn : pn ≤ 8) : Met l yX16_value wsX16_value ({ frames := x9 + 3, cells := 0, slots := 0, locals := y9 + 100 }) (q_P E [.ref a, .ref k] f n) (q_Qi E (fun r f1 n1 => hd k9 - v (52 + 4 * k9) - v (53 + 4 * k9) = r ∧ f = f1 ∧ n = n1)) 0 0 (q_ge E) := by
  refine Met.ofW (cc := cX16_value) (maxL := 4) (ret := (some .int)) (by decide) rfl ?_
  intro p0_ e0_ s0_ m0_ args0_ below0_ meth0_ c0_ s1_ B hml hv
  obtain ⟨rfl, hA, hW⟩ := hv
  have hx := B.exec
  have hb := B.bytes
  have hr := B.returns
  have hts := atoms_spec (ws := wsX16_value) B.pre
  have hown : s0_.vm.findClass RX16 = some m0_.cls := findClass_of_methodNamed B.named
  have hlocks := B.notSynchronized
  have hS : va_S (q_ge E) s0_.heap s0_.heap [] := va_S.rf
  have iX16 : ∀ w ∈ wsX160, w ∈ wsX16_value := by decide +kernel
  have hl := lv_entry ([.ref a, .ref k]) (n := 4) (Nat.le_of_ble_eq_true rfl)
  rw [lg_entry_eq]
  generalize (lg_sl ([.ref a, .ref k]) ++ List.replicate (4 - (lg_sl ([.ref a, .ref k])).length) Slot.unset).toArray = ls at hl ⊢
  have hl : lv_has ls 4 [(0, .ref a), (1, .ref k)] := hl
  obtain ⟨hk0, ⟨gk, hki, hkv⟩, ⟨gw, hwa, hwv⟩, ⟨gn, hno, hnv⟩, ⟨gp, hpa, hpv⟩, hrow⟩ := id hK
  have l_k := hW.lt hk0
  have l_ki := hW.lt hki
  have l_wa := hW.lt hwa
  have l_no := hW.lt hno
  have l_pa := hW.lt hpa
  have l_h0 := hW.lt h0
  obtain ⟨gr, hr_i, hg0, hg1, hg2, hg3, hg4⟩ := hrow k9 hi
  refine lv_aload_n hx hb dX16_value_0 rfl (lv_at hl 0 rfl) ?_
  refine q_get hx hb hts hown hA hW iX16 h0 rfl 0 (by decide) (hts (.fieldLink RX16 7 "HighRecipesLaw$Node" "sort" "I") (by decide +kernel)) (fun _ h9 => h9) (v := .int 10) rfl dX16_value_1 ?_
  refine lv_bipush (v := 10) hx hb dX16_value_4 (by decide) ?_
  refine lv_icmp_le (tgt := 84) hx hb dX16_value_6 (by decide) (fun c_6 => ?_) (fun c_6 => absurd c_6 (by decide))
  refine lv_aload_n hx hb dX16_value_84 rfl (lv_at hl 0 rfl) ?_
  refine q_get hx hb hts hown hA hW iX16 h0 rfl 0 (by decide) (hts (.fieldLink RX16 7 "HighRecipesLaw$Node" "sort" "I") (by decide +kernel)) (fun _ h9 => h9) (v := .int 10) rfl dX16_value_85 ?_
  refine lv_tableIn (x := 10) (off := 90) (tgt := 178) hx hb dX16_value_88 (by decide) (by decide) (by decide) (by decide) ?_
  refine lv_aload_n hx hb dX16_value_178 rfl (lv_at hl 1 rfl) ?_
  refine lv_aload_n hx hb dX16_value_179 rfl (lv_at hl 0 rfl) ?_
  refine q_get hx hb hts hown hA hW iX16 h0 rfl 1 (by decide) (hts (.fieldLink RX16 13 "HighRecipesLaw$Node" "n" "I") (by decide +kernel)) (fun _ h9 => h9) (v := .int (nI k9)) rfl dX16_value_180 ?_
  refine q_ci (va_runV (As := [.int (nI k9)]) (rest := []) ⟨hx, hb, hml, hown, hts⟩ (kX15_room l E f n k pa re ki wa no pn pr hd v b w k9 (by assumption) (by assumption) (by assumption)) (cwV 1 hts gX16_value_X15_room rfl rfl rfl (by decide +kernel) ⟨(by show 0 + 1 ≤ x9 + 3; omega), (by show 8 + (2 + 11) + 0 ≤ y9 + 100; omega)⟩) (q_pV hA hW hS (ci := 15) rfl hk0) rfl rfl hl.1 rfl (lv_room (Nat.le_of_ble_eq_true rfl)) dX16_value_183 ⟨(Nat.le_of_ble_eq_true rfl), (Nat.le_of_ble_eq_true rfl)⟩) hS (fun r_183 f_183 n_183 H locs hp hW hS => ?_)
  obtain ⟨rfl, rfl, rfl⟩ := hp
  have hW : q_W E (f) n H := hW
  exact q_iret hx hb hr hlocks hW hS ⟨rfl, rfl, rfl⟩ (Nat.le_of_ble_eq_true rfl) (Nat.le_of_ble_eq_true rfl) dX16_value_186

theorem kX16_value_0 (l : Launch) (E : q_E) (f : q_H) (n : Nat) (k pa re ki wa no pn : Nat) (pr : Nat → Nat) (hd v : q_V) (b : Nat) (w : Int32) (a : Nat) (P : Nat → Prop) (D : q_D) (V : List Int32) (hN : NODE pn P f 0 a D V) (hpn : pn ≤ 8) (hK : LK E f k pa re ki wa no pn pr hd v b w) : Met l yX16_value wsX16_value ({ frames := 4, cells := 0, slots := 0, locals := 140 }) (q_P E [.ref a, .ref k] f n) (q_Qi E (fun r f1 n1 => D hd v = r ∧ f = f1 ∧ n = n1)) 0 0 (q_ge E) := by
  obtain ⟨-, s, k9, x, y, h0, hl⟩ := hN
  rcases hl with ⟨rfl, -, rfl, -⟩ | ⟨h1, h2, rfl, -⟩ | ⟨h1, h2, h3, rfl, -⟩
  · exact kX16_value_s0 l E f n 1 40 k pa re ki wa no pn pr hd v b w a k9 x y h0 hK
  · rcases (show s = 1 ∨ s = 2 ∨ s = 3 ∨ s = 4 ∨ s = 5 by omega) with rfl | rfl | rfl | rfl | rfl
    · exact kX16_value_s1 l E f n 1 40 k pa re ki wa no pn pr hd v b w a k9 x y h0 hK
    · exact kX16_value_s2 l E f n 1 40 k pa re ki wa no pn pr hd v b w a k9 x y h0 hK
    · exact kX16_value_s3 l E f n 1 40 k pa re ki wa no pn pr hd v b w a k9 x y h0 hK
    · exact kX16_value_s4 l E f n 1 40 k pa re ki wa no pn pr hd v b w a k9 x y h0 hK
    · exact kX16_value_s5 l E f n 1 40 k pa re ki wa no pn pr hd v b w a k9 x y h0 hK
  · rcases (show s = 6 ∨ s = 7 ∨ s = 8 ∨ s = 9 ∨ s = 10 by omega) with rfl | rfl | rfl | rfl | rfl
    · exact kX16_value_s6 l E f n 1 40 k pa re ki wa no pn pr hd v b w a k9 x y h0 hK h3 hpn
    · exact kX16_value_s7 l E f n 1 40 k pa re ki wa no pn pr hd v b w a k9 x y h0 hK h3 hpn
    · exact kX16_value_s8 l E f n 1 40 k pa re ki wa no pn pr hd v b w a k9 x y h0 hK h3 hpn
    · exact kX16_value_s9 l E f n 1 40 k pa re ki wa no pn pr hd v b w a k9 x y h0 hK h3 hpn
    · exact kX16_value_s10 l E f n 1 40 k pa re ki wa no pn pr hd v b w a k9 x y h0 hK h3 hpn

theorem kX16_value_01 (l : Launch) (E : q_E) (f : q_H) (n : Nat) (k pa re ki wa no pn : Nat) (pr : Nat → Nat) (hd v : q_V) (b : Nat) (w : Int32) (a : Nat) (P : Nat → Prop) (D : q_D) (V : List Int32) (hN : NODE pn P f 0 a D V) (hpn : pn ≤ 8) (hK : LK E f k pa re ki wa no pn pr hd v b w) : Met l yX16_value wsX16_value ({ frames := 6, cells := 0, slots := 0, locals := 240 }) (q_P E [.ref a, .ref k] f n) (q_Qi E (fun r f1 n1 => D hd v = r ∧ f = f1 ∧ n = n1)) 0 0 (q_ge E) := by
  obtain ⟨-, s, k9, x, y, h0, hl⟩ := hN
  rcases hl with ⟨rfl, -, rfl, -⟩ | ⟨h1, h2, rfl, -⟩ | ⟨h1, h2, h3, rfl, -⟩
  · exact kX16_value_s0 l E f n 3 140 k pa re ki wa no pn pr hd v b w a k9 x y h0 hK
  · rcases (show s = 1 ∨ s = 2 ∨ s = 3 ∨ s = 4 ∨ s = 5 by omega) with rfl | rfl | rfl | rfl | rfl
    · exact kX16_value_s1 l E f n 3 140 k pa re ki wa no pn pr hd v b w a k9 x y h0 hK
    · exact kX16_value_s2 l E f n 3 140 k pa re ki wa no pn pr hd v b w a k9 x y h0 hK
    · exact kX16_value_s3 l E f n 3 140 k pa re ki wa no pn pr hd v b w a k9 x y h0 hK
    · exact kX16_value_s4 l E f n 3 140 k pa re ki wa no pn pr hd v b w a k9 x y h0 hK
    · exact kX16_value_s5 l E f n 3 140 k pa re ki wa no pn pr hd v b w a k9 x y h0 hK
  · rcases (show s = 6 ∨ s = 7 ∨ s = 8 ∨ s = 9 ∨ s = 10 by omega) with rfl | rfl | rfl | rfl | rfl
    · exact kX16_value_s6 l E f n 3 140 k pa re ki wa no pn pr hd v b w a k9 x y h0 hK h3 hpn
    · exact kX16_value_s7 l E f n 3 140 k pa re ki wa no pn pr hd v b w a k9 x y h0 hK h3 hpn
    · exact kX16_value_s8 l E f n 3 140 k pa re ki wa no pn pr hd v b w a k9 x y h0 hK h3 hpn
    · exact kX16_value_s9 l E f n 3 140 k pa re ki wa no pn pr hd v b w a k9 x y h0 hK h3 hpn
    · exact kX16_value_s10 l E f n 3 140 k pa re ki wa no pn pr hd v b w a k9 x y h0 hK h3 hpn

set_option maxHeartbeats 4000000 in
set_option maxRecDepth 100000 in
theorem kX16_value_s11 (l : Launch) (E : q_E) (f : q_H) (n : Nat) (k pa re ki wa no pn : Nat) (pr : Nat → Nat) (hd v : q_V) (b : Nat) (w : Int32) (a k1 k2 : Nat) (P : Nat → Prop) (D1 D2 : q_D) (V1 V2 : List Int32) (h0 : f a = some (cNode 11 0 (some k1) (some k2))) (hn1 : NODE pn P f 0 k1 D1 V1) (hn2 : NODE pn P f 0 k2 D2 V2) (hpn : pn ≤ 8) (hK : LK E f k pa re ki wa no pn pr hd v b w) : Met l yX16_value wsX16_value ({ frames := 6, cells := 0, slots := 0, locals := 240 }) (q_P E [.ref a, .ref k] f n) (q_Qi E (fun r f1 n1 => D1 hd v + D2 hd v = r ∧ f = f1 ∧ n = n1)) 0 0 (q_ge E) := by
  refine Met.ofW (cc := cX16_value) (maxL := 4) (ret := (some .int)) (by decide) rfl ?_
  intro p0_ e0_ s0_ m0_ args0_ below0_ meth0_ c0_ s1_ B hml hv
  obtain ⟨rfl, hA, hW⟩ := hv
  have hx := B.exec
  have hb := B.bytes
  have hr := B.returns
  have hts := atoms_spec (ws := wsX16_value) B.pre
  have hown : s0_.vm.findClass RX16 = some m0_.cls := findClass_of_methodNamed B.named
  have hlocks := B.notSynchronized
  have hS : va_S (q_ge E) s0_.heap s0_.heap [] := va_S.rf
  have iX16 : ∀ w ∈ wsX160, w ∈ wsX16_value := by decide +kernel
  have hl := lv_entry ([.ref a, .ref k]) (n := 4) (Nat.le_of_ble_eq_true rfl)
  rw [lg_entry_eq]
  generalize (lg_sl ([.ref a, .ref k]) ++ List.replicate (4 - (lg_sl ([.ref a, .ref k])).length) Slot.unset).toArray = ls at hl ⊢
  have hl : lv_has ls 4 [(0, .ref a), (1, .ref k)] := hl
  obtain ⟨hk0, ⟨gk, hki, hkv⟩, ⟨gw, hwa, hwv⟩, ⟨gn, hno, hnv⟩, ⟨gp, hpa, hpv⟩, hrow⟩ := id hK
  have l_k := hW.lt hk0
  have l_ki := hW.lt hki
  have l_wa := hW.lt hwa
  have l_no := hW.lt hno
  have l_pa := hW.lt hpa
  obtain ⟨-, so1, kk1, x1, y1, hc1⟩ := hn1.cell
  obtain ⟨-, so2, kk2, x2, y2, hc2⟩ := hn2.cell
  refine lv_aload_n hx hb dX16_value_0 rfl (lv_at hl 0 rfl) ?_
  refine q_get hx hb hts hown hA hW iX16 h0 rfl 0 (by decide) (hts (.fieldLink RX16 7 "HighRecipesLaw$Node" "sort" "I") (by decide +kernel)) (fun _ h9 => h9) (v := .int 11) rfl dX16_value_1 ?_
  refine lv_bipush (v := 10) hx hb dX16_value_4 (by decide) ?_
  refine lv_icmp_le (tgt := 84) hx hb dX16_value_6 (by decide) (fun c_6 => absurd c_6 (by decide)) (fun c_6 => ?_)
  refine lv_aload_n hx hb dX16_value_9 rfl (lv_at hl 0 rfl) ?_
  refine q_get hx hb hts hown hA hW iX16 h0 rfl 2 (by decide) (hts (.fieldLink RX16 16 "HighRecipesLaw$Node" "a" "LHighRecipesLaw$Node;") (by decide +kernel)) (fun _ h9 => h9) (v := .ref k1) rfl dX16_value_10 ?_
  refine lv_aload_n hx hb dX16_value_13 rfl (lv_at hl 1 rfl) ?_
  refine q_ci (va_runV (As := [.ref k]) (rest := []) ⟨hx, hb, hml, hown, hts⟩ (kX16_value_0 l E f n k pa re ki wa no pn pr hd v b w k1 P D1 V1 hn1 hpn hK) (cwV 1 hts gX16_value_X16_value rfl rfl rfl (by decide +kernel) ⟨(Nat.le_of_ble_eq_true rfl), (Nat.le_of_ble_eq_true rfl)⟩) (q_pV hA hW hS (ci := 16) rfl hc1) rfl rfl hl.1 rfl (lv_room (Nat.le_of_ble_eq_true rfl)) dX16_value_14 ⟨(Nat.le_of_ble_eq_true rfl), (Nat.le_of_ble_eq_true rfl)⟩) hS (fun r_14 f_14 n_14 H locs hp hW hS => ?_)
  obtain ⟨rfl, rfl, rfl⟩ := hp
  have hW : q_W E (f) n H := hW
  refine lv_istore_n (lv' := [(2, .int (D1 hd v)), (0, .ref a), (1, .ref k)]) hx hb dX16_value_17 rfl hl (by decide) rfl (fun ls hl => ?_)
  refine lv_aload_n hx hb dX16_value_18 rfl (lv_at hl 1 rfl) ?_
  refine q_get hx hb hts hown hA hW iX16 h0 rfl 3 (by decide) (hts (.fieldLink RX16 20 "HighRecipesLaw$Node" "b" "LHighRecipesLaw$Node;") (by decide +kernel)) (fun _ h9 => h9) (v := .ref k2) rfl dX16_value_19 ?_
  refine lv_aload_n hx hb dX16_value_22 rfl (lv_at hl 2 rfl) ?_
  refine q_ci (va_runV (As := [.ref k]) (rest := []) ⟨hx, hb, hml, hown, hts⟩ (kX16_value_0 l E f n k pa re ki wa no pn pr hd v b w k2 P D2 V2 hn2 hpn hK) (cwV 1 hts gX16_value_X16_value rfl rfl rfl (by decide +kernel) ⟨(Nat.le_of_ble_eq_true rfl), (Nat.le_of_ble_eq_true rfl)⟩) (q_pV hA hW hS (ci := 16) rfl hc2) rfl rfl hl.1 rfl (lv_room (Nat.le_of_ble_eq_true rfl)) dX16_value_23 ⟨(Nat.le_of_ble_eq_true rfl), (Nat.le_of_ble_eq_true rfl)⟩) hS (fun r_23 f_23 n_23 H locs hp hW hS => ?_)
  obtain ⟨rfl, rfl, rfl⟩ := hp
  have hW : q_W E (f) n H := hW
  refine lv_istore_n (lv' := [(3, .int (D2 hd v)), (2, .int (D1 hd v)), (0, .ref a), (1, .ref k)]) hx hb dX16_value_26 rfl hl (by decide) rfl (fun ls hl => ?_)
  refine lv_aload_n hx hb dX16_value_27 rfl (lv_at hl 2 rfl) ?_
  refine q_get hx hb hts hown hA hW iX16 h0 rfl 0 (by decide) (hts (.fieldLink RX16 7 "HighRecipesLaw$Node" "sort" "I") (by decide +kernel)) (fun _ h9 => h9) (v := .int 11) rfl dX16_value_28 ?_
  refine lv_bipush (v := 11) hx hb dX16_value_31 (by decide) ?_
  refine lv_icmp_ne (tgt := 42) hx hb dX16_value_33 (by decide) (fun c_33 => absurd c_33 (by decide)) (fun c_33 => ?_)
  refine lv_iload_n hx hb dX16_value_36 rfl (lv_at hl 1 rfl) ?_
  refine lv_iload_n hx hb dX16_value_37 rfl (lv_at hl 0 rfl) ?_
  refine lv_iadd hx hb dX16_value_38 ?_
  refine lv_goto (tgt := 83) hx hb dX16_value_39 (by decide) ?_
  exact q_iret hx hb hr hlocks hW hS ⟨rfl, rfl, rfl⟩ (Nat.le_of_ble_eq_true rfl) (Nat.le_of_ble_eq_true rfl) dX16_value_83

set_option maxHeartbeats 4000000 in
set_option maxRecDepth 100000 in
theorem kX16_value_s12 (l : Launch) (E : q_E) (f : q_H) (n : Nat) (k pa re ki wa no pn : Nat) (pr : Nat → Nat) (hd v : q_V) (b : Nat) (w : Int32) (a k1 k2 : Nat) (P : Nat → Prop) (D1 D2 : q_D) (V1 V2 : List Int32) (h0 : f a = some (cNode 12 0 (some k1) (some k2))) (hn1 : NODE pn P f 0 k1 D1 V1) (hn2 : NODE pn P f 0 k2 D2 V2) (hpn : pn ≤ 8) (hK : LK E f k pa re ki wa no pn pr hd v b w) : Met l yX16_value wsX16_value ({ frames := 6, cells := 0, slots := 0, locals := 240 }) (q_P E [.ref a, .ref k] f n) (q_Qi E (fun r f1 n1 => D1 hd v - D2 hd v = r ∧ f = f1 ∧ n = n1)) 0 0 (q_ge E) := by
  refine Met.ofW (cc := cX16_value) (maxL := 4) (ret := (some .int)) (by decide) rfl ?_
  intro p0_ e0_ s0_ m0_ args0_ below0_ meth0_ c0_ s1_ B hml hv
  obtain ⟨rfl, hA, hW⟩ := hv
  have hx := B.exec
  have hb := B.bytes
  have hr := B.returns
  have hts := atoms_spec (ws := wsX16_value) B.pre
  have hown : s0_.vm.findClass RX16 = some m0_.cls := findClass_of_methodNamed B.named
  have hlocks := B.notSynchronized
  have hS : va_S (q_ge E) s0_.heap s0_.heap [] := va_S.rf
  have iX16 : ∀ w ∈ wsX160, w ∈ wsX16_value := by decide +kernel
  have hl := lv_entry ([.ref a, .ref k]) (n := 4) (Nat.le_of_ble_eq_true rfl)
  rw [lg_entry_eq]
  generalize (lg_sl ([.ref a, .ref k]) ++ List.replicate (4 - (lg_sl ([.ref a, .ref k])).length) Slot.unset).toArray = ls at hl ⊢
  have hl : lv_has ls 4 [(0, .ref a), (1, .ref k)] := hl
  obtain ⟨hk0, ⟨gk, hki, hkv⟩, ⟨gw, hwa, hwv⟩, ⟨gn, hno, hnv⟩, ⟨gp, hpa, hpv⟩, hrow⟩ := id hK
  have l_k := hW.lt hk0
  have l_ki := hW.lt hki
  have l_wa := hW.lt hwa
  have l_no := hW.lt hno
  have l_pa := hW.lt hpa
  obtain ⟨-, so1, kk1, x1, y1, hc1⟩ := hn1.cell
  obtain ⟨-, so2, kk2, x2, y2, hc2⟩ := hn2.cell
  refine lv_aload_n hx hb dX16_value_0 rfl (lv_at hl 0 rfl) ?_
  refine q_get hx hb hts hown hA hW iX16 h0 rfl 0 (by decide) (hts (.fieldLink RX16 7 "HighRecipesLaw$Node" "sort" "I") (by decide +kernel)) (fun _ h9 => h9) (v := .int 12) rfl dX16_value_1 ?_
  refine lv_bipush (v := 10) hx hb dX16_value_4 (by decide) ?_
  refine lv_icmp_le (tgt := 84) hx hb dX16_value_6 (by decide) (fun c_6 => absurd c_6 (by decide)) (fun c_6 => ?_)
  refine lv_aload_n hx hb dX16_value_9 rfl (lv_at hl 0 rfl) ?_
  refine q_get hx hb hts hown hA hW iX16 h0 rfl 2 (by decide) (hts (.fieldLink RX16 16 "HighRecipesLaw$Node" "a" "LHighRecipesLaw$Node;") (by decide +kernel)) (fun _ h9 => h9) (v := .ref k1) rfl dX16_value_10 ?_
  refine lv_aload_n hx hb dX16_value_13 rfl (lv_at hl 1 rfl) ?_
  refine q_ci (va_runV (As := [.ref k]) (rest := []) ⟨hx, hb, hml, hown, hts⟩ (kX16_value_0 l E f n k pa re ki wa no pn pr hd v b w k1 P D1 V1 hn1 hpn hK) (cwV 1 hts gX16_value_X16_value rfl rfl rfl (by decide +kernel) ⟨(Nat.le_of_ble_eq_true rfl), (Nat.le_of_ble_eq_true rfl)⟩) (q_pV hA hW hS (ci := 16) rfl hc1) rfl rfl hl.1 rfl (lv_room (Nat.le_of_ble_eq_true rfl)) dX16_value_14 ⟨(Nat.le_of_ble_eq_true rfl), (Nat.le_of_ble_eq_true rfl)⟩) hS (fun r_14 f_14 n_14 H locs hp hW hS => ?_)
  obtain ⟨rfl, rfl, rfl⟩ := hp
  have hW : q_W E (f) n H := hW
  refine lv_istore_n (lv' := [(2, .int (D1 hd v)), (0, .ref a), (1, .ref k)]) hx hb dX16_value_17 rfl hl (by decide) rfl (fun ls hl => ?_)
  refine lv_aload_n hx hb dX16_value_18 rfl (lv_at hl 1 rfl) ?_
  refine q_get hx hb hts hown hA hW iX16 h0 rfl 3 (by decide) (hts (.fieldLink RX16 20 "HighRecipesLaw$Node" "b" "LHighRecipesLaw$Node;") (by decide +kernel)) (fun _ h9 => h9) (v := .ref k2) rfl dX16_value_19 ?_
  refine lv_aload_n hx hb dX16_value_22 rfl (lv_at hl 2 rfl) ?_
  refine q_ci (va_runV (As := [.ref k]) (rest := []) ⟨hx, hb, hml, hown, hts⟩ (kX16_value_0 l E f n k pa re ki wa no pn pr hd v b w k2 P D2 V2 hn2 hpn hK) (cwV 1 hts gX16_value_X16_value rfl rfl rfl (by decide +kernel) ⟨(Nat.le_of_ble_eq_true rfl), (Nat.le_of_ble_eq_true rfl)⟩) (q_pV hA hW hS (ci := 16) rfl hc2) rfl rfl hl.1 rfl (lv_room (Nat.le_of_ble_eq_true rfl)) dX16_value_23 ⟨(Nat.le_of_ble_eq_true rfl), (Nat.le_of_ble_eq_true rfl)⟩) hS (fun r_23 f_23 n_23 H locs hp hW hS => ?_)
  obtain ⟨rfl, rfl, rfl⟩ := hp
  have hW : q_W E (f) n H := hW
  refine lv_istore_n (lv' := [(3, .int (D2 hd v)), (2, .int (D1 hd v)), (0, .ref a), (1, .ref k)]) hx hb dX16_value_26 rfl hl (by decide) rfl (fun ls hl => ?_)
  refine lv_aload_n hx hb dX16_value_27 rfl (lv_at hl 2 rfl) ?_
  refine q_get hx hb hts hown hA hW iX16 h0 rfl 0 (by decide) (hts (.fieldLink RX16 7 "HighRecipesLaw$Node" "sort" "I") (by decide +kernel)) (fun _ h9 => h9) (v := .int 12) rfl dX16_value_28 ?_
  refine lv_bipush (v := 11) hx hb dX16_value_31 (by decide) ?_
  refine lv_icmp_ne (tgt := 42) hx hb dX16_value_33 (by decide) (fun c_33 => ?_) (fun c_33 => absurd c_33 (by decide))
  refine lv_aload_n hx hb dX16_value_42 rfl (lv_at hl 2 rfl) ?_
  refine q_get hx hb hts hown hA hW iX16 h0 rfl 0 (by decide) (hts (.fieldLink RX16 7 "HighRecipesLaw$Node" "sort" "I") (by decide +kernel)) (fun _ h9 => h9) (v := .int 12) rfl dX16_value_43 ?_
  refine lv_bipush (v := 12) hx hb dX16_value_46 (by decide) ?_
  refine lv_icmp_ne (tgt := 57) hx hb dX16_value_48 (by decide) (fun c_48 => absurd c_48 (by decide)) (fun c_48 => ?_)
  refine lv_iload_n hx hb dX16_value_51 rfl (lv_at hl 1 rfl) ?_
  refine lv_iload_n hx hb dX16_value_52 rfl (lv_at hl 0 rfl) ?_
  refine lv_isub hx hb dX16_value_53 ?_
  refine lv_goto (tgt := 83) hx hb dX16_value_54 (by decide) ?_
  exact q_iret hx hb hr hlocks hW hS ⟨rfl, rfl, rfl⟩ (Nat.le_of_ble_eq_true rfl) (Nat.le_of_ble_eq_true rfl) dX16_value_83

set_option maxHeartbeats 4000000 in
set_option maxRecDepth 100000 in
theorem kX16_value_s13 (l : Launch) (E : q_E) (f : q_H) (n : Nat) (k pa re ki wa no pn : Nat) (pr : Nat → Nat) (hd v : q_V) (b : Nat) (w : Int32) (a k1 k2 : Nat) (P : Nat → Prop) (D1 D2 : q_D) (V1 V2 : List Int32) (h0 : f a = some (cNode 13 0 (some k1) (some k2))) (hn1 : NODE pn P f 0 k1 D1 V1) (hn2 : NODE pn P f 0 k2 D2 V2) (hpn : pn ≤ 8) (hK : LK E f k pa re ki wa no pn pr hd v b w) : Met l yX16_value wsX16_value ({ frames := 6, cells := 0, slots := 0, locals := 240 }) (q_P E [.ref a, .ref k] f n) (q_Qi E (fun r f1 n1 => D1 hd v * D2 hd v = r ∧ f = f1 ∧ n = n1)) 0 0 (q_ge E) := by
  refine Met.ofW (cc := cX16_value) (maxL := 4) (ret := (some .int)) (by decide) rfl ?_
  intro p0_ e0_ s0_ m0_ args0_ below0_ meth0_ c0_ s1_ B hml hv
  obtain ⟨rfl, hA, hW⟩ := hv
  have hx := B.exec
  have hb := B.bytes
  have hr := B.returns
  have hts := atoms_spec (ws := wsX16_value) B.pre
  have hown : s0_.vm.findClass RX16 = some m0_.cls := findClass_of_methodNamed B.named
  have hlocks := B.notSynchronized
  have hS : va_S (q_ge E) s0_.heap s0_.heap [] := va_S.rf
  have iX16 : ∀ w ∈ wsX160, w ∈ wsX16_value := by decide +kernel
  have hl := lv_entry ([.ref a, .ref k]) (n := 4) (Nat.le_of_ble_eq_true rfl)
  rw [lg_entry_eq]
  generalize (lg_sl ([.ref a, .ref k]) ++ List.replicate (4 - (lg_sl ([.ref a, .ref k])).length) Slot.unset).toArray = ls at hl ⊢
  have hl : lv_has ls 4 [(0, .ref a), (1, .ref k)] := hl
  obtain ⟨hk0, ⟨gk, hki, hkv⟩, ⟨gw, hwa, hwv⟩, ⟨gn, hno, hnv⟩, ⟨gp, hpa, hpv⟩, hrow⟩ := id hK
  have l_k := hW.lt hk0
  have l_ki := hW.lt hki
  have l_wa := hW.lt hwa
  have l_no := hW.lt hno
  have l_pa := hW.lt hpa
  obtain ⟨-, so1, kk1, x1, y1, hc1⟩ := hn1.cell
  obtain ⟨-, so2, kk2, x2, y2, hc2⟩ := hn2.cell
  refine lv_aload_n hx hb dX16_value_0 rfl (lv_at hl 0 rfl) ?_
  refine q_get hx hb hts hown hA hW iX16 h0 rfl 0 (by decide) (hts (.fieldLink RX16 7 "HighRecipesLaw$Node" "sort" "I") (by decide +kernel)) (fun _ h9 => h9) (v := .int 13) rfl dX16_value_1 ?_
  refine lv_bipush (v := 10) hx hb dX16_value_4 (by decide) ?_
  refine lv_icmp_le (tgt := 84) hx hb dX16_value_6 (by decide) (fun c_6 => absurd c_6 (by decide)) (fun c_6 => ?_)
  refine lv_aload_n hx hb dX16_value_9 rfl (lv_at hl 0 rfl) ?_
  refine q_get hx hb hts hown hA hW iX16 h0 rfl 2 (by decide) (hts (.fieldLink RX16 16 "HighRecipesLaw$Node" "a" "LHighRecipesLaw$Node;") (by decide +kernel)) (fun _ h9 => h9) (v := .ref k1) rfl dX16_value_10 ?_
  refine lv_aload_n hx hb dX16_value_13 rfl (lv_at hl 1 rfl) ?_
  refine q_ci (va_runV (As := [.ref k]) (rest := []) ⟨hx, hb, hml, hown, hts⟩ (kX16_value_0 l E f n k pa re ki wa no pn pr hd v b w k1 P D1 V1 hn1 hpn hK) (cwV 1 hts gX16_value_X16_value rfl rfl rfl (by decide +kernel) ⟨(Nat.le_of_ble_eq_true rfl), (Nat.le_of_ble_eq_true rfl)⟩) (q_pV hA hW hS (ci := 16) rfl hc1) rfl rfl hl.1 rfl (lv_room (Nat.le_of_ble_eq_true rfl)) dX16_value_14 ⟨(Nat.le_of_ble_eq_true rfl), (Nat.le_of_ble_eq_true rfl)⟩) hS (fun r_14 f_14 n_14 H locs hp hW hS => ?_)
  obtain ⟨rfl, rfl, rfl⟩ := hp
  have hW : q_W E (f) n H := hW
  refine lv_istore_n (lv' := [(2, .int (D1 hd v)), (0, .ref a), (1, .ref k)]) hx hb dX16_value_17 rfl hl (by decide) rfl (fun ls hl => ?_)
  refine lv_aload_n hx hb dX16_value_18 rfl (lv_at hl 1 rfl) ?_
  refine q_get hx hb hts hown hA hW iX16 h0 rfl 3 (by decide) (hts (.fieldLink RX16 20 "HighRecipesLaw$Node" "b" "LHighRecipesLaw$Node;") (by decide +kernel)) (fun _ h9 => h9) (v := .ref k2) rfl dX16_value_19 ?_
  refine lv_aload_n hx hb dX16_value_22 rfl (lv_at hl 2 rfl) ?_
  refine q_ci (va_runV (As := [.ref k]) (rest := []) ⟨hx, hb, hml, hown, hts⟩ (kX16_value_0 l E f n k pa re ki wa no pn pr hd v b w k2 P D2 V2 hn2 hpn hK) (cwV 1 hts gX16_value_X16_value rfl rfl rfl (by decide +kernel) ⟨(Nat.le_of_ble_eq_true rfl), (Nat.le_of_ble_eq_true rfl)⟩) (q_pV hA hW hS (ci := 16) rfl hc2) rfl rfl hl.1 rfl (lv_room (Nat.le_of_ble_eq_true rfl)) dX16_value_23 ⟨(Nat.le_of_ble_eq_true rfl), (Nat.le_of_ble_eq_true rfl)⟩) hS (fun r_23 f_23 n_23 H locs hp hW hS => ?_)
  obtain ⟨rfl, rfl, rfl⟩ := hp
  have hW : q_W E (f) n H := hW
  refine lv_istore_n (lv' := [(3, .int (D2 hd v)), (2, .int (D1 hd v)), (0, .ref a), (1, .ref k)]) hx hb dX16_value_26 rfl hl (by decide) rfl (fun ls hl => ?_)
  refine lv_aload_n hx hb dX16_value_27 rfl (lv_at hl 2 rfl) ?_
  refine q_get hx hb hts hown hA hW iX16 h0 rfl 0 (by decide) (hts (.fieldLink RX16 7 "HighRecipesLaw$Node" "sort" "I") (by decide +kernel)) (fun _ h9 => h9) (v := .int 13) rfl dX16_value_28 ?_
  refine lv_bipush (v := 11) hx hb dX16_value_31 (by decide) ?_
  refine lv_icmp_ne (tgt := 42) hx hb dX16_value_33 (by decide) (fun c_33 => ?_) (fun c_33 => absurd c_33 (by decide))
  refine lv_aload_n hx hb dX16_value_42 rfl (lv_at hl 2 rfl) ?_
  refine q_get hx hb hts hown hA hW iX16 h0 rfl 0 (by decide) (hts (.fieldLink RX16 7 "HighRecipesLaw$Node" "sort" "I") (by decide +kernel)) (fun _ h9 => h9) (v := .int 13) rfl dX16_value_43 ?_
  refine lv_bipush (v := 12) hx hb dX16_value_46 (by decide) ?_
  refine lv_icmp_ne (tgt := 57) hx hb dX16_value_48 (by decide) (fun c_48 => ?_) (fun c_48 => absurd c_48 (by decide))
  refine lv_aload_n hx hb dX16_value_57 rfl (lv_at hl 2 rfl) ?_
  refine q_get hx hb hts hown hA hW iX16 h0 rfl 0 (by decide) (hts (.fieldLink RX16 7 "HighRecipesLaw$Node" "sort" "I") (by decide +kernel)) (fun _ h9 => h9) (v := .int 13) rfl dX16_value_58 ?_
  refine lv_bipush (v := 13) hx hb dX16_value_61 (by decide) ?_
  refine lv_icmp_ne (tgt := 72) hx hb dX16_value_63 (by decide) (fun c_63 => absurd c_63 (by decide)) (fun c_63 => ?_)
  refine lv_iload_n hx hb dX16_value_66 rfl (lv_at hl 1 rfl) ?_
  refine lv_iload_n hx hb dX16_value_67 rfl (lv_at hl 0 rfl) ?_
  refine lv_imul hx hb dX16_value_68 ?_
  refine lv_goto (tgt := 83) hx hb dX16_value_69 (by decide) ?_
  exact q_iret hx hb hr hlocks hW hS ⟨rfl, rfl, rfl⟩ (Nat.le_of_ble_eq_true rfl) (Nat.le_of_ble_eq_true rfl) dX16_value_83

set_option maxHeartbeats 4000000 in
set_option maxRecDepth 100000 in
theorem kX16_value_s14 (l : Launch) (E : q_E) (f : q_H) (n : Nat) (k pa re ki wa no pn : Nat) (pr : Nat → Nat) (hd v : q_V) (b : Nat) (w : Int32) (a k1 k2 : Nat) (P : Nat → Prop) (D1 D2 : q_D) (V1 V2 : List Int32) (h0 : f a = some (cNode 14 0 (some k1) (some k2))) (hn1 : NODE pn P f 0 k1 D1 V1) (hn2 : NODE pn P f 0 k2 D2 V2) (hpn : pn ≤ 8) (hK : LK E f k pa re ki wa no pn pr hd v b w) : Met l yX16_value wsX16_value ({ frames := 6, cells := 0, slots := 0, locals := 240 }) (q_P E [.ref a, .ref k] f n) (q_Qi E (fun r f1 n1 => q_quot (D1 hd v) (D2 hd v) = r ∧ f = f1 ∧ n = n1)) 0 0 (q_ge E) := by
  refine Met.ofW (cc := cX16_value) (maxL := 4) (ret := (some .int)) (by decide) rfl ?_
  intro p0_ e0_ s0_ m0_ args0_ below0_ meth0_ c0_ s1_ B hml hv
  obtain ⟨rfl, hA, hW⟩ := hv
  have hx := B.exec
  have hb := B.bytes
  have hr := B.returns
  have hts := atoms_spec (ws := wsX16_value) B.pre
  have hown : s0_.vm.findClass RX16 = some m0_.cls := findClass_of_methodNamed B.named
  have hlocks := B.notSynchronized
  have hS : va_S (q_ge E) s0_.heap s0_.heap [] := va_S.rf
  have iX16 : ∀ w ∈ wsX160, w ∈ wsX16_value := by decide +kernel
  have hl := lv_entry ([.ref a, .ref k]) (n := 4) (Nat.le_of_ble_eq_true rfl)
  rw [lg_entry_eq]
  generalize (lg_sl ([.ref a, .ref k]) ++ List.replicate (4 - (lg_sl ([.ref a, .ref k])).length) Slot.unset).toArray = ls at hl ⊢
  have hl : lv_has ls 4 [(0, .ref a), (1, .ref k)] := hl
  obtain ⟨hk0, ⟨gk, hki, hkv⟩, ⟨gw, hwa, hwv⟩, ⟨gn, hno, hnv⟩, ⟨gp, hpa, hpv⟩, hrow⟩ := id hK
  have l_k := hW.lt hk0
  have l_ki := hW.lt hki
  have l_wa := hW.lt hwa
  have l_no := hW.lt hno
  have l_pa := hW.lt hpa
  obtain ⟨-, so1, kk1, x1, y1, hc1⟩ := hn1.cell
  obtain ⟨-, so2, kk2, x2, y2, hc2⟩ := hn2.cell
  refine lv_aload_n hx hb dX16_value_0 rfl (lv_at hl 0 rfl) ?_
  refine q_get hx hb hts hown hA hW iX16 h0 rfl 0 (by decide) (hts (.fieldLink RX16 7 "HighRecipesLaw$Node" "sort" "I") (by decide +kernel)) (fun _ h9 => h9) (v := .int 14) rfl dX16_value_1 ?_
  refine lv_bipush (v := 10) hx hb dX16_value_4 (by decide) ?_
  refine lv_icmp_le (tgt := 84) hx hb dX16_value_6 (by decide) (fun c_6 => absurd c_6 (by decide)) (fun c_6 => ?_)
  refine lv_aload_n hx hb dX16_value_9 rfl (lv_at hl 0 rfl) ?_
  refine q_get hx hb hts hown hA hW iX16 h0 rfl 2 (by decide) (hts (.fieldLink RX16 16 "HighRecipesLaw$Node" "a" "LHighRecipesLaw$Node;") (by decide +kernel)) (fun _ h9 => h9) (v := .ref k1) rfl dX16_value_10 ?_
  refine lv_aload_n hx hb dX16_value_13 rfl (lv_at hl 1 rfl) ?_
  refine q_ci (va_runV (As := [.ref k]) (rest := []) ⟨hx, hb, hml, hown, hts⟩ (kX16_value_0 l E f n k pa re ki wa no pn pr hd v b w k1 P D1 V1 hn1 hpn hK) (cwV 1 hts gX16_value_X16_value rfl rfl rfl (by decide +kernel) ⟨(Nat.le_of_ble_eq_true rfl), (Nat.le_of_ble_eq_true rfl)⟩) (q_pV hA hW hS (ci := 16) rfl hc1) rfl rfl hl.1 rfl (lv_room (Nat.le_of_ble_eq_true rfl)) dX16_value_14 ⟨(Nat.le_of_ble_eq_true rfl), (Nat.le_of_ble_eq_true rfl)⟩) hS (fun r_14 f_14 n_14 H locs hp hW hS => ?_)
  obtain ⟨rfl, rfl, rfl⟩ := hp
  have hW : q_W E (f) n H := hW
  refine lv_istore_n (lv' := [(2, .int (D1 hd v)), (0, .ref a), (1, .ref k)]) hx hb dX16_value_17 rfl hl (by decide) rfl (fun ls hl => ?_)
  refine lv_aload_n hx hb dX16_value_18 rfl (lv_at hl 1 rfl) ?_
  refine q_get hx hb hts hown hA hW iX16 h0 rfl 3 (by decide) (hts (.fieldLink RX16 20 "HighRecipesLaw$Node" "b" "LHighRecipesLaw$Node;") (by decide +kernel)) (fun _ h9 => h9) (v := .ref k2) rfl dX16_value_19 ?_
  refine lv_aload_n hx hb dX16_value_22 rfl (lv_at hl 2 rfl) ?_
  refine q_ci (va_runV (As := [.ref k]) (rest := []) ⟨hx, hb, hml, hown, hts⟩ (kX16_value_0 l E f n k pa re ki wa no pn pr hd v b w k2 P D2 V2 hn2 hpn hK) (cwV 1 hts gX16_value_X16_value rfl rfl rfl (by decide +kernel) ⟨(Nat.le_of_ble_eq_true rfl), (Nat.le_of_ble_eq_true rfl)⟩) (q_pV hA hW hS (ci := 16) rfl hc2) rfl rfl hl.1 rfl (lv_room (Nat.le_of_ble_eq_true rfl)) dX16_value_23 ⟨(Nat.le_of_ble_eq_true rfl), (Nat.le_of_ble_eq_true rfl)⟩) hS (fun r_23 f_23 n_23 H locs hp hW hS => ?_)
  obtain ⟨rfl, rfl, rfl⟩ := hp
  have hW : q_W E (f) n H := hW
  refine lv_istore_n (lv' := [(3, .int (D2 hd v)), (2, .int (D1 hd v)), (0, .ref a), (1, .ref k)]) hx hb dX16_value_26 rfl hl (by decide) rfl (fun ls hl => ?_)
  refine lv_aload_n hx hb dX16_value_27 rfl (lv_at hl 2 rfl) ?_
  refine q_get hx hb hts hown hA hW iX16 h0 rfl 0 (by decide) (hts (.fieldLink RX16 7 "HighRecipesLaw$Node" "sort" "I") (by decide +kernel)) (fun _ h9 => h9) (v := .int 14) rfl dX16_value_28 ?_
  refine lv_bipush (v := 11) hx hb dX16_value_31 (by decide) ?_
  refine lv_icmp_ne (tgt := 42) hx hb dX16_value_33 (by decide) (fun c_33 => ?_) (fun c_33 => absurd c_33 (by decide))
  refine lv_aload_n hx hb dX16_value_42 rfl (lv_at hl 2 rfl) ?_
  refine q_get hx hb hts hown hA hW iX16 h0 rfl 0 (by decide) (hts (.fieldLink RX16 7 "HighRecipesLaw$Node" "sort" "I") (by decide +kernel)) (fun _ h9 => h9) (v := .int 14) rfl dX16_value_43 ?_
  refine lv_bipush (v := 12) hx hb dX16_value_46 (by decide) ?_
  refine lv_icmp_ne (tgt := 57) hx hb dX16_value_48 (by decide) (fun c_48 => ?_) (fun c_48 => absurd c_48 (by decide))
  refine lv_aload_n hx hb dX16_value_57 rfl (lv_at hl 2 rfl) ?_
  refine q_get hx hb hts hown hA hW iX16 h0 rfl 0 (by decide) (hts (.fieldLink RX16 7 "HighRecipesLaw$Node" "sort" "I") (by decide +kernel)) (fun _ h9 => h9) (v := .int 14) rfl dX16_value_58 ?_
  refine lv_bipush (v := 13) hx hb dX16_value_61 (by decide) ?_
  refine lv_icmp_ne (tgt := 72) hx hb dX16_value_63 (by decide) (fun c_63 => ?_) (fun c_63 => absurd c_63 (by decide))
  refine lv_iload_n hx hb dX16_value_72 rfl (lv_at hl 0 rfl) ?_
  refine lv_if_ne (tgt := 80) hx hb dX16_value_73 (by decide) (fun c_73 => ?_) (fun c_73 => ?_)
  · refine lv_iload_n hx hb dX16_value_80 rfl (lv_at hl 1 rfl) ?_
    refine lv_iload_n hx hb dX16_value_81 rfl (lv_at hl 0 rfl) ?_
    refine lv_idiv hx hb dX16_value_82 c_73 ?_
    exact q_iret hx hb hr hlocks hW hS ⟨(if_neg c_73), rfl, rfl⟩ (Nat.le_of_ble_eq_true rfl) (Nat.le_of_ble_eq_true rfl) dX16_value_83
  · refine lv_iconst (v := 0) hx hb dX16_value_76 (by decide) ?_
    refine lv_goto (tgt := 83) hx hb dX16_value_77 (by decide) ?_
    exact q_iret hx hb hr hlocks hW hS ⟨(if_pos c_73), rfl, rfl⟩ (Nat.le_of_ble_eq_true rfl) (Nat.le_of_ble_eq_true rfl) dX16_value_83

theorem kX16_value_1 (l : Launch) (E : q_E) (f : q_H) (n : Nat) (k pa re ki wa no pn : Nat) (pr : Nat → Nat) (hd v : q_V) (b : Nat) (w : Int32) (a : Nat) (P : Nat → Prop) (D : q_D) (V : List Int32) (hN : NODE pn P f 1 a D V) (hpn : pn ≤ 8) (hK : LK E f k pa re ki wa no pn pr hd v b w) : Met l yX16_value wsX16_value ({ frames := 6, cells := 0, slots := 0, locals := 240 }) (q_P E [.ref a, .ref k] f n) (q_Qi E (fun r f1 n1 => D hd v = r ∧ f = f1 ∧ n = n1)) 0 0 (q_ge E) := by
  rcases hN with hN | ⟨hp, s, x, y, D1, D2, V1, V2, e1, e2, h0, n1, n2, rfl, -⟩
  · exact kX16_value_01 l E f n k pa re ki wa no pn pr hd v b w a P D V hN hpn hK
  · rcases (show s = 11 ∨ s = 12 ∨ s = 13 ∨ s = 14 by omega) with rfl | rfl | rfl | rfl
    · exact kX16_value_s11 l E f n k pa re ki wa no pn pr hd v b w a x y P D1 D2 V1 V2 h0 n1 n2 hpn hK
    · exact kX16_value_s12 l E f n k pa re ki wa no pn pr hd v b w a x y P D1 D2 V1 V2 h0 n1 n2 hpn hK
    · exact kX16_value_s13 l E f n k pa re ki wa no pn pr hd v b w a x y P D1 D2 V1 V2 h0 n1 n2 hpn hK
    · exact kX16_value_s14 l E f n k pa re ki wa no pn pr hd v b w a x y P D1 D2 V1 V2 h0 n1 n2 hpn hK

theorem bt_lt {x y : Int32} : (if decide (x < y) = true then (1 : Int32) else 0) = if x < y then 1 else 0 := by
  by_cases h : x < y
  · rw [if_pos h, decide_eq_true h]; rfl
  · rw [if_neg h, decide_eq_false h]; rfl
def w01 (c : Bool) : Int32 := if c = true then 1 else 0
theorem w01_t {c : Bool} (h : c = true) : (1 : Int32) = w01 c := by rw [h]; rfl
theorem w01_f {c : Bool} (h : c = false) : (0 : Int32) = w01 c := by rw [h]; rfl
theorem w01_and {a c : Bool} : w01 a &&& w01 c = w01 (c && a) := by cases a <;> cases c <;> decide
theorem w01_and2 {x y : Int32} {a c : Bool} (h1 : x = w01 a) (h2 : y = w01 c) : x &&& y = w01 (c && a) := by rw [h1, h2]; exact w01_and
theorem cC_app : ∀ (L : List CT) (x : CT) (hd v : q_V), cC (x :: L) hd v = (c_cmp (30 + x.1) (x.2.1.2.1 hd v) (x.2.2.2.1 hd v) && cC L hd v) := fun _ _ _ _ => rfl

set_option maxHeartbeats 4000000 in
set_option maxRecDepth 100000 in
theorem kX13_isSo_0 (l : Launch) (E : q_E) (f : q_H) (n : Nat) (k pa re ki wa no pn : Nat) (pr : Nat → Nat) (hd v : q_V) (b : Nat) (w : Int32) (a sg on ot : Nat) (a0 c0 : Nat) (D0 E0 : q_D) (W0 Y0 : List Int32) (do_ wh : Int32) (va bl el : Option Nat) (P : Nat → Prop) (gs : Nat → Int32) (go gt : Nat → Option Nat) (h0 : f a = some (cLA do_ wh va (some sg) (some on) (some ot) bl el)) (h1 : f sg = some (aI E 1 gs)) (h2 : f on = some (aQ E 7 1 go)) (h3 : f ot = some (aQ E 7 1 gt)) (hgs0 : gs 0 = 0) (hgo0 : go 0 = some a0) (hgt0 : gt 0 = some c0) (hM0 : NODE pn P f 0 a0 D0 W0) (hQ0 : NODE pn P f 0 c0 E0 Y0) (hpn : pn ≤ 8) (hK : LK E f k pa re ki wa no pn pr hd v b w) : Met l yX13_isSo wsX13_isSo ({ frames := 6, cells := 0, slots := 0, locals := 300 }) (q_P E [.ref a, .ref k] f n) (q_Qi E (fun r f1 n1 => w01 (c_cmp 30 (D0 hd v) (E0 hd v) && true) = r ∧ f = f1 ∧ n = n1)) 0 0 (q_ge E) := by
  refine Met.ofW (cc := cX13_isSo) (maxL := 6) (ret := (some .boolean)) (by decide) rfl ?_
  intro p0_ e0_ s0_ m0_ args0_ below0_ meth0_ c0_ s1_ B hml hv
  obtain ⟨rfl, hA, hW⟩ := hv
  have hx := B.exec
  have hb := B.bytes
  have hr := B.returns
  have hts := atoms_spec (ws := wsX13_isSo) B.pre
  have hown : s0_.vm.findClass RX13 = some m0_.cls := findClass_of_methodNamed B.named
  have hlocks := B.notSynchronized
  have hS : va_S (q_ge E) s0_.heap s0_.heap [] := va_S.rf
  have iX13 : ∀ w ∈ wsX130, w ∈ wsX13_isSo := by decide +kernel
  have hl := lv_entry ([.ref a, .ref k]) (n := 6) (Nat.le_of_ble_eq_true rfl)
  rw [lg_entry_eq]
  generalize (lg_sl ([.ref a, .ref k]) ++ List.replicate (6 - (lg_sl ([.ref a, .ref k])).length) Slot.unset).toArray = ls at hl ⊢
  have hl : lv_has ls 6 [(0, .ref a), (1, .ref k)] := hl
  obtain ⟨hk0, ⟨gk, hki, hkv⟩, ⟨gw, hwa, hwv⟩, ⟨gn, hno, hnv⟩, ⟨gp, hpa, hpv⟩, hrow⟩ := id hK
  have l_k := hW.lt hk0
  have l_ki := hW.lt hki
  have l_wa := hW.lt hwa
  have l_no := hW.lt hno
  have l_pa := hW.lt hpa
  obtain ⟨-, so0, ka0, xa0, ya0, hca0⟩ := hM0.cell
  obtain ⟨-, sp0, kc0, xc0, yc0, hcc0⟩ := hQ0.cell
  refine lv_iconst (v := 1) hx hb dX13_isSo_0 (by decide) ?_
  refine lv_istore_n (lv' := [(2, .int 1), (0, .ref a), (1, .ref k)]) hx hb dX13_isSo_1 rfl hl (by decide) rfl (fun ls hl => ?_)
  refine lv_iconst (v := 0) hx hb dX13_isSo_2 (by decide) ?_
  refine lv_istore_n (lv' := [(3, .int 0), (2, .int 1), (0, .ref a), (1, .ref k)]) hx hb dX13_isSo_3 rfl hl (by decide) rfl (fun ls hl => ?_)
  refine lv_iload_n hx hb dX13_isSo_4 rfl (lv_at hl 0 rfl) ?_
  refine lv_aload_n hx hb dX13_isSo_5 rfl (lv_at hl 2 rfl) ?_
  refine q_get hx hb hts hown hA hW iX13 h0 rfl 3 (by decide) (hts (.fieldLink RX13 7 "HighRecipesLaw$Act" "signs" "[I") (by decide +kernel)) (fun _ h9 => h9) (v := .ref sg) rfl dX13_isSo_6 ?_
  refine q_alen hx hb hA hW 0 rfl h1 (v := 1) rfl dX13_isSo_9 ?_
  refine lv_icmp_ge (tgt := 107) hx hb dX13_isSo_10 (by decide) (fun c_10 => absurd c_10 (by decide)) (fun c_10 => ?_)
  refine lv_aload_n hx hb dX13_isSo_13 rfl (lv_at hl 2 rfl) ?_
  refine q_get hx hb hts hown hA hW iX13 h0 rfl 4 (by decide) (hts (.fieldLink RX13 15 "HighRecipesLaw$Act" "ones" "[LHighRecipesLaw$Node;") (by decide +kernel)) (fun _ h9 => h9) (v := .ref on) rfl dX13_isSo_14 ?_
  refine lv_iload_n hx hb dX13_isSo_17 rfl (lv_at hl 0 rfl) ?_
  refine q_aald hx hb hA hW 7 rfl h2 (vp_in_nI (n := 0) (by decide) (by decide)) dX13_isSo_18 ?_
  rw [show go (0 : Int32).toNatClampNeg = some a0 from hgo0]
  refine lv_aload_n hx hb dX13_isSo_19 rfl (lv_at hl 3 rfl) ?_
  refine q_ci (va_runV (As := [.ref k]) (rest := []) ⟨hx, hb, hml, hown, hts⟩ (kX16_value_0 l E f n k pa re ki wa no pn pr hd v b w a0 P D0 W0 hM0 hpn hK) (cwV 1 hts gX13_isSo_X16_value rfl rfl rfl (by decide +kernel) ⟨(Nat.le_of_ble_eq_true rfl), (Nat.le_of_ble_eq_true rfl)⟩) (q_pV hA hW hS (ci := 16) rfl hca0) rfl rfl hl.1 rfl (lv_room (Nat.le_of_ble_eq_true rfl)) dX13_isSo_20 ⟨(Nat.le_of_ble_eq_true rfl), (Nat.le_of_ble_eq_true rfl)⟩) hS (fun r_20 f_20 n_20 H locs hp hW hS => ?_)
  obtain ⟨rfl, rfl, rfl⟩ := hp
  have hW : q_W E (f) n H := hW
  refine lv_istore (lv' := [(4, .int (D0 hd v)), (3, .int 0), (2, .int 1), (0, .ref a), (1, .ref k)]) hx hb dX13_isSo_23 hl (by decide) rfl (fun ls hl => ?_)
  refine lv_aload_n hx hb dX13_isSo_25 rfl (lv_at hl 3 rfl) ?_
  refine q_get hx hb hts hown hA hW iX13 h0 rfl 5 (by decide) (hts (.fieldLink RX13 19 "HighRecipesLaw$Act" "others" "[LHighRecipesLaw$Node;") (by decide +kernel)) (fun _ h9 => h9) (v := .ref ot) rfl dX13_isSo_26 ?_
  refine lv_iload_n hx hb dX13_isSo_29 rfl (lv_at hl 1 rfl) ?_
  refine q_aald hx hb hA hW 7 rfl h3 (vp_in_nI (n := 0) (by decide) (by decide)) dX13_isSo_30 ?_
  rw [show gt (0 : Int32).toNatClampNeg = some c0 from hgt0]
  refine lv_aload_n hx hb dX13_isSo_31 rfl (lv_at hl 4 rfl) ?_
  refine q_ci (va_runV (As := [.ref k]) (rest := []) ⟨hx, hb, hml, hown, hts⟩ (kX16_value_0 l E f n k pa re ki wa no pn pr hd v b w c0 P E0 Y0 hQ0 hpn hK) (cwV 1 hts gX13_isSo_X16_value rfl rfl rfl (by decide +kernel) ⟨(Nat.le_of_ble_eq_true rfl), (Nat.le_of_ble_eq_true rfl)⟩) (q_pV hA hW hS (ci := 16) rfl hcc0) rfl rfl hl.1 rfl (lv_room (Nat.le_of_ble_eq_true rfl)) dX13_isSo_32 ⟨(Nat.le_of_ble_eq_true rfl), (Nat.le_of_ble_eq_true rfl)⟩) hS (fun r_32 f_32 n_32 H locs hp hW hS => ?_)
  obtain ⟨rfl, rfl, rfl⟩ := hp
  have hW : q_W E (f) n H := hW
  refine lv_istore (lv' := [(5, .int (E0 hd v)), (4, .int (D0 hd v)), (3, .int 0), (2, .int 1), (0, .ref a), (1, .ref k)]) hx hb dX13_isSo_35 hl (by decide) rfl (fun ls hl => ?_)
  refine lv_iload_n hx hb dX13_isSo_37 rfl (lv_at hl 3 rfl) ?_
  refine lv_aload_n hx hb dX13_isSo_38 rfl (lv_at hl 4 rfl) ?_
  refine q_get hx hb hts hown hA hW iX13 h0 rfl 3 (by decide) (hts (.fieldLink RX13 7 "HighRecipesLaw$Act" "signs" "[I") (by decide +kernel)) (fun _ h9 => h9) (v := .ref sg) rfl dX13_isSo_39 ?_
  refine lv_iload_n hx hb dX13_isSo_42 rfl (lv_at hl 2 rfl) ?_
  refine q_iald hx hb hA hW h1 (vp_in_nI (n := 0) (by decide) (by decide)) dX13_isSo_43 ?_
  rw [show gs (0 : Int32).toNatClampNeg = 0 from hgs0]
  refine lv_if_ne (tgt := 62) hx hb dX13_isSo_44 (by decide) (fun c_44 => absurd c_44 (by decide)) (fun c_44 => ?_)
  refine lv_iload hx hb dX13_isSo_47 (lv_at hl 1 rfl) ?_
  refine lv_iload hx hb dX13_isSo_49 (lv_at hl 0 rfl) ?_
  refine lv_icmp_ge (tgt := 58) hx hb dX13_isSo_51 (by decide) (fun c_51 => ?_) (fun c_51 => ?_)
  · refine lv_iconst (v := 0) hx hb dX13_isSo_58 (by decide) ?_
    refine lv_goto (tgt := 99) hx hb dX13_isSo_59 (by decide) ?_
    refine lv_iand hx hb dX13_isSo_99 ?_
    rw [show (1 : Int32) &&& 0 = w01 (c_cmp 30 (D0 hd v) (E0 hd v) && true) from w01_and2 rfl (w01_f (by show decide ((D0 hd v) < (E0 hd v)) = _; exact (decide_eq_false (Int32.not_lt.mpr c_51))))]
    refine lv_istore_n (lv' := [(2, .int (w01 (c_cmp 30 (D0 hd v) (E0 hd v) && true))), (5, .int (E0 hd v)), (4, .int (D0 hd v)), (3, .int 0), (0, .ref a), (1, .ref k)]) hx hb dX13_isSo_100 rfl hl (by decide) rfl (fun ls hl => ?_)
    refine lv_iinc (v := 1) (lv' := [(3, .int 1), (2, .int (w01 (c_cmp 30 (D0 hd v) (E0 hd v) && true))), (5, .int (E0 hd v)), (4, .int (D0 hd v)), (0, .ref a), (1, .ref k)]) hx hb dX13_isSo_101 hl (k := 3) rfl (by decide) (by decide) rfl (fun ls hl => ?_)
    refine lv_goto (tgt := 4) hx hb dX13_isSo_104 (by decide) ?_
    refine lv_iload_n hx hb dX13_isSo_4 rfl (lv_at hl 0 rfl) ?_
    refine lv_aload_n hx hb dX13_isSo_5 rfl (lv_at hl 4 rfl) ?_
    refine q_get hx hb hts hown hA hW iX13 h0 rfl 3 (by decide) (hts (.fieldLink RX13 7 "HighRecipesLaw$Act" "signs" "[I") (by decide +kernel)) (fun _ h9 => h9) (v := .ref sg) rfl dX13_isSo_6 ?_
    refine q_alen hx hb hA hW 0 rfl h1 (v := 1) rfl dX13_isSo_9 ?_
    refine lv_icmp_ge (tgt := 107) hx hb dX13_isSo_10 (by decide) (fun c_10 => ?_) (fun c_10 => absurd c_10 (by decide))
    refine lv_iload_n hx hb dX13_isSo_107 rfl (lv_at hl 1 rfl) ?_
    exact q_zret hx hb hr hlocks hW hS (by unfold w01; split <;> rfl) ⟨rfl, rfl, rfl⟩ (Nat.le_of_ble_eq_true rfl) (Nat.le_of_ble_eq_true rfl) dX13_isSo_108
  · refine lv_iconst (v := 1) hx hb dX13_isSo_54 (by decide) ?_
    refine lv_goto (tgt := 99) hx hb dX13_isSo_55 (by decide) ?_
    refine lv_iand hx hb dX13_isSo_99 ?_
    rw [show (1 : Int32) &&& 1 = w01 (c_cmp 30 (D0 hd v) (E0 hd v) && true) from w01_and2 rfl (w01_t (by show decide ((D0 hd v) < (E0 hd v)) = _; exact (decide_eq_true (Int32.not_le.mp c_51))))]
    refine lv_istore_n (lv' := [(2, .int (w01 (c_cmp 30 (D0 hd v) (E0 hd v) && true))), (5, .int (E0 hd v)), (4, .int (D0 hd v)), (3, .int 0), (0, .ref a), (1, .ref k)]) hx hb dX13_isSo_100 rfl hl (by decide) rfl (fun ls hl => ?_)
    refine lv_iinc (v := 1) (lv' := [(3, .int 1), (2, .int (w01 (c_cmp 30 (D0 hd v) (E0 hd v) && true))), (5, .int (E0 hd v)), (4, .int (D0 hd v)), (0, .ref a), (1, .ref k)]) hx hb dX13_isSo_101 hl (k := 3) rfl (by decide) (by decide) rfl (fun ls hl => ?_)
    refine lv_goto (tgt := 4) hx hb dX13_isSo_104 (by decide) ?_
    refine lv_iload_n hx hb dX13_isSo_4 rfl (lv_at hl 0 rfl) ?_
    refine lv_aload_n hx hb dX13_isSo_5 rfl (lv_at hl 4 rfl) ?_
    refine q_get hx hb hts hown hA hW iX13 h0 rfl 3 (by decide) (hts (.fieldLink RX13 7 "HighRecipesLaw$Act" "signs" "[I") (by decide +kernel)) (fun _ h9 => h9) (v := .ref sg) rfl dX13_isSo_6 ?_
    refine q_alen hx hb hA hW 0 rfl h1 (v := 1) rfl dX13_isSo_9 ?_
    refine lv_icmp_ge (tgt := 107) hx hb dX13_isSo_10 (by decide) (fun c_10 => ?_) (fun c_10 => absurd c_10 (by decide))
    refine lv_iload_n hx hb dX13_isSo_107 rfl (lv_at hl 1 rfl) ?_
    exact q_zret hx hb hr hlocks hW hS (by unfold w01; split <;> rfl) ⟨rfl, rfl, rfl⟩ (Nat.le_of_ble_eq_true rfl) (Nat.le_of_ble_eq_true rfl) dX13_isSo_108

set_option maxHeartbeats 4000000 in
set_option maxRecDepth 100000 in
theorem kX13_isSo_1 (l : Launch) (E : q_E) (f : q_H) (n : Nat) (k pa re ki wa no pn : Nat) (pr : Nat → Nat) (hd v : q_V) (b : Nat) (w : Int32) (a sg on ot : Nat) (a0 c0 : Nat) (D0 E0 : q_D) (W0 Y0 : List Int32) (do_ wh : Int32) (va bl el : Option Nat) (P : Nat → Prop) (gs : Nat → Int32) (go gt : Nat → Option Nat) (h0 : f a = some (cLA do_ wh va (some sg) (some on) (some ot) bl el)) (h1 : f sg = some (aI E 1 gs)) (h2 : f on = some (aQ E 7 1 go)) (h3 : f ot = some (aQ E 7 1 gt)) (hgs0 : gs 0 = 1) (hgo0 : go 0 = some a0) (hgt0 : gt 0 = some c0) (hM0 : NODE pn P f 0 a0 D0 W0) (hQ0 : NODE pn P f 0 c0 E0 Y0) (hpn : pn ≤ 8) (hK : LK E f k pa re ki wa no pn pr hd v b w) : Met l yX13_isSo wsX13_isSo ({ frames := 6, cells := 0, slots := 0, locals := 300 }) (q_P E [.ref a, .ref k] f n) (q_Qi E (fun r f1 n1 => w01 (c_cmp 31 (D0 hd v) (E0 hd v) && true) = r ∧ f = f1 ∧ n = n1)) 0 0 (q_ge E) := by
  refine Met.ofW (cc := cX13_isSo) (maxL := 6) (ret := (some .boolean)) (by decide) rfl ?_
  intro p0_ e0_ s0_ m0_ args0_ below0_ meth0_ c0_ s1_ B hml hv
  obtain ⟨rfl, hA, hW⟩ := hv
  have hx := B.exec
  have hb := B.bytes
  have hr := B.returns
  have hts := atoms_spec (ws := wsX13_isSo) B.pre
  have hown : s0_.vm.findClass RX13 = some m0_.cls := findClass_of_methodNamed B.named
  have hlocks := B.notSynchronized
  have hS : va_S (q_ge E) s0_.heap s0_.heap [] := va_S.rf
  have iX13 : ∀ w ∈ wsX130, w ∈ wsX13_isSo := by decide +kernel
  have hl := lv_entry ([.ref a, .ref k]) (n := 6) (Nat.le_of_ble_eq_true rfl)
  rw [lg_entry_eq]
  generalize (lg_sl ([.ref a, .ref k]) ++ List.replicate (6 - (lg_sl ([.ref a, .ref k])).length) Slot.unset).toArray = ls at hl ⊢
  have hl : lv_has ls 6 [(0, .ref a), (1, .ref k)] := hl
  obtain ⟨hk0, ⟨gk, hki, hkv⟩, ⟨gw, hwa, hwv⟩, ⟨gn, hno, hnv⟩, ⟨gp, hpa, hpv⟩, hrow⟩ := id hK
  have l_k := hW.lt hk0
  have l_ki := hW.lt hki
  have l_wa := hW.lt hwa
  have l_no := hW.lt hno
  have l_pa := hW.lt hpa
  obtain ⟨-, so0, ka0, xa0, ya0, hca0⟩ := hM0.cell
  obtain ⟨-, sp0, kc0, xc0, yc0, hcc0⟩ := hQ0.cell
  refine lv_iconst (v := 1) hx hb dX13_isSo_0 (by decide) ?_
  refine lv_istore_n (lv' := [(2, .int 1), (0, .ref a), (1, .ref k)]) hx hb dX13_isSo_1 rfl hl (by decide) rfl (fun ls hl => ?_)
  refine lv_iconst (v := 0) hx hb dX13_isSo_2 (by decide) ?_
  refine lv_istore_n (lv' := [(3, .int 0), (2, .int 1), (0, .ref a), (1, .ref k)]) hx hb dX13_isSo_3 rfl hl (by decide) rfl (fun ls hl => ?_)
  refine lv_iload_n hx hb dX13_isSo_4 rfl (lv_at hl 0 rfl) ?_
  refine lv_aload_n hx hb dX13_isSo_5 rfl (lv_at hl 2 rfl) ?_
  refine q_get hx hb hts hown hA hW iX13 h0 rfl 3 (by decide) (hts (.fieldLink RX13 7 "HighRecipesLaw$Act" "signs" "[I") (by decide +kernel)) (fun _ h9 => h9) (v := .ref sg) rfl dX13_isSo_6 ?_
  refine q_alen hx hb hA hW 0 rfl h1 (v := 1) rfl dX13_isSo_9 ?_
  refine lv_icmp_ge (tgt := 107) hx hb dX13_isSo_10 (by decide) (fun c_10 => absurd c_10 (by decide)) (fun c_10 => ?_)
  refine lv_aload_n hx hb dX13_isSo_13 rfl (lv_at hl 2 rfl) ?_
  refine q_get hx hb hts hown hA hW iX13 h0 rfl 4 (by decide) (hts (.fieldLink RX13 15 "HighRecipesLaw$Act" "ones" "[LHighRecipesLaw$Node;") (by decide +kernel)) (fun _ h9 => h9) (v := .ref on) rfl dX13_isSo_14 ?_
  refine lv_iload_n hx hb dX13_isSo_17 rfl (lv_at hl 0 rfl) ?_
  refine q_aald hx hb hA hW 7 rfl h2 (vp_in_nI (n := 0) (by decide) (by decide)) dX13_isSo_18 ?_
  rw [show go (0 : Int32).toNatClampNeg = some a0 from hgo0]
  refine lv_aload_n hx hb dX13_isSo_19 rfl (lv_at hl 3 rfl) ?_
  refine q_ci (va_runV (As := [.ref k]) (rest := []) ⟨hx, hb, hml, hown, hts⟩ (kX16_value_0 l E f n k pa re ki wa no pn pr hd v b w a0 P D0 W0 hM0 hpn hK) (cwV 1 hts gX13_isSo_X16_value rfl rfl rfl (by decide +kernel) ⟨(Nat.le_of_ble_eq_true rfl), (Nat.le_of_ble_eq_true rfl)⟩) (q_pV hA hW hS (ci := 16) rfl hca0) rfl rfl hl.1 rfl (lv_room (Nat.le_of_ble_eq_true rfl)) dX13_isSo_20 ⟨(Nat.le_of_ble_eq_true rfl), (Nat.le_of_ble_eq_true rfl)⟩) hS (fun r_20 f_20 n_20 H locs hp hW hS => ?_)
  obtain ⟨rfl, rfl, rfl⟩ := hp
  have hW : q_W E (f) n H := hW
  refine lv_istore (lv' := [(4, .int (D0 hd v)), (3, .int 0), (2, .int 1), (0, .ref a), (1, .ref k)]) hx hb dX13_isSo_23 hl (by decide) rfl (fun ls hl => ?_)
  refine lv_aload_n hx hb dX13_isSo_25 rfl (lv_at hl 3 rfl) ?_
  refine q_get hx hb hts hown hA hW iX13 h0 rfl 5 (by decide) (hts (.fieldLink RX13 19 "HighRecipesLaw$Act" "others" "[LHighRecipesLaw$Node;") (by decide +kernel)) (fun _ h9 => h9) (v := .ref ot) rfl dX13_isSo_26 ?_
  refine lv_iload_n hx hb dX13_isSo_29 rfl (lv_at hl 1 rfl) ?_
  refine q_aald hx hb hA hW 7 rfl h3 (vp_in_nI (n := 0) (by decide) (by decide)) dX13_isSo_30 ?_
  rw [show gt (0 : Int32).toNatClampNeg = some c0 from hgt0]
  refine lv_aload_n hx hb dX13_isSo_31 rfl (lv_at hl 4 rfl) ?_
  refine q_ci (va_runV (As := [.ref k]) (rest := []) ⟨hx, hb, hml, hown, hts⟩ (kX16_value_0 l E f n k pa re ki wa no pn pr hd v b w c0 P E0 Y0 hQ0 hpn hK) (cwV 1 hts gX13_isSo_X16_value rfl rfl rfl (by decide +kernel) ⟨(Nat.le_of_ble_eq_true rfl), (Nat.le_of_ble_eq_true rfl)⟩) (q_pV hA hW hS (ci := 16) rfl hcc0) rfl rfl hl.1 rfl (lv_room (Nat.le_of_ble_eq_true rfl)) dX13_isSo_32 ⟨(Nat.le_of_ble_eq_true rfl), (Nat.le_of_ble_eq_true rfl)⟩) hS (fun r_32 f_32 n_32 H locs hp hW hS => ?_)
  obtain ⟨rfl, rfl, rfl⟩ := hp
  have hW : q_W E (f) n H := hW
  refine lv_istore (lv' := [(5, .int (E0 hd v)), (4, .int (D0 hd v)), (3, .int 0), (2, .int 1), (0, .ref a), (1, .ref k)]) hx hb dX13_isSo_35 hl (by decide) rfl (fun ls hl => ?_)
  refine lv_iload_n hx hb dX13_isSo_37 rfl (lv_at hl 3 rfl) ?_
  refine lv_aload_n hx hb dX13_isSo_38 rfl (lv_at hl 4 rfl) ?_
  refine q_get hx hb hts hown hA hW iX13 h0 rfl 3 (by decide) (hts (.fieldLink RX13 7 "HighRecipesLaw$Act" "signs" "[I") (by decide +kernel)) (fun _ h9 => h9) (v := .ref sg) rfl dX13_isSo_39 ?_
  refine lv_iload_n hx hb dX13_isSo_42 rfl (lv_at hl 2 rfl) ?_
  refine q_iald hx hb hA hW h1 (vp_in_nI (n := 0) (by decide) (by decide)) dX13_isSo_43 ?_
  rw [show gs (0 : Int32).toNatClampNeg = 1 from hgs0]
  refine lv_if_ne (tgt := 62) hx hb dX13_isSo_44 (by decide) (fun c_44 => ?_) (fun c_44 => absurd c_44 (by decide))
  refine lv_aload_n hx hb dX13_isSo_62 rfl (lv_at hl 4 rfl) ?_
  refine q_get hx hb hts hown hA hW iX13 h0 rfl 3 (by decide) (hts (.fieldLink RX13 7 "HighRecipesLaw$Act" "signs" "[I") (by decide +kernel)) (fun _ h9 => h9) (v := .ref sg) rfl dX13_isSo_63 ?_
  refine lv_iload_n hx hb dX13_isSo_66 rfl (lv_at hl 2 rfl) ?_
  refine q_iald hx hb hA hW h1 (vp_in_nI (n := 0) (by decide) (by decide)) dX13_isSo_67 ?_
  rw [show gs (0 : Int32).toNatClampNeg = 1 from hgs0]
  refine lv_iconst (v := 1) hx hb dX13_isSo_68 (by decide) ?_
  refine lv_icmp_ne (tgt := 87) hx hb dX13_isSo_69 (by decide) (fun c_69 => absurd c_69 (by decide)) (fun c_69 => ?_)
  refine lv_iload hx hb dX13_isSo_72 (lv_at hl 1 rfl) ?_
  refine lv_iload hx hb dX13_isSo_74 (lv_at hl 0 rfl) ?_
  refine lv_icmp_le (tgt := 83) hx hb dX13_isSo_76 (by decide) (fun c_76 => ?_) (fun c_76 => ?_)
  · refine lv_iconst (v := 0) hx hb dX13_isSo_83 (by decide) ?_
    refine lv_goto (tgt := 99) hx hb dX13_isSo_84 (by decide) ?_
    refine lv_iand hx hb dX13_isSo_99 ?_
    rw [show (1 : Int32) &&& 0 = w01 (c_cmp 31 (D0 hd v) (E0 hd v) && true) from w01_and2 rfl (w01_f (by show decide ((E0 hd v) < (D0 hd v)) = _; exact (decide_eq_false (Int32.not_lt.mpr c_76))))]
    refine lv_istore_n (lv' := [(2, .int (w01 (c_cmp 31 (D0 hd v) (E0 hd v) && true))), (5, .int (E0 hd v)), (4, .int (D0 hd v)), (3, .int 0), (0, .ref a), (1, .ref k)]) hx hb dX13_isSo_100 rfl hl (by decide) rfl (fun ls hl => ?_)
    refine lv_iinc (v := 1) (lv' := [(3, .int 1), (2, .int (w01 (c_cmp 31 (D0 hd v) (E0 hd v) && true))), (5, .int (E0 hd v)), (4, .int (D0 hd v)), (0, .ref a), (1, .ref k)]) hx hb dX13_isSo_101 hl (k := 3) rfl (by decide) (by decide) rfl (fun ls hl => ?_)
    refine lv_goto (tgt := 4) hx hb dX13_isSo_104 (by decide) ?_
    refine lv_iload_n hx hb dX13_isSo_4 rfl (lv_at hl 0 rfl) ?_
    refine lv_aload_n hx hb dX13_isSo_5 rfl (lv_at hl 4 rfl) ?_
    refine q_get hx hb hts hown hA hW iX13 h0 rfl 3 (by decide) (hts (.fieldLink RX13 7 "HighRecipesLaw$Act" "signs" "[I") (by decide +kernel)) (fun _ h9 => h9) (v := .ref sg) rfl dX13_isSo_6 ?_
    refine q_alen hx hb hA hW 0 rfl h1 (v := 1) rfl dX13_isSo_9 ?_
    refine lv_icmp_ge (tgt := 107) hx hb dX13_isSo_10 (by decide) (fun c_10 => ?_) (fun c_10 => absurd c_10 (by decide))
    refine lv_iload_n hx hb dX13_isSo_107 rfl (lv_at hl 1 rfl) ?_
    exact q_zret hx hb hr hlocks hW hS (by unfold w01; split <;> rfl) ⟨rfl, rfl, rfl⟩ (Nat.le_of_ble_eq_true rfl) (Nat.le_of_ble_eq_true rfl) dX13_isSo_108
  · refine lv_iconst (v := 1) hx hb dX13_isSo_79 (by decide) ?_
    refine lv_goto (tgt := 99) hx hb dX13_isSo_80 (by decide) ?_
    refine lv_iand hx hb dX13_isSo_99 ?_
    rw [show (1 : Int32) &&& 1 = w01 (c_cmp 31 (D0 hd v) (E0 hd v) && true) from w01_and2 rfl (w01_t (by show decide ((E0 hd v) < (D0 hd v)) = _; exact (decide_eq_true (Int32.not_le.mp c_76))))]
    refine lv_istore_n (lv' := [(2, .int (w01 (c_cmp 31 (D0 hd v) (E0 hd v) && true))), (5, .int (E0 hd v)), (4, .int (D0 hd v)), (3, .int 0), (0, .ref a), (1, .ref k)]) hx hb dX13_isSo_100 rfl hl (by decide) rfl (fun ls hl => ?_)
    refine lv_iinc (v := 1) (lv' := [(3, .int 1), (2, .int (w01 (c_cmp 31 (D0 hd v) (E0 hd v) && true))), (5, .int (E0 hd v)), (4, .int (D0 hd v)), (0, .ref a), (1, .ref k)]) hx hb dX13_isSo_101 hl (k := 3) rfl (by decide) (by decide) rfl (fun ls hl => ?_)
    refine lv_goto (tgt := 4) hx hb dX13_isSo_104 (by decide) ?_
    refine lv_iload_n hx hb dX13_isSo_4 rfl (lv_at hl 0 rfl) ?_
    refine lv_aload_n hx hb dX13_isSo_5 rfl (lv_at hl 4 rfl) ?_
    refine q_get hx hb hts hown hA hW iX13 h0 rfl 3 (by decide) (hts (.fieldLink RX13 7 "HighRecipesLaw$Act" "signs" "[I") (by decide +kernel)) (fun _ h9 => h9) (v := .ref sg) rfl dX13_isSo_6 ?_
    refine q_alen hx hb hA hW 0 rfl h1 (v := 1) rfl dX13_isSo_9 ?_
    refine lv_icmp_ge (tgt := 107) hx hb dX13_isSo_10 (by decide) (fun c_10 => ?_) (fun c_10 => absurd c_10 (by decide))
    refine lv_iload_n hx hb dX13_isSo_107 rfl (lv_at hl 1 rfl) ?_
    exact q_zret hx hb hr hlocks hW hS (by unfold w01; split <;> rfl) ⟨rfl, rfl, rfl⟩ (Nat.le_of_ble_eq_true rfl) (Nat.le_of_ble_eq_true rfl) dX13_isSo_108

set_option maxHeartbeats 4000000 in
set_option maxRecDepth 100000 in
theorem kX13_isSo_2 (l : Launch) (E : q_E) (f : q_H) (n : Nat) (k pa re ki wa no pn : Nat) (pr : Nat → Nat) (hd v : q_V) (b : Nat) (w : Int32) (a sg on ot : Nat) (a0 c0 : Nat) (D0 E0 : q_D) (W0 Y0 : List Int32) (do_ wh : Int32) (va bl el : Option Nat) (P : Nat → Prop) (gs : Nat → Int32) (go gt : Nat → Option Nat) (h0 : f a = some (cLA do_ wh va (some sg) (some on) (some ot) bl el)) (h1 : f sg = some (aI E 1 gs)) (h2 : f on = some (aQ E 7 1 go)) (h3 : f ot = some (aQ E 7 1 gt)) (hgs0 : gs 0 = 2) (hgo0 : go 0 = some a0) (hgt0 : gt 0 = some c0) (hM0 : NODE pn P f 0 a0 D0 W0) (hQ0 : NODE pn P f 0 c0 E0 Y0) (hpn : pn ≤ 8) (hK : LK E f k pa re ki wa no pn pr hd v b w) : Met l yX13_isSo wsX13_isSo ({ frames := 6, cells := 0, slots := 0, locals := 300 }) (q_P E [.ref a, .ref k] f n) (q_Qi E (fun r f1 n1 => w01 (c_cmp 32 (D0 hd v) (E0 hd v) && true) = r ∧ f = f1 ∧ n = n1)) 0 0 (q_ge E) := by
  refine Met.ofW (cc := cX13_isSo) (maxL := 6) (ret := (some .boolean)) (by decide) rfl ?_
  intro p0_ e0_ s0_ m0_ args0_ below0_ meth0_ c0_ s1_ B hml hv
  obtain ⟨rfl, hA, hW⟩ := hv
  have hx := B.exec
  have hb := B.bytes
  have hr := B.returns
  have hts := atoms_spec (ws := wsX13_isSo) B.pre
  have hown : s0_.vm.findClass RX13 = some m0_.cls := findClass_of_methodNamed B.named
  have hlocks := B.notSynchronized
  have hS : va_S (q_ge E) s0_.heap s0_.heap [] := va_S.rf
  have iX13 : ∀ w ∈ wsX130, w ∈ wsX13_isSo := by decide +kernel
  have hl := lv_entry ([.ref a, .ref k]) (n := 6) (Nat.le_of_ble_eq_true rfl)
  rw [lg_entry_eq]
  generalize (lg_sl ([.ref a, .ref k]) ++ List.replicate (6 - (lg_sl ([.ref a, .ref k])).length) Slot.unset).toArray = ls at hl ⊢
  have hl : lv_has ls 6 [(0, .ref a), (1, .ref k)] := hl
  obtain ⟨hk0, ⟨gk, hki, hkv⟩, ⟨gw, hwa, hwv⟩, ⟨gn, hno, hnv⟩, ⟨gp, hpa, hpv⟩, hrow⟩ := id hK
  have l_k := hW.lt hk0
  have l_ki := hW.lt hki
  have l_wa := hW.lt hwa
  have l_no := hW.lt hno
  have l_pa := hW.lt hpa
  obtain ⟨-, so0, ka0, xa0, ya0, hca0⟩ := hM0.cell
  obtain ⟨-, sp0, kc0, xc0, yc0, hcc0⟩ := hQ0.cell
  refine lv_iconst (v := 1) hx hb dX13_isSo_0 (by decide) ?_
  refine lv_istore_n (lv' := [(2, .int 1), (0, .ref a), (1, .ref k)]) hx hb dX13_isSo_1 rfl hl (by decide) rfl (fun ls hl => ?_)
  refine lv_iconst (v := 0) hx hb dX13_isSo_2 (by decide) ?_
  refine lv_istore_n (lv' := [(3, .int 0), (2, .int 1), (0, .ref a), (1, .ref k)]) hx hb dX13_isSo_3 rfl hl (by decide) rfl (fun ls hl => ?_)
  refine lv_iload_n hx hb dX13_isSo_4 rfl (lv_at hl 0 rfl) ?_
  refine lv_aload_n hx hb dX13_isSo_5 rfl (lv_at hl 2 rfl) ?_
  refine q_get hx hb hts hown hA hW iX13 h0 rfl 3 (by decide) (hts (.fieldLink RX13 7 "HighRecipesLaw$Act" "signs" "[I") (by decide +kernel)) (fun _ h9 => h9) (v := .ref sg) rfl dX13_isSo_6 ?_
  refine q_alen hx hb hA hW 0 rfl h1 (v := 1) rfl dX13_isSo_9 ?_
  refine lv_icmp_ge (tgt := 107) hx hb dX13_isSo_10 (by decide) (fun c_10 => absurd c_10 (by decide)) (fun c_10 => ?_)
  refine lv_aload_n hx hb dX13_isSo_13 rfl (lv_at hl 2 rfl) ?_
  refine q_get hx hb hts hown hA hW iX13 h0 rfl 4 (by decide) (hts (.fieldLink RX13 15 "HighRecipesLaw$Act" "ones" "[LHighRecipesLaw$Node;") (by decide +kernel)) (fun _ h9 => h9) (v := .ref on) rfl dX13_isSo_14 ?_
  refine lv_iload_n hx hb dX13_isSo_17 rfl (lv_at hl 0 rfl) ?_
  refine q_aald hx hb hA hW 7 rfl h2 (vp_in_nI (n := 0) (by decide) (by decide)) dX13_isSo_18 ?_
  rw [show go (0 : Int32).toNatClampNeg = some a0 from hgo0]
  refine lv_aload_n hx hb dX13_isSo_19 rfl (lv_at hl 3 rfl) ?_
  refine q_ci (va_runV (As := [.ref k]) (rest := []) ⟨hx, hb, hml, hown, hts⟩ (kX16_value_0 l E f n k pa re ki wa no pn pr hd v b w a0 P D0 W0 hM0 hpn hK) (cwV 1 hts gX13_isSo_X16_value rfl rfl rfl (by decide +kernel) ⟨(Nat.le_of_ble_eq_true rfl), (Nat.le_of_ble_eq_true rfl)⟩) (q_pV hA hW hS (ci := 16) rfl hca0) rfl rfl hl.1 rfl (lv_room (Nat.le_of_ble_eq_true rfl)) dX13_isSo_20 ⟨(Nat.le_of_ble_eq_true rfl), (Nat.le_of_ble_eq_true rfl)⟩) hS (fun r_20 f_20 n_20 H locs hp hW hS => ?_)
  obtain ⟨rfl, rfl, rfl⟩ := hp
  have hW : q_W E (f) n H := hW
  refine lv_istore (lv' := [(4, .int (D0 hd v)), (3, .int 0), (2, .int 1), (0, .ref a), (1, .ref k)]) hx hb dX13_isSo_23 hl (by decide) rfl (fun ls hl => ?_)
  refine lv_aload_n hx hb dX13_isSo_25 rfl (lv_at hl 3 rfl) ?_
  refine q_get hx hb hts hown hA hW iX13 h0 rfl 5 (by decide) (hts (.fieldLink RX13 19 "HighRecipesLaw$Act" "others" "[LHighRecipesLaw$Node;") (by decide +kernel)) (fun _ h9 => h9) (v := .ref ot) rfl dX13_isSo_26 ?_
  refine lv_iload_n hx hb dX13_isSo_29 rfl (lv_at hl 1 rfl) ?_
  refine q_aald hx hb hA hW 7 rfl h3 (vp_in_nI (n := 0) (by decide) (by decide)) dX13_isSo_30 ?_
  rw [show gt (0 : Int32).toNatClampNeg = some c0 from hgt0]
  refine lv_aload_n hx hb dX13_isSo_31 rfl (lv_at hl 4 rfl) ?_
  refine q_ci (va_runV (As := [.ref k]) (rest := []) ⟨hx, hb, hml, hown, hts⟩ (kX16_value_0 l E f n k pa re ki wa no pn pr hd v b w c0 P E0 Y0 hQ0 hpn hK) (cwV 1 hts gX13_isSo_X16_value rfl rfl rfl (by decide +kernel) ⟨(Nat.le_of_ble_eq_true rfl), (Nat.le_of_ble_eq_true rfl)⟩) (q_pV hA hW hS (ci := 16) rfl hcc0) rfl rfl hl.1 rfl (lv_room (Nat.le_of_ble_eq_true rfl)) dX13_isSo_32 ⟨(Nat.le_of_ble_eq_true rfl), (Nat.le_of_ble_eq_true rfl)⟩) hS (fun r_32 f_32 n_32 H locs hp hW hS => ?_)
  obtain ⟨rfl, rfl, rfl⟩ := hp
  have hW : q_W E (f) n H := hW
  refine lv_istore (lv' := [(5, .int (E0 hd v)), (4, .int (D0 hd v)), (3, .int 0), (2, .int 1), (0, .ref a), (1, .ref k)]) hx hb dX13_isSo_35 hl (by decide) rfl (fun ls hl => ?_)
  refine lv_iload_n hx hb dX13_isSo_37 rfl (lv_at hl 3 rfl) ?_
  refine lv_aload_n hx hb dX13_isSo_38 rfl (lv_at hl 4 rfl) ?_
  refine q_get hx hb hts hown hA hW iX13 h0 rfl 3 (by decide) (hts (.fieldLink RX13 7 "HighRecipesLaw$Act" "signs" "[I") (by decide +kernel)) (fun _ h9 => h9) (v := .ref sg) rfl dX13_isSo_39 ?_
  refine lv_iload_n hx hb dX13_isSo_42 rfl (lv_at hl 2 rfl) ?_
  refine q_iald hx hb hA hW h1 (vp_in_nI (n := 0) (by decide) (by decide)) dX13_isSo_43 ?_
  rw [show gs (0 : Int32).toNatClampNeg = 2 from hgs0]
  refine lv_if_ne (tgt := 62) hx hb dX13_isSo_44 (by decide) (fun c_44 => ?_) (fun c_44 => absurd c_44 (by decide))
  refine lv_aload_n hx hb dX13_isSo_62 rfl (lv_at hl 4 rfl) ?_
  refine q_get hx hb hts hown hA hW iX13 h0 rfl 3 (by decide) (hts (.fieldLink RX13 7 "HighRecipesLaw$Act" "signs" "[I") (by decide +kernel)) (fun _ h9 => h9) (v := .ref sg) rfl dX13_isSo_63 ?_
  refine lv_iload_n hx hb dX13_isSo_66 rfl (lv_at hl 2 rfl) ?_
  refine q_iald hx hb hA hW h1 (vp_in_nI (n := 0) (by decide) (by decide)) dX13_isSo_67 ?_
  rw [show gs (0 : Int32).toNatClampNeg = 2 from hgs0]
  refine lv_iconst (v := 1) hx hb dX13_isSo_68 (by decide) ?_
  refine lv_icmp_ne (tgt := 87) hx hb dX13_isSo_69 (by decide) (fun c_69 => ?_) (fun c_69 => absurd c_69 (by decide))
  refine lv_iload hx hb dX13_isSo_87 (lv_at hl 1 rfl) ?_
  refine lv_iload hx hb dX13_isSo_89 (lv_at hl 0 rfl) ?_
  refine lv_icmp_ne (tgt := 98) hx hb dX13_isSo_91 (by decide) (fun c_91 => ?_) (fun c_91 => ?_)
  · refine lv_iconst (v := 0) hx hb dX13_isSo_98 (by decide) ?_
    refine lv_iand hx hb dX13_isSo_99 ?_
    rw [show (1 : Int32) &&& 0 = w01 (c_cmp 32 (D0 hd v) (E0 hd v) && true) from w01_and2 rfl (w01_f (by show decide ((D0 hd v) = (E0 hd v)) = _; exact (decide_eq_false c_91)))]
    refine lv_istore_n (lv' := [(2, .int (w01 (c_cmp 32 (D0 hd v) (E0 hd v) && true))), (5, .int (E0 hd v)), (4, .int (D0 hd v)), (3, .int 0), (0, .ref a), (1, .ref k)]) hx hb dX13_isSo_100 rfl hl (by decide) rfl (fun ls hl => ?_)
    refine lv_iinc (v := 1) (lv' := [(3, .int 1), (2, .int (w01 (c_cmp 32 (D0 hd v) (E0 hd v) && true))), (5, .int (E0 hd v)), (4, .int (D0 hd v)), (0, .ref a), (1, .ref k)]) hx hb dX13_isSo_101 hl (k := 3) rfl (by decide) (by decide) rfl (fun ls hl => ?_)
    refine lv_goto (tgt := 4) hx hb dX13_isSo_104 (by decide) ?_
    refine lv_iload_n hx hb dX13_isSo_4 rfl (lv_at hl 0 rfl) ?_
    refine lv_aload_n hx hb dX13_isSo_5 rfl (lv_at hl 4 rfl) ?_
    refine q_get hx hb hts hown hA hW iX13 h0 rfl 3 (by decide) (hts (.fieldLink RX13 7 "HighRecipesLaw$Act" "signs" "[I") (by decide +kernel)) (fun _ h9 => h9) (v := .ref sg) rfl dX13_isSo_6 ?_
    refine q_alen hx hb hA hW 0 rfl h1 (v := 1) rfl dX13_isSo_9 ?_
    refine lv_icmp_ge (tgt := 107) hx hb dX13_isSo_10 (by decide) (fun c_10 => ?_) (fun c_10 => absurd c_10 (by decide))
    refine lv_iload_n hx hb dX13_isSo_107 rfl (lv_at hl 1 rfl) ?_
    exact q_zret hx hb hr hlocks hW hS (by unfold w01; split <;> rfl) ⟨rfl, rfl, rfl⟩ (Nat.le_of_ble_eq_true rfl) (Nat.le_of_ble_eq_true rfl) dX13_isSo_108
  · refine lv_iconst (v := 1) hx hb dX13_isSo_94 (by decide) ?_
    refine lv_goto (tgt := 99) hx hb dX13_isSo_95 (by decide) ?_
    refine lv_iand hx hb dX13_isSo_99 ?_
    rw [show (1 : Int32) &&& 1 = w01 (c_cmp 32 (D0 hd v) (E0 hd v) && true) from w01_and2 rfl (w01_t (by show decide ((D0 hd v) = (E0 hd v)) = _; exact (decide_eq_true c_91)))]
    refine lv_istore_n (lv' := [(2, .int (w01 (c_cmp 32 (D0 hd v) (E0 hd v) && true))), (5, .int (E0 hd v)), (4, .int (D0 hd v)), (3, .int 0), (0, .ref a), (1, .ref k)]) hx hb dX13_isSo_100 rfl hl (by decide) rfl (fun ls hl => ?_)
    refine lv_iinc (v := 1) (lv' := [(3, .int 1), (2, .int (w01 (c_cmp 32 (D0 hd v) (E0 hd v) && true))), (5, .int (E0 hd v)), (4, .int (D0 hd v)), (0, .ref a), (1, .ref k)]) hx hb dX13_isSo_101 hl (k := 3) rfl (by decide) (by decide) rfl (fun ls hl => ?_)
    refine lv_goto (tgt := 4) hx hb dX13_isSo_104 (by decide) ?_
    refine lv_iload_n hx hb dX13_isSo_4 rfl (lv_at hl 0 rfl) ?_
    refine lv_aload_n hx hb dX13_isSo_5 rfl (lv_at hl 4 rfl) ?_
    refine q_get hx hb hts hown hA hW iX13 h0 rfl 3 (by decide) (hts (.fieldLink RX13 7 "HighRecipesLaw$Act" "signs" "[I") (by decide +kernel)) (fun _ h9 => h9) (v := .ref sg) rfl dX13_isSo_6 ?_
    refine q_alen hx hb hA hW 0 rfl h1 (v := 1) rfl dX13_isSo_9 ?_
    refine lv_icmp_ge (tgt := 107) hx hb dX13_isSo_10 (by decide) (fun c_10 => ?_) (fun c_10 => absurd c_10 (by decide))
    refine lv_iload_n hx hb dX13_isSo_107 rfl (lv_at hl 1 rfl) ?_
    exact q_zret hx hb hr hlocks hW hS (by unfold w01; split <;> rfl) ⟨rfl, rfl, rfl⟩ (Nat.le_of_ble_eq_true rfl) (Nat.le_of_ble_eq_true rfl) dX13_isSo_108

set_option maxHeartbeats 4000000 in
set_option maxRecDepth 100000 in
theorem kX13_isSo_00 (l : Launch) (E : q_E) (f : q_H) (n : Nat) (k pa re ki wa no pn : Nat) (pr : Nat → Nat) (hd v : q_V) (b : Nat) (w : Int32) (a sg on ot : Nat) (a0 c0 : Nat) (D0 E0 : q_D) (W0 Y0 : List Int32) (a1 c1 : Nat) (D1 E1 : q_D) (W1 Y1 : List Int32) (do_ wh : Int32) (va bl el : Option Nat) (P : Nat → Prop) (gs : Nat → Int32) (go gt : Nat → Option Nat) (h0 : f a = some (cLA do_ wh va (some sg) (some on) (some ot) bl el)) (h1 : f sg = some (aI E 2 gs)) (h2 : f on = some (aQ E 7 2 go)) (h3 : f ot = some (aQ E 7 2 gt)) (hgs0 : gs 0 = 0) (hgo0 : go 0 = some a0) (hgt0 : gt 0 = some c0) (hM0 : NODE pn P f 0 a0 D0 W0) (hQ0 : NODE pn P f 0 c0 E0 Y0) (hgs1 : gs 1 = 0) (hgo1 : go 1 = some a1) (hgt1 : gt 1 = some c1) (hM1 : NODE pn P f 0 a1 D1 W1) (hQ1 : NODE pn P f 0 c1 E1 Y1) (hpn : pn ≤ 8) (hK : LK E f k pa re ki wa no pn pr hd v b w) : Met l yX13_isSo wsX13_isSo ({ frames := 6, cells := 0, slots := 0, locals := 300 }) (q_P E [.ref a, .ref k] f n) (q_Qi E (fun r f1 n1 => w01 (c_cmp 30 (D1 hd v) (E1 hd v) && (c_cmp 30 (D0 hd v) (E0 hd v) && true)) = r ∧ f = f1 ∧ n = n1)) 0 0 (q_ge E) := by
  refine Met.ofW (cc := cX13_isSo) (maxL := 6) (ret := (some .boolean)) (by decide) rfl ?_
  intro p0_ e0_ s0_ m0_ args0_ below0_ meth0_ c0_ s1_ B hml hv
  obtain ⟨rfl, hA, hW⟩ := hv
  have hx := B.exec
  have hb := B.bytes
  have hr := B.returns
  have hts := atoms_spec (ws := wsX13_isSo) B.pre
  have hown : s0_.vm.findClass RX13 = some m0_.cls := findClass_of_methodNamed B.named
  have hlocks := B.notSynchronized
  have hS : va_S (q_ge E) s0_.heap s0_.heap [] := va_S.rf
  have iX13 : ∀ w ∈ wsX130, w ∈ wsX13_isSo := by decide +kernel
  have hl := lv_entry ([.ref a, .ref k]) (n := 6) (Nat.le_of_ble_eq_true rfl)
  rw [lg_entry_eq]
  generalize (lg_sl ([.ref a, .ref k]) ++ List.replicate (6 - (lg_sl ([.ref a, .ref k])).length) Slot.unset).toArray = ls at hl ⊢
  have hl : lv_has ls 6 [(0, .ref a), (1, .ref k)] := hl
  obtain ⟨hk0, ⟨gk, hki, hkv⟩, ⟨gw, hwa, hwv⟩, ⟨gn, hno, hnv⟩, ⟨gp, hpa, hpv⟩, hrow⟩ := id hK
  have l_k := hW.lt hk0
  have l_ki := hW.lt hki
  have l_wa := hW.lt hwa
  have l_no := hW.lt hno
  have l_pa := hW.lt hpa
  obtain ⟨-, so0, ka0, xa0, ya0, hca0⟩ := hM0.cell
  obtain ⟨-, sp0, kc0, xc0, yc0, hcc0⟩ := hQ0.cell
  obtain ⟨-, so1, ka1, xa1, ya1, hca1⟩ := hM1.cell
  obtain ⟨-, sp1, kc1, xc1, yc1, hcc1⟩ := hQ1.cell
  refine lv_iconst (v := 1) hx hb dX13_isSo_0 (by decide) ?_
  refine lv_istore_n (lv' := [(2, .int 1), (0, .ref a), (1, .ref k)]) hx hb dX13_isSo_1 rfl hl (by decide) rfl (fun ls hl => ?_)
  refine lv_iconst (v := 0) hx hb dX13_isSo_2 (by decide) ?_
  refine lv_istore_n (lv' := [(3, .int 0), (2, .int 1), (0, .ref a), (1, .ref k)]) hx hb dX13_isSo_3 rfl hl (by decide) rfl (fun ls hl => ?_)
  refine lv_iload_n hx hb dX13_isSo_4 rfl (lv_at hl 0 rfl) ?_
  refine lv_aload_n hx hb dX13_isSo_5 rfl (lv_at hl 2 rfl) ?_
  refine q_get hx hb hts hown hA hW iX13 h0 rfl 3 (by decide) (hts (.fieldLink RX13 7 "HighRecipesLaw$Act" "signs" "[I") (by decide +kernel)) (fun _ h9 => h9) (v := .ref sg) rfl dX13_isSo_6 ?_
  refine q_alen hx hb hA hW 0 rfl h1 (v := 2) rfl dX13_isSo_9 ?_
  refine lv_icmp_ge (tgt := 107) hx hb dX13_isSo_10 (by decide) (fun c_10 => absurd c_10 (by decide)) (fun c_10 => ?_)
  refine lv_aload_n hx hb dX13_isSo_13 rfl (lv_at hl 2 rfl) ?_
  refine q_get hx hb hts hown hA hW iX13 h0 rfl 4 (by decide) (hts (.fieldLink RX13 15 "HighRecipesLaw$Act" "ones" "[LHighRecipesLaw$Node;") (by decide +kernel)) (fun _ h9 => h9) (v := .ref on) rfl dX13_isSo_14 ?_
  refine lv_iload_n hx hb dX13_isSo_17 rfl (lv_at hl 0 rfl) ?_
  refine q_aald hx hb hA hW 7 rfl h2 (vp_in_nI (n := 0) (by decide) (by decide)) dX13_isSo_18 ?_
  rw [show go (0 : Int32).toNatClampNeg = some a0 from hgo0]
  refine lv_aload_n hx hb dX13_isSo_19 rfl (lv_at hl 3 rfl) ?_
  refine q_ci (va_runV (As := [.ref k]) (rest := []) ⟨hx, hb, hml, hown, hts⟩ (kX16_value_0 l E f n k pa re ki wa no pn pr hd v b w a0 P D0 W0 hM0 hpn hK) (cwV 1 hts gX13_isSo_X16_value rfl rfl rfl (by decide +kernel) ⟨(Nat.le_of_ble_eq_true rfl), (Nat.le_of_ble_eq_true rfl)⟩) (q_pV hA hW hS (ci := 16) rfl hca0) rfl rfl hl.1 rfl (lv_room (Nat.le_of_ble_eq_true rfl)) dX13_isSo_20 ⟨(Nat.le_of_ble_eq_true rfl), (Nat.le_of_ble_eq_true rfl)⟩) hS (fun r_20 f_20 n_20 H locs hp hW hS => ?_)
  obtain ⟨rfl, rfl, rfl⟩ := hp
  have hW : q_W E (f) n H := hW
  refine lv_istore (lv' := [(4, .int (D0 hd v)), (3, .int 0), (2, .int 1), (0, .ref a), (1, .ref k)]) hx hb dX13_isSo_23 hl (by decide) rfl (fun ls hl => ?_)
  refine lv_aload_n hx hb dX13_isSo_25 rfl (lv_at hl 3 rfl) ?_
  refine q_get hx hb hts hown hA hW iX13 h0 rfl 5 (by decide) (hts (.fieldLink RX13 19 "HighRecipesLaw$Act" "others" "[LHighRecipesLaw$Node;") (by decide +kernel)) (fun _ h9 => h9) (v := .ref ot) rfl dX13_isSo_26 ?_
  refine lv_iload_n hx hb dX13_isSo_29 rfl (lv_at hl 1 rfl) ?_
  refine q_aald hx hb hA hW 7 rfl h3 (vp_in_nI (n := 0) (by decide) (by decide)) dX13_isSo_30 ?_
  rw [show gt (0 : Int32).toNatClampNeg = some c0 from hgt0]
  refine lv_aload_n hx hb dX13_isSo_31 rfl (lv_at hl 4 rfl) ?_
  refine q_ci (va_runV (As := [.ref k]) (rest := []) ⟨hx, hb, hml, hown, hts⟩ (kX16_value_0 l E f n k pa re ki wa no pn pr hd v b w c0 P E0 Y0 hQ0 hpn hK) (cwV 1 hts gX13_isSo_X16_value rfl rfl rfl (by decide +kernel) ⟨(Nat.le_of_ble_eq_true rfl), (Nat.le_of_ble_eq_true rfl)⟩) (q_pV hA hW hS (ci := 16) rfl hcc0) rfl rfl hl.1 rfl (lv_room (Nat.le_of_ble_eq_true rfl)) dX13_isSo_32 ⟨(Nat.le_of_ble_eq_true rfl), (Nat.le_of_ble_eq_true rfl)⟩) hS (fun r_32 f_32 n_32 H locs hp hW hS => ?_)
  obtain ⟨rfl, rfl, rfl⟩ := hp
  have hW : q_W E (f) n H := hW
  refine lv_istore (lv' := [(5, .int (E0 hd v)), (4, .int (D0 hd v)), (3, .int 0), (2, .int 1), (0, .ref a), (1, .ref k)]) hx hb dX13_isSo_35 hl (by decide) rfl (fun ls hl => ?_)
  refine lv_iload_n hx hb dX13_isSo_37 rfl (lv_at hl 3 rfl) ?_
  refine lv_aload_n hx hb dX13_isSo_38 rfl (lv_at hl 4 rfl) ?_
  refine q_get hx hb hts hown hA hW iX13 h0 rfl 3 (by decide) (hts (.fieldLink RX13 7 "HighRecipesLaw$Act" "signs" "[I") (by decide +kernel)) (fun _ h9 => h9) (v := .ref sg) rfl dX13_isSo_39 ?_
  refine lv_iload_n hx hb dX13_isSo_42 rfl (lv_at hl 2 rfl) ?_
  refine q_iald hx hb hA hW h1 (vp_in_nI (n := 0) (by decide) (by decide)) dX13_isSo_43 ?_
  rw [show gs (0 : Int32).toNatClampNeg = 0 from hgs0]
  refine lv_if_ne (tgt := 62) hx hb dX13_isSo_44 (by decide) (fun c_44 => absurd c_44 (by decide)) (fun c_44 => ?_)
  refine lv_iload hx hb dX13_isSo_47 (lv_at hl 1 rfl) ?_
  refine lv_iload hx hb dX13_isSo_49 (lv_at hl 0 rfl) ?_
  refine lv_icmp_ge (tgt := 58) hx hb dX13_isSo_51 (by decide) (fun c_51 => ?_) (fun c_51 => ?_)
  · refine lv_iconst (v := 0) hx hb dX13_isSo_58 (by decide) ?_
    refine lv_goto (tgt := 99) hx hb dX13_isSo_59 (by decide) ?_
    refine lv_iand hx hb dX13_isSo_99 ?_
    rw [show (1 : Int32) &&& 0 = w01 (c_cmp 30 (D0 hd v) (E0 hd v) && true) from w01_and2 rfl (w01_f (by show decide ((D0 hd v) < (E0 hd v)) = _; exact (decide_eq_false (Int32.not_lt.mpr c_51))))]
    refine lv_istore_n (lv' := [(2, .int (w01 (c_cmp 30 (D0 hd v) (E0 hd v) && true))), (5, .int (E0 hd v)), (4, .int (D0 hd v)), (3, .int 0), (0, .ref a), (1, .ref k)]) hx hb dX13_isSo_100 rfl hl (by decide) rfl (fun ls hl => ?_)
    refine lv_iinc (v := 1) (lv' := [(3, .int 1), (2, .int (w01 (c_cmp 30 (D0 hd v) (E0 hd v) && true))), (5, .int (E0 hd v)), (4, .int (D0 hd v)), (0, .ref a), (1, .ref k)]) hx hb dX13_isSo_101 hl (k := 3) rfl (by decide) (by decide) rfl (fun ls hl => ?_)
    refine lv_goto (tgt := 4) hx hb dX13_isSo_104 (by decide) ?_
    refine lv_iload_n hx hb dX13_isSo_4 rfl (lv_at hl 0 rfl) ?_
    refine lv_aload_n hx hb dX13_isSo_5 rfl (lv_at hl 4 rfl) ?_
    refine q_get hx hb hts hown hA hW iX13 h0 rfl 3 (by decide) (hts (.fieldLink RX13 7 "HighRecipesLaw$Act" "signs" "[I") (by decide +kernel)) (fun _ h9 => h9) (v := .ref sg) rfl dX13_isSo_6 ?_
    refine q_alen hx hb hA hW 0 rfl h1 (v := 2) rfl dX13_isSo_9 ?_
    refine lv_icmp_ge (tgt := 107) hx hb dX13_isSo_10 (by decide) (fun c_10 => absurd c_10 (by decide)) (fun c_10 => ?_)
    refine lv_aload_n hx hb dX13_isSo_13 rfl (lv_at hl 4 rfl) ?_
    refine q_get hx hb hts hown hA hW iX13 h0 rfl 4 (by decide) (hts (.fieldLink RX13 15 "HighRecipesLaw$Act" "ones" "[LHighRecipesLaw$Node;") (by decide +kernel)) (fun _ h9 => h9) (v := .ref on) rfl dX13_isSo_14 ?_
    refine lv_iload_n hx hb dX13_isSo_17 rfl (lv_at hl 0 rfl) ?_
    refine q_aald hx hb hA hW 7 rfl h2 (vp_in_nI (n := 1) (by decide) (by decide)) dX13_isSo_18 ?_
    rw [show go (1 : Int32).toNatClampNeg = some a1 from hgo1]
    refine lv_aload_n hx hb dX13_isSo_19 rfl (lv_at hl 5 rfl) ?_
    refine q_ci (va_runV (As := [.ref k]) (rest := []) ⟨hx, hb, hml, hown, hts⟩ (kX16_value_0 l E f n k pa re ki wa no pn pr hd v b w a1 P D1 W1 hM1 hpn hK) (cwV 1 hts gX13_isSo_X16_value rfl rfl rfl (by decide +kernel) ⟨(Nat.le_of_ble_eq_true rfl), (Nat.le_of_ble_eq_true rfl)⟩) (q_pV hA hW hS (ci := 16) rfl hca1) rfl rfl hl.1 rfl (lv_room (Nat.le_of_ble_eq_true rfl)) dX13_isSo_20 ⟨(Nat.le_of_ble_eq_true rfl), (Nat.le_of_ble_eq_true rfl)⟩) hS (fun r_20x1 f_20x1 n_20x1 H locs hp hW hS => ?_)
    obtain ⟨rfl, rfl, rfl⟩ := hp
    have hW : q_W E (f) n H := hW
    refine lv_istore (lv' := [(4, .int (D1 hd v)), (3, .int 1), (2, .int (w01 (c_cmp 30 (D0 hd v) (E0 hd v) && true))), (5, .int (E0 hd v)), (0, .ref a), (1, .ref k)]) hx hb dX13_isSo_23 hl (by decide) rfl (fun ls hl => ?_)
    refine lv_aload_n hx hb dX13_isSo_25 rfl (lv_at hl 4 rfl) ?_
    refine q_get hx hb hts hown hA hW iX13 h0 rfl 5 (by decide) (hts (.fieldLink RX13 19 "HighRecipesLaw$Act" "others" "[LHighRecipesLaw$Node;") (by decide +kernel)) (fun _ h9 => h9) (v := .ref ot) rfl dX13_isSo_26 ?_
    refine lv_iload_n hx hb dX13_isSo_29 rfl (lv_at hl 1 rfl) ?_
    refine q_aald hx hb hA hW 7 rfl h3 (vp_in_nI (n := 1) (by decide) (by decide)) dX13_isSo_30 ?_
    rw [show gt (1 : Int32).toNatClampNeg = some c1 from hgt1]
    refine lv_aload_n hx hb dX13_isSo_31 rfl (lv_at hl 5 rfl) ?_
    refine q_ci (va_runV (As := [.ref k]) (rest := []) ⟨hx, hb, hml, hown, hts⟩ (kX16_value_0 l E f n k pa re ki wa no pn pr hd v b w c1 P E1 Y1 hQ1 hpn hK) (cwV 1 hts gX13_isSo_X16_value rfl rfl rfl (by decide +kernel) ⟨(Nat.le_of_ble_eq_true rfl), (Nat.le_of_ble_eq_true rfl)⟩) (q_pV hA hW hS (ci := 16) rfl hcc1) rfl rfl hl.1 rfl (lv_room (Nat.le_of_ble_eq_true rfl)) dX13_isSo_32 ⟨(Nat.le_of_ble_eq_true rfl), (Nat.le_of_ble_eq_true rfl)⟩) hS (fun r_32x1 f_32x1 n_32x1 H locs hp hW hS => ?_)
    obtain ⟨rfl, rfl, rfl⟩ := hp
    have hW : q_W E (f) n H := hW
    refine lv_istore (lv' := [(5, .int (E1 hd v)), (4, .int (D1 hd v)), (3, .int 1), (2, .int (w01 (c_cmp 30 (D0 hd v) (E0 hd v) && true))), (0, .ref a), (1, .ref k)]) hx hb dX13_isSo_35 hl (by decide) rfl (fun ls hl => ?_)
    refine lv_iload_n hx hb dX13_isSo_37 rfl (lv_at hl 3 rfl) ?_
    refine lv_aload_n hx hb dX13_isSo_38 rfl (lv_at hl 4 rfl) ?_
    refine q_get hx hb hts hown hA hW iX13 h0 rfl 3 (by decide) (hts (.fieldLink RX13 7 "HighRecipesLaw$Act" "signs" "[I") (by decide +kernel)) (fun _ h9 => h9) (v := .ref sg) rfl dX13_isSo_39 ?_
    refine lv_iload_n hx hb dX13_isSo_42 rfl (lv_at hl 2 rfl) ?_
    refine q_iald hx hb hA hW h1 (vp_in_nI (n := 1) (by decide) (by decide)) dX13_isSo_43 ?_
    rw [show gs (1 : Int32).toNatClampNeg = 0 from hgs1]
    refine lv_if_ne (tgt := 62) hx hb dX13_isSo_44 (by decide) (fun c_44 => absurd c_44 (by decide)) (fun c_44 => ?_)
    refine lv_iload hx hb dX13_isSo_47 (lv_at hl 1 rfl) ?_
    refine lv_iload hx hb dX13_isSo_49 (lv_at hl 0 rfl) ?_
    refine lv_icmp_ge (tgt := 58) hx hb dX13_isSo_51 (by decide) (fun c_51 => ?_) (fun c_51 => ?_)
    · refine lv_iconst (v := 0) hx hb dX13_isSo_58 (by decide) ?_
      refine lv_goto (tgt := 99) hx hb dX13_isSo_59 (by decide) ?_
      refine lv_iand hx hb dX13_isSo_99 ?_
      rw [show (w01 (c_cmp 30 (D0 hd v) (E0 hd v) && true) : Int32) &&& 0 = w01 (c_cmp 30 (D1 hd v) (E1 hd v) && (c_cmp 30 (D0 hd v) (E0 hd v) && true)) from w01_and2 rfl (w01_f (by show decide ((D1 hd v) < (E1 hd v)) = _; exact (decide_eq_false (Int32.not_lt.mpr c_51))))]
      refine lv_istore_n (lv' := [(2, .int (w01 (c_cmp 30 (D1 hd v) (E1 hd v) && (c_cmp 30 (D0 hd v) (E0 hd v) && true)))), (5, .int (E1 hd v)), (4, .int (D1 hd v)), (3, .int 1), (0, .ref a), (1, .ref k)]) hx hb dX13_isSo_100 rfl hl (by decide) rfl (fun ls hl => ?_)
      refine lv_iinc (v := 2) (lv' := [(3, .int 2), (2, .int (w01 (c_cmp 30 (D1 hd v) (E1 hd v) && (c_cmp 30 (D0 hd v) (E0 hd v) && true)))), (5, .int (E1 hd v)), (4, .int (D1 hd v)), (0, .ref a), (1, .ref k)]) hx hb dX13_isSo_101 hl (k := 3) rfl (by decide) (by decide) rfl (fun ls hl => ?_)
      refine lv_goto (tgt := 4) hx hb dX13_isSo_104 (by decide) ?_
      refine lv_iload_n hx hb dX13_isSo_4 rfl (lv_at hl 0 rfl) ?_
      refine lv_aload_n hx hb dX13_isSo_5 rfl (lv_at hl 4 rfl) ?_
      refine q_get hx hb hts hown hA hW iX13 h0 rfl 3 (by decide) (hts (.fieldLink RX13 7 "HighRecipesLaw$Act" "signs" "[I") (by decide +kernel)) (fun _ h9 => h9) (v := .ref sg) rfl dX13_isSo_6 ?_
      refine q_alen hx hb hA hW 0 rfl h1 (v := 2) rfl dX13_isSo_9 ?_
      refine lv_icmp_ge (tgt := 107) hx hb dX13_isSo_10 (by decide) (fun c_10 => ?_) (fun c_10 => absurd c_10 (by decide))
      refine lv_iload_n hx hb dX13_isSo_107 rfl (lv_at hl 1 rfl) ?_
      exact q_zret hx hb hr hlocks hW hS (by unfold w01; split <;> rfl) ⟨rfl, rfl, rfl⟩ (Nat.le_of_ble_eq_true rfl) (Nat.le_of_ble_eq_true rfl) dX13_isSo_108
    · refine lv_iconst (v := 1) hx hb dX13_isSo_54 (by decide) ?_
      refine lv_goto (tgt := 99) hx hb dX13_isSo_55 (by decide) ?_
      refine lv_iand hx hb dX13_isSo_99 ?_
      rw [show (w01 (c_cmp 30 (D0 hd v) (E0 hd v) && true) : Int32) &&& 1 = w01 (c_cmp 30 (D1 hd v) (E1 hd v) && (c_cmp 30 (D0 hd v) (E0 hd v) && true)) from w01_and2 rfl (w01_t (by show decide ((D1 hd v) < (E1 hd v)) = _; exact (decide_eq_true (Int32.not_le.mp c_51))))]
      refine lv_istore_n (lv' := [(2, .int (w01 (c_cmp 30 (D1 hd v) (E1 hd v) && (c_cmp 30 (D0 hd v) (E0 hd v) && true)))), (5, .int (E1 hd v)), (4, .int (D1 hd v)), (3, .int 1), (0, .ref a), (1, .ref k)]) hx hb dX13_isSo_100 rfl hl (by decide) rfl (fun ls hl => ?_)
      refine lv_iinc (v := 2) (lv' := [(3, .int 2), (2, .int (w01 (c_cmp 30 (D1 hd v) (E1 hd v) && (c_cmp 30 (D0 hd v) (E0 hd v) && true)))), (5, .int (E1 hd v)), (4, .int (D1 hd v)), (0, .ref a), (1, .ref k)]) hx hb dX13_isSo_101 hl (k := 3) rfl (by decide) (by decide) rfl (fun ls hl => ?_)
      refine lv_goto (tgt := 4) hx hb dX13_isSo_104 (by decide) ?_
      refine lv_iload_n hx hb dX13_isSo_4 rfl (lv_at hl 0 rfl) ?_
      refine lv_aload_n hx hb dX13_isSo_5 rfl (lv_at hl 4 rfl) ?_
      refine q_get hx hb hts hown hA hW iX13 h0 rfl 3 (by decide) (hts (.fieldLink RX13 7 "HighRecipesLaw$Act" "signs" "[I") (by decide +kernel)) (fun _ h9 => h9) (v := .ref sg) rfl dX13_isSo_6 ?_
      refine q_alen hx hb hA hW 0 rfl h1 (v := 2) rfl dX13_isSo_9 ?_
      refine lv_icmp_ge (tgt := 107) hx hb dX13_isSo_10 (by decide) (fun c_10 => ?_) (fun c_10 => absurd c_10 (by decide))
      refine lv_iload_n hx hb dX13_isSo_107 rfl (lv_at hl 1 rfl) ?_
      exact q_zret hx hb hr hlocks hW hS (by unfold w01; split <;> rfl) ⟨rfl, rfl, rfl⟩ (Nat.le_of_ble_eq_true rfl) (Nat.le_of_ble_eq_true rfl) dX13_isSo_108
  · refine lv_iconst (v := 1) hx hb dX13_isSo_54 (by decide) ?_
    refine lv_goto (tgt := 99) hx hb dX13_isSo_55 (by decide) ?_
    refine lv_iand hx hb dX13_isSo_99 ?_
    rw [show (1 : Int32) &&& 1 = w01 (c_cmp 30 (D0 hd v) (E0 hd v) && true) from w01_and2 rfl (w01_t (by show decide ((D0 hd v) < (E0 hd v)) = _; exact (decide_eq_true (Int32.not_le.mp c_51))))]
    refine lv_istore_n (lv' := [(2, .int (w01 (c_cmp 30 (D0 hd v) (E0 hd v) && true))), (5, .int (E0 hd v)), (4, .int (D0 hd v)), (3, .int 0), (0, .ref a), (1, .ref k)]) hx hb dX13_isSo_100 rfl hl (by decide) rfl (fun ls hl => ?_)
    refine lv_iinc (v := 1) (lv' := [(3, .int 1), (2, .int (w01 (c_cmp 30 (D0 hd v) (E0 hd v) && true))), (5, .int (E0 hd v)), (4, .int (D0 hd v)), (0, .ref a), (1, .ref k)]) hx hb dX13_isSo_101 hl (k := 3) rfl (by decide) (by decide) rfl (fun ls hl => ?_)
    refine lv_goto (tgt := 4) hx hb dX13_isSo_104 (by decide) ?_
    refine lv_iload_n hx hb dX13_isSo_4 rfl (lv_at hl 0 rfl) ?_
    refine lv_aload_n hx hb dX13_isSo_5 rfl (lv_at hl 4 rfl) ?_
    refine q_get hx hb hts hown hA hW iX13 h0 rfl 3 (by decide) (hts (.fieldLink RX13 7 "HighRecipesLaw$Act" "signs" "[I") (by decide +kernel)) (fun _ h9 => h9) (v := .ref sg) rfl dX13_isSo_6 ?_
    refine q_alen hx hb hA hW 0 rfl h1 (v := 2) rfl dX13_isSo_9 ?_
    refine lv_icmp_ge (tgt := 107) hx hb dX13_isSo_10 (by decide) (fun c_10 => absurd c_10 (by decide)) (fun c_10 => ?_)
    refine lv_aload_n hx hb dX13_isSo_13 rfl (lv_at hl 4 rfl) ?_
    refine q_get hx hb hts hown hA hW iX13 h0 rfl 4 (by decide) (hts (.fieldLink RX13 15 "HighRecipesLaw$Act" "ones" "[LHighRecipesLaw$Node;") (by decide +kernel)) (fun _ h9 => h9) (v := .ref on) rfl dX13_isSo_14 ?_
    refine lv_iload_n hx hb dX13_isSo_17 rfl (lv_at hl 0 rfl) ?_
    refine q_aald hx hb hA hW 7 rfl h2 (vp_in_nI (n := 1) (by decide) (by decide)) dX13_isSo_18 ?_
    rw [show go (1 : Int32).toNatClampNeg = some a1 from hgo1]
    refine lv_aload_n hx hb dX13_isSo_19 rfl (lv_at hl 5 rfl) ?_
    refine q_ci (va_runV (As := [.ref k]) (rest := []) ⟨hx, hb, hml, hown, hts⟩ (kX16_value_0 l E f n k pa re ki wa no pn pr hd v b w a1 P D1 W1 hM1 hpn hK) (cwV 1 hts gX13_isSo_X16_value rfl rfl rfl (by decide +kernel) ⟨(Nat.le_of_ble_eq_true rfl), (Nat.le_of_ble_eq_true rfl)⟩) (q_pV hA hW hS (ci := 16) rfl hca1) rfl rfl hl.1 rfl (lv_room (Nat.le_of_ble_eq_true rfl)) dX13_isSo_20 ⟨(Nat.le_of_ble_eq_true rfl), (Nat.le_of_ble_eq_true rfl)⟩) hS (fun r_20x1 f_20x1 n_20x1 H locs hp hW hS => ?_)
    obtain ⟨rfl, rfl, rfl⟩ := hp
    have hW : q_W E (f) n H := hW
    refine lv_istore (lv' := [(4, .int (D1 hd v)), (3, .int 1), (2, .int (w01 (c_cmp 30 (D0 hd v) (E0 hd v) && true))), (5, .int (E0 hd v)), (0, .ref a), (1, .ref k)]) hx hb dX13_isSo_23 hl (by decide) rfl (fun ls hl => ?_)
    refine lv_aload_n hx hb dX13_isSo_25 rfl (lv_at hl 4 rfl) ?_
    refine q_get hx hb hts hown hA hW iX13 h0 rfl 5 (by decide) (hts (.fieldLink RX13 19 "HighRecipesLaw$Act" "others" "[LHighRecipesLaw$Node;") (by decide +kernel)) (fun _ h9 => h9) (v := .ref ot) rfl dX13_isSo_26 ?_
    refine lv_iload_n hx hb dX13_isSo_29 rfl (lv_at hl 1 rfl) ?_
    refine q_aald hx hb hA hW 7 rfl h3 (vp_in_nI (n := 1) (by decide) (by decide)) dX13_isSo_30 ?_
    rw [show gt (1 : Int32).toNatClampNeg = some c1 from hgt1]
    refine lv_aload_n hx hb dX13_isSo_31 rfl (lv_at hl 5 rfl) ?_
    refine q_ci (va_runV (As := [.ref k]) (rest := []) ⟨hx, hb, hml, hown, hts⟩ (kX16_value_0 l E f n k pa re ki wa no pn pr hd v b w c1 P E1 Y1 hQ1 hpn hK) (cwV 1 hts gX13_isSo_X16_value rfl rfl rfl (by decide +kernel) ⟨(Nat.le_of_ble_eq_true rfl), (Nat.le_of_ble_eq_true rfl)⟩) (q_pV hA hW hS (ci := 16) rfl hcc1) rfl rfl hl.1 rfl (lv_room (Nat.le_of_ble_eq_true rfl)) dX13_isSo_32 ⟨(Nat.le_of_ble_eq_true rfl), (Nat.le_of_ble_eq_true rfl)⟩) hS (fun r_32x1 f_32x1 n_32x1 H locs hp hW hS => ?_)
    obtain ⟨rfl, rfl, rfl⟩ := hp
    have hW : q_W E (f) n H := hW
    refine lv_istore (lv' := [(5, .int (E1 hd v)), (4, .int (D1 hd v)), (3, .int 1), (2, .int (w01 (c_cmp 30 (D0 hd v) (E0 hd v) && true))), (0, .ref a), (1, .ref k)]) hx hb dX13_isSo_35 hl (by decide) rfl (fun ls hl => ?_)
    refine lv_iload_n hx hb dX13_isSo_37 rfl (lv_at hl 3 rfl) ?_
    refine lv_aload_n hx hb dX13_isSo_38 rfl (lv_at hl 4 rfl) ?_
    refine q_get hx hb hts hown hA hW iX13 h0 rfl 3 (by decide) (hts (.fieldLink RX13 7 "HighRecipesLaw$Act" "signs" "[I") (by decide +kernel)) (fun _ h9 => h9) (v := .ref sg) rfl dX13_isSo_39 ?_
    refine lv_iload_n hx hb dX13_isSo_42 rfl (lv_at hl 2 rfl) ?_
    refine q_iald hx hb hA hW h1 (vp_in_nI (n := 1) (by decide) (by decide)) dX13_isSo_43 ?_
    rw [show gs (1 : Int32).toNatClampNeg = 0 from hgs1]
    refine lv_if_ne (tgt := 62) hx hb dX13_isSo_44 (by decide) (fun c_44 => absurd c_44 (by decide)) (fun c_44 => ?_)
    refine lv_iload hx hb dX13_isSo_47 (lv_at hl 1 rfl) ?_
    refine lv_iload hx hb dX13_isSo_49 (lv_at hl 0 rfl) ?_
    refine lv_icmp_ge (tgt := 58) hx hb dX13_isSo_51 (by decide) (fun c_51 => ?_) (fun c_51 => ?_)
    · refine lv_iconst (v := 0) hx hb dX13_isSo_58 (by decide) ?_
      refine lv_goto (tgt := 99) hx hb dX13_isSo_59 (by decide) ?_
      refine lv_iand hx hb dX13_isSo_99 ?_
      rw [show (w01 (c_cmp 30 (D0 hd v) (E0 hd v) && true) : Int32) &&& 0 = w01 (c_cmp 30 (D1 hd v) (E1 hd v) && (c_cmp 30 (D0 hd v) (E0 hd v) && true)) from w01_and2 rfl (w01_f (by show decide ((D1 hd v) < (E1 hd v)) = _; exact (decide_eq_false (Int32.not_lt.mpr c_51))))]
      refine lv_istore_n (lv' := [(2, .int (w01 (c_cmp 30 (D1 hd v) (E1 hd v) && (c_cmp 30 (D0 hd v) (E0 hd v) && true)))), (5, .int (E1 hd v)), (4, .int (D1 hd v)), (3, .int 1), (0, .ref a), (1, .ref k)]) hx hb dX13_isSo_100 rfl hl (by decide) rfl (fun ls hl => ?_)
      refine lv_iinc (v := 2) (lv' := [(3, .int 2), (2, .int (w01 (c_cmp 30 (D1 hd v) (E1 hd v) && (c_cmp 30 (D0 hd v) (E0 hd v) && true)))), (5, .int (E1 hd v)), (4, .int (D1 hd v)), (0, .ref a), (1, .ref k)]) hx hb dX13_isSo_101 hl (k := 3) rfl (by decide) (by decide) rfl (fun ls hl => ?_)
      refine lv_goto (tgt := 4) hx hb dX13_isSo_104 (by decide) ?_
      refine lv_iload_n hx hb dX13_isSo_4 rfl (lv_at hl 0 rfl) ?_
      refine lv_aload_n hx hb dX13_isSo_5 rfl (lv_at hl 4 rfl) ?_
      refine q_get hx hb hts hown hA hW iX13 h0 rfl 3 (by decide) (hts (.fieldLink RX13 7 "HighRecipesLaw$Act" "signs" "[I") (by decide +kernel)) (fun _ h9 => h9) (v := .ref sg) rfl dX13_isSo_6 ?_
      refine q_alen hx hb hA hW 0 rfl h1 (v := 2) rfl dX13_isSo_9 ?_
      refine lv_icmp_ge (tgt := 107) hx hb dX13_isSo_10 (by decide) (fun c_10 => ?_) (fun c_10 => absurd c_10 (by decide))
      refine lv_iload_n hx hb dX13_isSo_107 rfl (lv_at hl 1 rfl) ?_
      exact q_zret hx hb hr hlocks hW hS (by unfold w01; split <;> rfl) ⟨rfl, rfl, rfl⟩ (Nat.le_of_ble_eq_true rfl) (Nat.le_of_ble_eq_true rfl) dX13_isSo_108
    · refine lv_iconst (v := 1) hx hb dX13_isSo_54 (by decide) ?_
      refine lv_goto (tgt := 99) hx hb dX13_isSo_55 (by decide) ?_
      refine lv_iand hx hb dX13_isSo_99 ?_
      rw [show (w01 (c_cmp 30 (D0 hd v) (E0 hd v) && true) : Int32) &&& 1 = w01 (c_cmp 30 (D1 hd v) (E1 hd v) && (c_cmp 30 (D0 hd v) (E0 hd v) && true)) from w01_and2 rfl (w01_t (by show decide ((D1 hd v) < (E1 hd v)) = _; exact (decide_eq_true (Int32.not_le.mp c_51))))]
      refine lv_istore_n (lv' := [(2, .int (w01 (c_cmp 30 (D1 hd v) (E1 hd v) && (c_cmp 30 (D0 hd v) (E0 hd v) && true)))), (5, .int (E1 hd v)), (4, .int (D1 hd v)), (3, .int 1), (0, .ref a), (1, .ref k)]) hx hb dX13_isSo_100 rfl hl (by decide) rfl (fun ls hl => ?_)
      refine lv_iinc (v := 2) (lv' := [(3, .int 2), (2, .int (w01 (c_cmp 30 (D1 hd v) (E1 hd v) && (c_cmp 30 (D0 hd v) (E0 hd v) && true)))), (5, .int (E1 hd v)), (4, .int (D1 hd v)), (0, .ref a), (1, .ref k)]) hx hb dX13_isSo_101 hl (k := 3) rfl (by decide) (by decide) rfl (fun ls hl => ?_)
      refine lv_goto (tgt := 4) hx hb dX13_isSo_104 (by decide) ?_
      refine lv_iload_n hx hb dX13_isSo_4 rfl (lv_at hl 0 rfl) ?_
      refine lv_aload_n hx hb dX13_isSo_5 rfl (lv_at hl 4 rfl) ?_
      refine q_get hx hb hts hown hA hW iX13 h0 rfl 3 (by decide) (hts (.fieldLink RX13 7 "HighRecipesLaw$Act" "signs" "[I") (by decide +kernel)) (fun _ h9 => h9) (v := .ref sg) rfl dX13_isSo_6 ?_
      refine q_alen hx hb hA hW 0 rfl h1 (v := 2) rfl dX13_isSo_9 ?_
      refine lv_icmp_ge (tgt := 107) hx hb dX13_isSo_10 (by decide) (fun c_10 => ?_) (fun c_10 => absurd c_10 (by decide))
      refine lv_iload_n hx hb dX13_isSo_107 rfl (lv_at hl 1 rfl) ?_
      exact q_zret hx hb hr hlocks hW hS (by unfold w01; split <;> rfl) ⟨rfl, rfl, rfl⟩ (Nat.le_of_ble_eq_true rfl) (Nat.le_of_ble_eq_true rfl) dX13_isSo_108

set_option maxHeartbeats 4000000 in
set_option maxRecDepth 100000 in
theorem kX13_isSo_01 (l : Launch) (E : q_E) (f : q_H) (n : Nat) (k pa re ki wa no pn : Nat) (pr : Nat → Nat) (hd v : q_V) (b : Nat) (w : Int32) (a sg on ot : Nat) (a0 c0 : Nat) (D0 E0 : q_D) (W0 Y0 : List Int32) (a1 c1 : Nat) (D1 E1 : q_D) (W1 Y1 : List Int32) (do_ wh : Int32) (va bl el : Option Nat) (P : Nat → Prop) (gs : Nat → Int32) (go gt : Nat → Option Nat) (h0 : f a = some (cLA do_ wh va (some sg) (some on) (some ot) bl el)) (h1 : f sg = some (aI E 2 gs)) (h2 : f on = some (aQ E 7 2 go)) (h3 : f ot = some (aQ E 7 2 gt)) (hgs0 : gs 0 = 0) (hgo0 : go 0 = some a0) (hgt0 : gt 0 = some c0) (hM0 : NODE pn P f 0 a0 D0 W0) (hQ0 : NODE pn P f 0 c0 E0 Y0) (hgs1 : gs 1 = 1) (hgo1 : go 1 = some a1) (hgt1 : gt 1 = some c1) (hM1 : NODE pn P f 0 a1 D1 W1) (hQ1 : NODE pn P f 0 c1 E1 Y1) (hpn : pn ≤ 8) (hK : LK E f k pa re ki wa no pn pr hd v b w) : Met l yX13_isSo wsX13_isSo ({ frames := 6, cells := 0, slots := 0, locals := 300 }) (q_P E [.ref a, .ref k] f n) (q_Qi E (fun r f1 n1 => w01 (c_cmp 31 (D1 hd v) (E1 hd v) && (c_cmp 30 (D0 hd v) (E0 hd v) && true)) = r ∧ f = f1 ∧ n = n1)) 0 0 (q_ge E) := by
  refine Met.ofW (cc := cX13_isSo) (maxL := 6) (ret := (some .boolean)) (by decide) rfl ?_
  intro p0_ e0_ s0_ m0_ args0_ below0_ meth0_ c0_ s1_ B hml hv
  obtain ⟨rfl, hA, hW⟩ := hv
  have hx := B.exec
  have hb := B.bytes
  have hr := B.returns
  have hts := atoms_spec (ws := wsX13_isSo) B.pre
  have hown : s0_.vm.findClass RX13 = some m0_.cls := findClass_of_methodNamed B.named
  have hlocks := B.notSynchronized
  have hS : va_S (q_ge E) s0_.heap s0_.heap [] := va_S.rf
  have iX13 : ∀ w ∈ wsX130, w ∈ wsX13_isSo := by decide +kernel
  have hl := lv_entry ([.ref a, .ref k]) (n := 6) (Nat.le_of_ble_eq_true rfl)
  rw [lg_entry_eq]
  generalize (lg_sl ([.ref a, .ref k]) ++ List.replicate (6 - (lg_sl ([.ref a, .ref k])).length) Slot.unset).toArray = ls at hl ⊢
  have hl : lv_has ls 6 [(0, .ref a), (1, .ref k)] := hl
  obtain ⟨hk0, ⟨gk, hki, hkv⟩, ⟨gw, hwa, hwv⟩, ⟨gn, hno, hnv⟩, ⟨gp, hpa, hpv⟩, hrow⟩ := id hK
  have l_k := hW.lt hk0
  have l_ki := hW.lt hki
  have l_wa := hW.lt hwa
  have l_no := hW.lt hno
  have l_pa := hW.lt hpa
  obtain ⟨-, so0, ka0, xa0, ya0, hca0⟩ := hM0.cell
  obtain ⟨-, sp0, kc0, xc0, yc0, hcc0⟩ := hQ0.cell
  obtain ⟨-, so1, ka1, xa1, ya1, hca1⟩ := hM1.cell
  obtain ⟨-, sp1, kc1, xc1, yc1, hcc1⟩ := hQ1.cell
  refine lv_iconst (v := 1) hx hb dX13_isSo_0 (by decide) ?_
  refine lv_istore_n (lv' := [(2, .int 1), (0, .ref a), (1, .ref k)]) hx hb dX13_isSo_1 rfl hl (by decide) rfl (fun ls hl => ?_)
  refine lv_iconst (v := 0) hx hb dX13_isSo_2 (by decide) ?_
  refine lv_istore_n (lv' := [(3, .int 0), (2, .int 1), (0, .ref a), (1, .ref k)]) hx hb dX13_isSo_3 rfl hl (by decide) rfl (fun ls hl => ?_)
  refine lv_iload_n hx hb dX13_isSo_4 rfl (lv_at hl 0 rfl) ?_
  refine lv_aload_n hx hb dX13_isSo_5 rfl (lv_at hl 2 rfl) ?_
  refine q_get hx hb hts hown hA hW iX13 h0 rfl 3 (by decide) (hts (.fieldLink RX13 7 "HighRecipesLaw$Act" "signs" "[I") (by decide +kernel)) (fun _ h9 => h9) (v := .ref sg) rfl dX13_isSo_6 ?_
  refine q_alen hx hb hA hW 0 rfl h1 (v := 2) rfl dX13_isSo_9 ?_
  refine lv_icmp_ge (tgt := 107) hx hb dX13_isSo_10 (by decide) (fun c_10 => absurd c_10 (by decide)) (fun c_10 => ?_)
  refine lv_aload_n hx hb dX13_isSo_13 rfl (lv_at hl 2 rfl) ?_
  refine q_get hx hb hts hown hA hW iX13 h0 rfl 4 (by decide) (hts (.fieldLink RX13 15 "HighRecipesLaw$Act" "ones" "[LHighRecipesLaw$Node;") (by decide +kernel)) (fun _ h9 => h9) (v := .ref on) rfl dX13_isSo_14 ?_
  refine lv_iload_n hx hb dX13_isSo_17 rfl (lv_at hl 0 rfl) ?_
  refine q_aald hx hb hA hW 7 rfl h2 (vp_in_nI (n := 0) (by decide) (by decide)) dX13_isSo_18 ?_
  rw [show go (0 : Int32).toNatClampNeg = some a0 from hgo0]
  refine lv_aload_n hx hb dX13_isSo_19 rfl (lv_at hl 3 rfl) ?_
  refine q_ci (va_runV (As := [.ref k]) (rest := []) ⟨hx, hb, hml, hown, hts⟩ (kX16_value_0 l E f n k pa re ki wa no pn pr hd v b w a0 P D0 W0 hM0 hpn hK) (cwV 1 hts gX13_isSo_X16_value rfl rfl rfl (by decide +kernel) ⟨(Nat.le_of_ble_eq_true rfl), (Nat.le_of_ble_eq_true rfl)⟩) (q_pV hA hW hS (ci := 16) rfl hca0) rfl rfl hl.1 rfl (lv_room (Nat.le_of_ble_eq_true rfl)) dX13_isSo_20 ⟨(Nat.le_of_ble_eq_true rfl), (Nat.le_of_ble_eq_true rfl)⟩) hS (fun r_20 f_20 n_20 H locs hp hW hS => ?_)
  obtain ⟨rfl, rfl, rfl⟩ := hp
  have hW : q_W E (f) n H := hW
  refine lv_istore (lv' := [(4, .int (D0 hd v)), (3, .int 0), (2, .int 1), (0, .ref a), (1, .ref k)]) hx hb dX13_isSo_23 hl (by decide) rfl (fun ls hl => ?_)
  refine lv_aload_n hx hb dX13_isSo_25 rfl (lv_at hl 3 rfl) ?_
  refine q_get hx hb hts hown hA hW iX13 h0 rfl 5 (by decide) (hts (.fieldLink RX13 19 "HighRecipesLaw$Act" "others" "[LHighRecipesLaw$Node;") (by decide +kernel)) (fun _ h9 => h9) (v := .ref ot) rfl dX13_isSo_26 ?_
  refine lv_iload_n hx hb dX13_isSo_29 rfl (lv_at hl 1 rfl) ?_
  refine q_aald hx hb hA hW 7 rfl h3 (vp_in_nI (n := 0) (by decide) (by decide)) dX13_isSo_30 ?_
  rw [show gt (0 : Int32).toNatClampNeg = some c0 from hgt0]
  refine lv_aload_n hx hb dX13_isSo_31 rfl (lv_at hl 4 rfl) ?_
  refine q_ci (va_runV (As := [.ref k]) (rest := []) ⟨hx, hb, hml, hown, hts⟩ (kX16_value_0 l E f n k pa re ki wa no pn pr hd v b w c0 P E0 Y0 hQ0 hpn hK) (cwV 1 hts gX13_isSo_X16_value rfl rfl rfl (by decide +kernel) ⟨(Nat.le_of_ble_eq_true rfl), (Nat.le_of_ble_eq_true rfl)⟩) (q_pV hA hW hS (ci := 16) rfl hcc0) rfl rfl hl.1 rfl (lv_room (Nat.le_of_ble_eq_true rfl)) dX13_isSo_32 ⟨(Nat.le_of_ble_eq_true rfl), (Nat.le_of_ble_eq_true rfl)⟩) hS (fun r_32 f_32 n_32 H locs hp hW hS => ?_)
  obtain ⟨rfl, rfl, rfl⟩ := hp
  have hW : q_W E (f) n H := hW
  refine lv_istore (lv' := [(5, .int (E0 hd v)), (4, .int (D0 hd v)), (3, .int 0), (2, .int 1), (0, .ref a), (1, .ref k)]) hx hb dX13_isSo_35 hl (by decide) rfl (fun ls hl => ?_)
  refine lv_iload_n hx hb dX13_isSo_37 rfl (lv_at hl 3 rfl) ?_
  refine lv_aload_n hx hb dX13_isSo_38 rfl (lv_at hl 4 rfl) ?_
  refine q_get hx hb hts hown hA hW iX13 h0 rfl 3 (by decide) (hts (.fieldLink RX13 7 "HighRecipesLaw$Act" "signs" "[I") (by decide +kernel)) (fun _ h9 => h9) (v := .ref sg) rfl dX13_isSo_39 ?_
  refine lv_iload_n hx hb dX13_isSo_42 rfl (lv_at hl 2 rfl) ?_
  refine q_iald hx hb hA hW h1 (vp_in_nI (n := 0) (by decide) (by decide)) dX13_isSo_43 ?_
  rw [show gs (0 : Int32).toNatClampNeg = 0 from hgs0]
  refine lv_if_ne (tgt := 62) hx hb dX13_isSo_44 (by decide) (fun c_44 => absurd c_44 (by decide)) (fun c_44 => ?_)
  refine lv_iload hx hb dX13_isSo_47 (lv_at hl 1 rfl) ?_
  refine lv_iload hx hb dX13_isSo_49 (lv_at hl 0 rfl) ?_
  refine lv_icmp_ge (tgt := 58) hx hb dX13_isSo_51 (by decide) (fun c_51 => ?_) (fun c_51 => ?_)
  · refine lv_iconst (v := 0) hx hb dX13_isSo_58 (by decide) ?_
    refine lv_goto (tgt := 99) hx hb dX13_isSo_59 (by decide) ?_
    refine lv_iand hx hb dX13_isSo_99 ?_
    rw [show (1 : Int32) &&& 0 = w01 (c_cmp 30 (D0 hd v) (E0 hd v) && true) from w01_and2 rfl (w01_f (by show decide ((D0 hd v) < (E0 hd v)) = _; exact (decide_eq_false (Int32.not_lt.mpr c_51))))]
    refine lv_istore_n (lv' := [(2, .int (w01 (c_cmp 30 (D0 hd v) (E0 hd v) && true))), (5, .int (E0 hd v)), (4, .int (D0 hd v)), (3, .int 0), (0, .ref a), (1, .ref k)]) hx hb dX13_isSo_100 rfl hl (by decide) rfl (fun ls hl => ?_)
    refine lv_iinc (v := 1) (lv' := [(3, .int 1), (2, .int (w01 (c_cmp 30 (D0 hd v) (E0 hd v) && true))), (5, .int (E0 hd v)), (4, .int (D0 hd v)), (0, .ref a), (1, .ref k)]) hx hb dX13_isSo_101 hl (k := 3) rfl (by decide) (by decide) rfl (fun ls hl => ?_)
    refine lv_goto (tgt := 4) hx hb dX13_isSo_104 (by decide) ?_
    refine lv_iload_n hx hb dX13_isSo_4 rfl (lv_at hl 0 rfl) ?_
    refine lv_aload_n hx hb dX13_isSo_5 rfl (lv_at hl 4 rfl) ?_
    refine q_get hx hb hts hown hA hW iX13 h0 rfl 3 (by decide) (hts (.fieldLink RX13 7 "HighRecipesLaw$Act" "signs" "[I") (by decide +kernel)) (fun _ h9 => h9) (v := .ref sg) rfl dX13_isSo_6 ?_
    refine q_alen hx hb hA hW 0 rfl h1 (v := 2) rfl dX13_isSo_9 ?_
    refine lv_icmp_ge (tgt := 107) hx hb dX13_isSo_10 (by decide) (fun c_10 => absurd c_10 (by decide)) (fun c_10 => ?_)
    refine lv_aload_n hx hb dX13_isSo_13 rfl (lv_at hl 4 rfl) ?_
    refine q_get hx hb hts hown hA hW iX13 h0 rfl 4 (by decide) (hts (.fieldLink RX13 15 "HighRecipesLaw$Act" "ones" "[LHighRecipesLaw$Node;") (by decide +kernel)) (fun _ h9 => h9) (v := .ref on) rfl dX13_isSo_14 ?_
    refine lv_iload_n hx hb dX13_isSo_17 rfl (lv_at hl 0 rfl) ?_
    refine q_aald hx hb hA hW 7 rfl h2 (vp_in_nI (n := 1) (by decide) (by decide)) dX13_isSo_18 ?_
    rw [show go (1 : Int32).toNatClampNeg = some a1 from hgo1]
    refine lv_aload_n hx hb dX13_isSo_19 rfl (lv_at hl 5 rfl) ?_
    refine q_ci (va_runV (As := [.ref k]) (rest := []) ⟨hx, hb, hml, hown, hts⟩ (kX16_value_0 l E f n k pa re ki wa no pn pr hd v b w a1 P D1 W1 hM1 hpn hK) (cwV 1 hts gX13_isSo_X16_value rfl rfl rfl (by decide +kernel) ⟨(Nat.le_of_ble_eq_true rfl), (Nat.le_of_ble_eq_true rfl)⟩) (q_pV hA hW hS (ci := 16) rfl hca1) rfl rfl hl.1 rfl (lv_room (Nat.le_of_ble_eq_true rfl)) dX13_isSo_20 ⟨(Nat.le_of_ble_eq_true rfl), (Nat.le_of_ble_eq_true rfl)⟩) hS (fun r_20x1 f_20x1 n_20x1 H locs hp hW hS => ?_)
    obtain ⟨rfl, rfl, rfl⟩ := hp
    have hW : q_W E (f) n H := hW
    refine lv_istore (lv' := [(4, .int (D1 hd v)), (3, .int 1), (2, .int (w01 (c_cmp 30 (D0 hd v) (E0 hd v) && true))), (5, .int (E0 hd v)), (0, .ref a), (1, .ref k)]) hx hb dX13_isSo_23 hl (by decide) rfl (fun ls hl => ?_)
    refine lv_aload_n hx hb dX13_isSo_25 rfl (lv_at hl 4 rfl) ?_
    refine q_get hx hb hts hown hA hW iX13 h0 rfl 5 (by decide) (hts (.fieldLink RX13 19 "HighRecipesLaw$Act" "others" "[LHighRecipesLaw$Node;") (by decide +kernel)) (fun _ h9 => h9) (v := .ref ot) rfl dX13_isSo_26 ?_
    refine lv_iload_n hx hb dX13_isSo_29 rfl (lv_at hl 1 rfl) ?_
    refine q_aald hx hb hA hW 7 rfl h3 (vp_in_nI (n := 1) (by decide) (by decide)) dX13_isSo_30 ?_
    rw [show gt (1 : Int32).toNatClampNeg = some c1 from hgt1]
    refine lv_aload_n hx hb dX13_isSo_31 rfl (lv_at hl 5 rfl) ?_
    refine q_ci (va_runV (As := [.ref k]) (rest := []) ⟨hx, hb, hml, hown, hts⟩ (kX16_value_0 l E f n k pa re ki wa no pn pr hd v b w c1 P E1 Y1 hQ1 hpn hK) (cwV 1 hts gX13_isSo_X16_value rfl rfl rfl (by decide +kernel) ⟨(Nat.le_of_ble_eq_true rfl), (Nat.le_of_ble_eq_true rfl)⟩) (q_pV hA hW hS (ci := 16) rfl hcc1) rfl rfl hl.1 rfl (lv_room (Nat.le_of_ble_eq_true rfl)) dX13_isSo_32 ⟨(Nat.le_of_ble_eq_true rfl), (Nat.le_of_ble_eq_true rfl)⟩) hS (fun r_32x1 f_32x1 n_32x1 H locs hp hW hS => ?_)
    obtain ⟨rfl, rfl, rfl⟩ := hp
    have hW : q_W E (f) n H := hW
    refine lv_istore (lv' := [(5, .int (E1 hd v)), (4, .int (D1 hd v)), (3, .int 1), (2, .int (w01 (c_cmp 30 (D0 hd v) (E0 hd v) && true))), (0, .ref a), (1, .ref k)]) hx hb dX13_isSo_35 hl (by decide) rfl (fun ls hl => ?_)
    refine lv_iload_n hx hb dX13_isSo_37 rfl (lv_at hl 3 rfl) ?_
    refine lv_aload_n hx hb dX13_isSo_38 rfl (lv_at hl 4 rfl) ?_
    refine q_get hx hb hts hown hA hW iX13 h0 rfl 3 (by decide) (hts (.fieldLink RX13 7 "HighRecipesLaw$Act" "signs" "[I") (by decide +kernel)) (fun _ h9 => h9) (v := .ref sg) rfl dX13_isSo_39 ?_
    refine lv_iload_n hx hb dX13_isSo_42 rfl (lv_at hl 2 rfl) ?_
    refine q_iald hx hb hA hW h1 (vp_in_nI (n := 1) (by decide) (by decide)) dX13_isSo_43 ?_
    rw [show gs (1 : Int32).toNatClampNeg = 1 from hgs1]
    refine lv_if_ne (tgt := 62) hx hb dX13_isSo_44 (by decide) (fun c_44 => ?_) (fun c_44 => absurd c_44 (by decide))
    refine lv_aload_n hx hb dX13_isSo_62 rfl (lv_at hl 4 rfl) ?_
    refine q_get hx hb hts hown hA hW iX13 h0 rfl 3 (by decide) (hts (.fieldLink RX13 7 "HighRecipesLaw$Act" "signs" "[I") (by decide +kernel)) (fun _ h9 => h9) (v := .ref sg) rfl dX13_isSo_63 ?_
    refine lv_iload_n hx hb dX13_isSo_66 rfl (lv_at hl 2 rfl) ?_
    refine q_iald hx hb hA hW h1 (vp_in_nI (n := 1) (by decide) (by decide)) dX13_isSo_67 ?_
    rw [show gs (1 : Int32).toNatClampNeg = 1 from hgs1]
    refine lv_iconst (v := 1) hx hb dX13_isSo_68 (by decide) ?_
    refine lv_icmp_ne (tgt := 87) hx hb dX13_isSo_69 (by decide) (fun c_69 => absurd c_69 (by decide)) (fun c_69 => ?_)
    refine lv_iload hx hb dX13_isSo_72 (lv_at hl 1 rfl) ?_
    refine lv_iload hx hb dX13_isSo_74 (lv_at hl 0 rfl) ?_
    refine lv_icmp_le (tgt := 83) hx hb dX13_isSo_76 (by decide) (fun c_76 => ?_) (fun c_76 => ?_)
    · refine lv_iconst (v := 0) hx hb dX13_isSo_83 (by decide) ?_
      refine lv_goto (tgt := 99) hx hb dX13_isSo_84 (by decide) ?_
      refine lv_iand hx hb dX13_isSo_99 ?_
      rw [show (w01 (c_cmp 30 (D0 hd v) (E0 hd v) && true) : Int32) &&& 0 = w01 (c_cmp 31 (D1 hd v) (E1 hd v) && (c_cmp 30 (D0 hd v) (E0 hd v) && true)) from w01_and2 rfl (w01_f (by show decide ((E1 hd v) < (D1 hd v)) = _; exact (decide_eq_false (Int32.not_lt.mpr c_76))))]
      refine lv_istore_n (lv' := [(2, .int (w01 (c_cmp 31 (D1 hd v) (E1 hd v) && (c_cmp 30 (D0 hd v) (E0 hd v) && true)))), (5, .int (E1 hd v)), (4, .int (D1 hd v)), (3, .int 1), (0, .ref a), (1, .ref k)]) hx hb dX13_isSo_100 rfl hl (by decide) rfl (fun ls hl => ?_)
      refine lv_iinc (v := 2) (lv' := [(3, .int 2), (2, .int (w01 (c_cmp 31 (D1 hd v) (E1 hd v) && (c_cmp 30 (D0 hd v) (E0 hd v) && true)))), (5, .int (E1 hd v)), (4, .int (D1 hd v)), (0, .ref a), (1, .ref k)]) hx hb dX13_isSo_101 hl (k := 3) rfl (by decide) (by decide) rfl (fun ls hl => ?_)
      refine lv_goto (tgt := 4) hx hb dX13_isSo_104 (by decide) ?_
      refine lv_iload_n hx hb dX13_isSo_4 rfl (lv_at hl 0 rfl) ?_
      refine lv_aload_n hx hb dX13_isSo_5 rfl (lv_at hl 4 rfl) ?_
      refine q_get hx hb hts hown hA hW iX13 h0 rfl 3 (by decide) (hts (.fieldLink RX13 7 "HighRecipesLaw$Act" "signs" "[I") (by decide +kernel)) (fun _ h9 => h9) (v := .ref sg) rfl dX13_isSo_6 ?_
      refine q_alen hx hb hA hW 0 rfl h1 (v := 2) rfl dX13_isSo_9 ?_
      refine lv_icmp_ge (tgt := 107) hx hb dX13_isSo_10 (by decide) (fun c_10 => ?_) (fun c_10 => absurd c_10 (by decide))
      refine lv_iload_n hx hb dX13_isSo_107 rfl (lv_at hl 1 rfl) ?_
      exact q_zret hx hb hr hlocks hW hS (by unfold w01; split <;> rfl) ⟨rfl, rfl, rfl⟩ (Nat.le_of_ble_eq_true rfl) (Nat.le_of_ble_eq_true rfl) dX13_isSo_108
    · refine lv_iconst (v := 1) hx hb dX13_isSo_79 (by decide) ?_
      refine lv_goto (tgt := 99) hx hb dX13_isSo_80 (by decide) ?_
      refine lv_iand hx hb dX13_isSo_99 ?_
      rw [show (w01 (c_cmp 30 (D0 hd v) (E0 hd v) && true) : Int32) &&& 1 = w01 (c_cmp 31 (D1 hd v) (E1 hd v) && (c_cmp 30 (D0 hd v) (E0 hd v) && true)) from w01_and2 rfl (w01_t (by show decide ((E1 hd v) < (D1 hd v)) = _; exact (decide_eq_true (Int32.not_le.mp c_76))))]
      refine lv_istore_n (lv' := [(2, .int (w01 (c_cmp 31 (D1 hd v) (E1 hd v) && (c_cmp 30 (D0 hd v) (E0 hd v) && true)))), (5, .int (E1 hd v)), (4, .int (D1 hd v)), (3, .int 1), (0, .ref a), (1, .ref k)]) hx hb dX13_isSo_100 rfl hl (by decide) rfl (fun ls hl => ?_)
      refine lv_iinc (v := 2) (lv' := [(3, .int 2), (2, .int (w01 (c_cmp 31 (D1 hd v) (E1 hd v) && (c_cmp 30 (D0 hd v) (E0 hd v) && true)))), (5, .int (E1 hd v)), (4, .int (D1 hd v)), (0, .ref a), (1, .ref k)]) hx hb dX13_isSo_101 hl (k := 3) rfl (by decide) (by decide) rfl (fun ls hl => ?_)
      refine lv_goto (tgt := 4) hx hb dX13_isSo_104 (by decide) ?_
      refine lv_iload_n hx hb dX13_isSo_4 rfl (lv_at hl 0 rfl) ?_
      refine lv_aload_n hx hb dX13_isSo_5 rfl (lv_at hl 4 rfl) ?_
      refine q_get hx hb hts hown hA hW iX13 h0 rfl 3 (by decide) (hts (.fieldLink RX13 7 "HighRecipesLaw$Act" "signs" "[I") (by decide +kernel)) (fun _ h9 => h9) (v := .ref sg) rfl dX13_isSo_6 ?_
      refine q_alen hx hb hA hW 0 rfl h1 (v := 2) rfl dX13_isSo_9 ?_
      refine lv_icmp_ge (tgt := 107) hx hb dX13_isSo_10 (by decide) (fun c_10 => ?_) (fun c_10 => absurd c_10 (by decide))
      refine lv_iload_n hx hb dX13_isSo_107 rfl (lv_at hl 1 rfl) ?_
      exact q_zret hx hb hr hlocks hW hS (by unfold w01; split <;> rfl) ⟨rfl, rfl, rfl⟩ (Nat.le_of_ble_eq_true rfl) (Nat.le_of_ble_eq_true rfl) dX13_isSo_108
  · refine lv_iconst (v := 1) hx hb dX13_isSo_54 (by decide) ?_
    refine lv_goto (tgt := 99) hx hb dX13_isSo_55 (by decide) ?_
    refine lv_iand hx hb dX13_isSo_99 ?_
    rw [show (1 : Int32) &&& 1 = w01 (c_cmp 30 (D0 hd v) (E0 hd v) && true) from w01_and2 rfl (w01_t (by show decide ((D0 hd v) < (E0 hd v)) = _; exact (decide_eq_true (Int32.not_le.mp c_51))))]
    refine lv_istore_n (lv' := [(2, .int (w01 (c_cmp 30 (D0 hd v) (E0 hd v) && true))), (5, .int (E0 hd v)), (4, .int (D0 hd v)), (3, .int 0), (0, .ref a), (1, .ref k)]) hx hb dX13_isSo_100 rfl hl (by decide) rfl (fun ls hl => ?_)
    refine lv_iinc (v := 1) (lv' := [(3, .int 1), (2, .int (w01 (c_cmp 30 (D0 hd v) (E0 hd v) && true))), (5, .int (E0 hd v)), (4, .int (D0 hd v)), (0, .ref a), (1, .ref k)]) hx hb dX13_isSo_101 hl (k := 3) rfl (by decide) (by decide) rfl (fun ls hl => ?_)
    refine lv_goto (tgt := 4) hx hb dX13_isSo_104 (by decide) ?_
    refine lv_iload_n hx hb dX13_isSo_4 rfl (lv_at hl 0 rfl) ?_
    refine lv_aload_n hx hb dX13_isSo_5 rfl (lv_at hl 4 rfl) ?_
    refine q_get hx hb hts hown hA hW iX13 h0 rfl 3 (by decide) (hts (.fieldLink RX13 7 "HighRecipesLaw$Act" "signs" "[I") (by decide +kernel)) (fun _ h9 => h9) (v := .ref sg) rfl dX13_isSo_6 ?_
    refine q_alen hx hb hA hW 0 rfl h1 (v := 2) rfl dX13_isSo_9 ?_
    refine lv_icmp_ge (tgt := 107) hx hb dX13_isSo_10 (by decide) (fun c_10 => absurd c_10 (by decide)) (fun c_10 => ?_)
    refine lv_aload_n hx hb dX13_isSo_13 rfl (lv_at hl 4 rfl) ?_
    refine q_get hx hb hts hown hA hW iX13 h0 rfl 4 (by decide) (hts (.fieldLink RX13 15 "HighRecipesLaw$Act" "ones" "[LHighRecipesLaw$Node;") (by decide +kernel)) (fun _ h9 => h9) (v := .ref on) rfl dX13_isSo_14 ?_
    refine lv_iload_n hx hb dX13_isSo_17 rfl (lv_at hl 0 rfl) ?_
    refine q_aald hx hb hA hW 7 rfl h2 (vp_in_nI (n := 1) (by decide) (by decide)) dX13_isSo_18 ?_
    rw [show go (1 : Int32).toNatClampNeg = some a1 from hgo1]
    refine lv_aload_n hx hb dX13_isSo_19 rfl (lv_at hl 5 rfl) ?_
    refine q_ci (va_runV (As := [.ref k]) (rest := []) ⟨hx, hb, hml, hown, hts⟩ (kX16_value_0 l E f n k pa re ki wa no pn pr hd v b w a1 P D1 W1 hM1 hpn hK) (cwV 1 hts gX13_isSo_X16_value rfl rfl rfl (by decide +kernel) ⟨(Nat.le_of_ble_eq_true rfl), (Nat.le_of_ble_eq_true rfl)⟩) (q_pV hA hW hS (ci := 16) rfl hca1) rfl rfl hl.1 rfl (lv_room (Nat.le_of_ble_eq_true rfl)) dX13_isSo_20 ⟨(Nat.le_of_ble_eq_true rfl), (Nat.le_of_ble_eq_true rfl)⟩) hS (fun r_20x1 f_20x1 n_20x1 H locs hp hW hS => ?_)
    obtain ⟨rfl, rfl, rfl⟩ := hp
    have hW : q_W E (f) n H := hW
    refine lv_istore (lv' := [(4, .int (D1 hd v)), (3, .int 1), (2, .int (w01 (c_cmp 30 (D0 hd v) (E0 hd v) && true))), (5, .int (E0 hd v)), (0, .ref a), (1, .ref k)]) hx hb dX13_isSo_23 hl (by decide) rfl (fun ls hl => ?_)
    refine lv_aload_n hx hb dX13_isSo_25 rfl (lv_at hl 4 rfl) ?_
    refine q_get hx hb hts hown hA hW iX13 h0 rfl 5 (by decide) (hts (.fieldLink RX13 19 "HighRecipesLaw$Act" "others" "[LHighRecipesLaw$Node;") (by decide +kernel)) (fun _ h9 => h9) (v := .ref ot) rfl dX13_isSo_26 ?_
    refine lv_iload_n hx hb dX13_isSo_29 rfl (lv_at hl 1 rfl) ?_
    refine q_aald hx hb hA hW 7 rfl h3 (vp_in_nI (n := 1) (by decide) (by decide)) dX13_isSo_30 ?_
    rw [show gt (1 : Int32).toNatClampNeg = some c1 from hgt1]
    refine lv_aload_n hx hb dX13_isSo_31 rfl (lv_at hl 5 rfl) ?_
    refine q_ci (va_runV (As := [.ref k]) (rest := []) ⟨hx, hb, hml, hown, hts⟩ (kX16_value_0 l E f n k pa re ki wa no pn pr hd v b w c1 P E1 Y1 hQ1 hpn hK) (cwV 1 hts gX13_isSo_X16_value rfl rfl rfl (by decide +kernel) ⟨(Nat.le_of_ble_eq_true rfl), (Nat.le_of_ble_eq_true rfl)⟩) (q_pV hA hW hS (ci := 16) rfl hcc1) rfl rfl hl.1 rfl (lv_room (Nat.le_of_ble_eq_true rfl)) dX13_isSo_32 ⟨(Nat.le_of_ble_eq_true rfl), (Nat.le_of_ble_eq_true rfl)⟩) hS (fun r_32x1 f_32x1 n_32x1 H locs hp hW hS => ?_)
    obtain ⟨rfl, rfl, rfl⟩ := hp
    have hW : q_W E (f) n H := hW
    refine lv_istore (lv' := [(5, .int (E1 hd v)), (4, .int (D1 hd v)), (3, .int 1), (2, .int (w01 (c_cmp 30 (D0 hd v) (E0 hd v) && true))), (0, .ref a), (1, .ref k)]) hx hb dX13_isSo_35 hl (by decide) rfl (fun ls hl => ?_)
    refine lv_iload_n hx hb dX13_isSo_37 rfl (lv_at hl 3 rfl) ?_
    refine lv_aload_n hx hb dX13_isSo_38 rfl (lv_at hl 4 rfl) ?_
    refine q_get hx hb hts hown hA hW iX13 h0 rfl 3 (by decide) (hts (.fieldLink RX13 7 "HighRecipesLaw$Act" "signs" "[I") (by decide +kernel)) (fun _ h9 => h9) (v := .ref sg) rfl dX13_isSo_39 ?_
    refine lv_iload_n hx hb dX13_isSo_42 rfl (lv_at hl 2 rfl) ?_
    refine q_iald hx hb hA hW h1 (vp_in_nI (n := 1) (by decide) (by decide)) dX13_isSo_43 ?_
    rw [show gs (1 : Int32).toNatClampNeg = 1 from hgs1]
    refine lv_if_ne (tgt := 62) hx hb dX13_isSo_44 (by decide) (fun c_44 => ?_) (fun c_44 => absurd c_44 (by decide))
    refine lv_aload_n hx hb dX13_isSo_62 rfl (lv_at hl 4 rfl) ?_
    refine q_get hx hb hts hown hA hW iX13 h0 rfl 3 (by decide) (hts (.fieldLink RX13 7 "HighRecipesLaw$Act" "signs" "[I") (by decide +kernel)) (fun _ h9 => h9) (v := .ref sg) rfl dX13_isSo_63 ?_
    refine lv_iload_n hx hb dX13_isSo_66 rfl (lv_at hl 2 rfl) ?_
    refine q_iald hx hb hA hW h1 (vp_in_nI (n := 1) (by decide) (by decide)) dX13_isSo_67 ?_
    rw [show gs (1 : Int32).toNatClampNeg = 1 from hgs1]
    refine lv_iconst (v := 1) hx hb dX13_isSo_68 (by decide) ?_
    refine lv_icmp_ne (tgt := 87) hx hb dX13_isSo_69 (by decide) (fun c_69 => absurd c_69 (by decide)) (fun c_69 => ?_)
    refine lv_iload hx hb dX13_isSo_72 (lv_at hl 1 rfl) ?_
    refine lv_iload hx hb dX13_isSo_74 (lv_at hl 0 rfl) ?_
    refine lv_icmp_le (tgt := 83) hx hb dX13_isSo_76 (by decide) (fun c_76 => ?_) (fun c_76 => ?_)
    · refine lv_iconst (v := 0) hx hb dX13_isSo_83 (by decide) ?_
      refine lv_goto (tgt := 99) hx hb dX13_isSo_84 (by decide) ?_
      refine lv_iand hx hb dX13_isSo_99 ?_
      rw [show (w01 (c_cmp 30 (D0 hd v) (E0 hd v) && true) : Int32) &&& 0 = w01 (c_cmp 31 (D1 hd v) (E1 hd v) && (c_cmp 30 (D0 hd v) (E0 hd v) && true)) from w01_and2 rfl (w01_f (by show decide ((E1 hd v) < (D1 hd v)) = _; exact (decide_eq_false (Int32.not_lt.mpr c_76))))]
      refine lv_istore_n (lv' := [(2, .int (w01 (c_cmp 31 (D1 hd v) (E1 hd v) && (c_cmp 30 (D0 hd v) (E0 hd v) && true)))), (5, .int (E1 hd v)), (4, .int (D1 hd v)), (3, .int 1), (0, .ref a), (1, .ref k)]) hx hb dX13_isSo_100 rfl hl (by decide) rfl (fun ls hl => ?_)
      refine lv_iinc (v := 2) (lv' := [(3, .int 2), (2, .int (w01 (c_cmp 31 (D1 hd v) (E1 hd v) && (c_cmp 30 (D0 hd v) (E0 hd v) && true)))), (5, .int (E1 hd v)), (4, .int (D1 hd v)), (0, .ref a), (1, .ref k)]) hx hb dX13_isSo_101 hl (k := 3) rfl (by decide) (by decide) rfl (fun ls hl => ?_)
      refine lv_goto (tgt := 4) hx hb dX13_isSo_104 (by decide) ?_
      refine lv_iload_n hx hb dX13_isSo_4 rfl (lv_at hl 0 rfl) ?_
      refine lv_aload_n hx hb dX13_isSo_5 rfl (lv_at hl 4 rfl) ?_
      refine q_get hx hb hts hown hA hW iX13 h0 rfl 3 (by decide) (hts (.fieldLink RX13 7 "HighRecipesLaw$Act" "signs" "[I") (by decide +kernel)) (fun _ h9 => h9) (v := .ref sg) rfl dX13_isSo_6 ?_
      refine q_alen hx hb hA hW 0 rfl h1 (v := 2) rfl dX13_isSo_9 ?_
      refine lv_icmp_ge (tgt := 107) hx hb dX13_isSo_10 (by decide) (fun c_10 => ?_) (fun c_10 => absurd c_10 (by decide))
      refine lv_iload_n hx hb dX13_isSo_107 rfl (lv_at hl 1 rfl) ?_
      exact q_zret hx hb hr hlocks hW hS (by unfold w01; split <;> rfl) ⟨rfl, rfl, rfl⟩ (Nat.le_of_ble_eq_true rfl) (Nat.le_of_ble_eq_true rfl) dX13_isSo_108
    · refine lv_iconst (v := 1) hx hb dX13_isSo_79 (by decide) ?_
      refine lv_goto (tgt := 99) hx hb dX13_isSo_80 (by decide) ?_
      refine lv_iand hx hb dX13_isSo_99 ?_
      rw [show (w01 (c_cmp 30 (D0 hd v) (E0 hd v) && true) : Int32) &&& 1 = w01 (c_cmp 31 (D1 hd v) (E1 hd v) && (c_cmp 30 (D0 hd v) (E0 hd v) && true)) from w01_and2 rfl (w01_t (by show decide ((E1 hd v) < (D1 hd v)) = _; exact (decide_eq_true (Int32.not_le.mp c_76))))]
      refine lv_istore_n (lv' := [(2, .int (w01 (c_cmp 31 (D1 hd v) (E1 hd v) && (c_cmp 30 (D0 hd v) (E0 hd v) && true)))), (5, .int (E1 hd v)), (4, .int (D1 hd v)), (3, .int 1), (0, .ref a), (1, .ref k)]) hx hb dX13_isSo_100 rfl hl (by decide) rfl (fun ls hl => ?_)
      refine lv_iinc (v := 2) (lv' := [(3, .int 2), (2, .int (w01 (c_cmp 31 (D1 hd v) (E1 hd v) && (c_cmp 30 (D0 hd v) (E0 hd v) && true)))), (5, .int (E1 hd v)), (4, .int (D1 hd v)), (0, .ref a), (1, .ref k)]) hx hb dX13_isSo_101 hl (k := 3) rfl (by decide) (by decide) rfl (fun ls hl => ?_)
      refine lv_goto (tgt := 4) hx hb dX13_isSo_104 (by decide) ?_
      refine lv_iload_n hx hb dX13_isSo_4 rfl (lv_at hl 0 rfl) ?_
      refine lv_aload_n hx hb dX13_isSo_5 rfl (lv_at hl 4 rfl) ?_
      refine q_get hx hb hts hown hA hW iX13 h0 rfl 3 (by decide) (hts (.fieldLink RX13 7 "HighRecipesLaw$Act" "signs" "[I") (by decide +kernel)) (fun _ h9 => h9) (v := .ref sg) rfl dX13_isSo_6 ?_
      refine q_alen hx hb hA hW 0 rfl h1 (v := 2) rfl dX13_isSo_9 ?_
      refine lv_icmp_ge (tgt := 107) hx hb dX13_isSo_10 (by decide) (fun c_10 => ?_) (fun c_10 => absurd c_10 (by decide))
      refine lv_iload_n hx hb dX13_isSo_107 rfl (lv_at hl 1 rfl) ?_
      exact q_zret hx hb hr hlocks hW hS (by unfold w01; split <;> rfl) ⟨rfl, rfl, rfl⟩ (Nat.le_of_ble_eq_true rfl) (Nat.le_of_ble_eq_true rfl) dX13_isSo_108

set_option maxHeartbeats 4000000 in
set_option maxRecDepth 100000 in
theorem kX13_isSo_02 (l : Launch) (E : q_E) (f : q_H) (n : Nat) (k pa re ki wa no pn : Nat) (pr : Nat → Nat) (hd v : q_V) (b : Nat) (w : Int32) (a sg on ot : Nat) (a0 c0 : Nat) (D0 E0 : q_D) (W0 Y0 : List Int32) (a1 c1 : Nat) (D1 E1 : q_D) (W1 Y1 : List Int32) (do_ wh : Int32) (va bl el : Option Nat) (P : Nat → Prop) (gs : Nat → Int32) (go gt : Nat → Option Nat) (h0 : f a = some (cLA do_ wh va (some sg) (some on) (some ot) bl el)) (h1 : f sg = some (aI E 2 gs)) (h2 : f on = some (aQ E 7 2 go)) (h3 : f ot = some (aQ E 7 2 gt)) (hgs0 : gs 0 = 0) (hgo0 : go 0 = some a0) (hgt0 : gt 0 = some c0) (hM0 : NODE pn P f 0 a0 D0 W0) (hQ0 : NODE pn P f 0 c0 E0 Y0) (hgs1 : gs 1 = 2) (hgo1 : go 1 = some a1) (hgt1 : gt 1 = some c1) (hM1 : NODE pn P f 0 a1 D1 W1) (hQ1 : NODE pn P f 0 c1 E1 Y1) (hpn : pn ≤ 8) (hK : LK E f k pa re ki wa no pn pr hd v b w) : Met l yX13_isSo wsX13_isSo ({ frames := 6, cells := 0, slots := 0, locals := 300 }) (q_P E [.ref a, .ref k] f n) (q_Qi E (fun r f1 n1 => w01 (c_cmp 32 (D1 hd v) (E1 hd v) && (c_cmp 30 (D0 hd v) (E0 hd v) && true)) = r ∧ f = f1 ∧ n = n1)) 0 0 (q_ge E) := by
  refine Met.ofW (cc := cX13_isSo) (maxL := 6) (ret := (some .boolean)) (by decide) rfl ?_
  intro p0_ e0_ s0_ m0_ args0_ below0_ meth0_ c0_ s1_ B hml hv
  obtain ⟨rfl, hA, hW⟩ := hv
  have hx := B.exec
  have hb := B.bytes
  have hr := B.returns
  have hts := atoms_spec (ws := wsX13_isSo) B.pre
  have hown : s0_.vm.findClass RX13 = some m0_.cls := findClass_of_methodNamed B.named
  have hlocks := B.notSynchronized
  have hS : va_S (q_ge E) s0_.heap s0_.heap [] := va_S.rf
  have iX13 : ∀ w ∈ wsX130, w ∈ wsX13_isSo := by decide +kernel
  have hl := lv_entry ([.ref a, .ref k]) (n := 6) (Nat.le_of_ble_eq_true rfl)
  rw [lg_entry_eq]
  generalize (lg_sl ([.ref a, .ref k]) ++ List.replicate (6 - (lg_sl ([.ref a, .ref k])).length) Slot.unset).toArray = ls at hl ⊢
  have hl : lv_has ls 6 [(0, .ref a), (1, .ref k)] := hl
  obtain ⟨hk0, ⟨gk, hki, hkv⟩, ⟨gw, hwa, hwv⟩, ⟨gn, hno, hnv⟩, ⟨gp, hpa, hpv⟩, hrow⟩ := id hK
  have l_k := hW.lt hk0
  have l_ki := hW.lt hki
  have l_wa := hW.lt hwa
  have l_no := hW.lt hno
  have l_pa := hW.lt hpa
  obtain ⟨-, so0, ka0, xa0, ya0, hca0⟩ := hM0.cell
  obtain ⟨-, sp0, kc0, xc0, yc0, hcc0⟩ := hQ0.cell
  obtain ⟨-, so1, ka1, xa1, ya1, hca1⟩ := hM1.cell
  obtain ⟨-, sp1, kc1, xc1, yc1, hcc1⟩ := hQ1.cell
  refine lv_iconst (v := 1) hx hb dX13_isSo_0 (by decide) ?_
  refine lv_istore_n (lv' := [(2, .int 1), (0, .ref a), (1, .ref k)]) hx hb dX13_isSo_1 rfl hl (by decide) rfl (fun ls hl => ?_)
  refine lv_iconst (v := 0) hx hb dX13_isSo_2 (by decide) ?_
  refine lv_istore_n (lv' := [(3, .int 0), (2, .int 1), (0, .ref a), (1, .ref k)]) hx hb dX13_isSo_3 rfl hl (by decide) rfl (fun ls hl => ?_)
  refine lv_iload_n hx hb dX13_isSo_4 rfl (lv_at hl 0 rfl) ?_
  refine lv_aload_n hx hb dX13_isSo_5 rfl (lv_at hl 2 rfl) ?_
  refine q_get hx hb hts hown hA hW iX13 h0 rfl 3 (by decide) (hts (.fieldLink RX13 7 "HighRecipesLaw$Act" "signs" "[I") (by decide +kernel)) (fun _ h9 => h9) (v := .ref sg) rfl dX13_isSo_6 ?_
  refine q_alen hx hb hA hW 0 rfl h1 (v := 2) rfl dX13_isSo_9 ?_
  refine lv_icmp_ge (tgt := 107) hx hb dX13_isSo_10 (by decide) (fun c_10 => absurd c_10 (by decide)) (fun c_10 => ?_)
  refine lv_aload_n hx hb dX13_isSo_13 rfl (lv_at hl 2 rfl) ?_
  refine q_get hx hb hts hown hA hW iX13 h0 rfl 4 (by decide) (hts (.fieldLink RX13 15 "HighRecipesLaw$Act" "ones" "[LHighRecipesLaw$Node;") (by decide +kernel)) (fun _ h9 => h9) (v := .ref on) rfl dX13_isSo_14 ?_
  refine lv_iload_n hx hb dX13_isSo_17 rfl (lv_at hl 0 rfl) ?_
  refine q_aald hx hb hA hW 7 rfl h2 (vp_in_nI (n := 0) (by decide) (by decide)) dX13_isSo_18 ?_
  rw [show go (0 : Int32).toNatClampNeg = some a0 from hgo0]
  refine lv_aload_n hx hb dX13_isSo_19 rfl (lv_at hl 3 rfl) ?_
  refine q_ci (va_runV (As := [.ref k]) (rest := []) ⟨hx, hb, hml, hown, hts⟩ (kX16_value_0 l E f n k pa re ki wa no pn pr hd v b w a0 P D0 W0 hM0 hpn hK) (cwV 1 hts gX13_isSo_X16_value rfl rfl rfl (by decide +kernel) ⟨(Nat.le_of_ble_eq_true rfl), (Nat.le_of_ble_eq_true rfl)⟩) (q_pV hA hW hS (ci := 16) rfl hca0) rfl rfl hl.1 rfl (lv_room (Nat.le_of_ble_eq_true rfl)) dX13_isSo_20 ⟨(Nat.le_of_ble_eq_true rfl), (Nat.le_of_ble_eq_true rfl)⟩) hS (fun r_20 f_20 n_20 H locs hp hW hS => ?_)
  obtain ⟨rfl, rfl, rfl⟩ := hp
  have hW : q_W E (f) n H := hW
  refine lv_istore (lv' := [(4, .int (D0 hd v)), (3, .int 0), (2, .int 1), (0, .ref a), (1, .ref k)]) hx hb dX13_isSo_23 hl (by decide) rfl (fun ls hl => ?_)
  refine lv_aload_n hx hb dX13_isSo_25 rfl (lv_at hl 3 rfl) ?_
  refine q_get hx hb hts hown hA hW iX13 h0 rfl 5 (by decide) (hts (.fieldLink RX13 19 "HighRecipesLaw$Act" "others" "[LHighRecipesLaw$Node;") (by decide +kernel)) (fun _ h9 => h9) (v := .ref ot) rfl dX13_isSo_26 ?_
  refine lv_iload_n hx hb dX13_isSo_29 rfl (lv_at hl 1 rfl) ?_
  refine q_aald hx hb hA hW 7 rfl h3 (vp_in_nI (n := 0) (by decide) (by decide)) dX13_isSo_30 ?_
  rw [show gt (0 : Int32).toNatClampNeg = some c0 from hgt0]
  refine lv_aload_n hx hb dX13_isSo_31 rfl (lv_at hl 4 rfl) ?_
  refine q_ci (va_runV (As := [.ref k]) (rest := []) ⟨hx, hb, hml, hown, hts⟩ (kX16_value_0 l E f n k pa re ki wa no pn pr hd v b w c0 P E0 Y0 hQ0 hpn hK) (cwV 1 hts gX13_isSo_X16_value rfl rfl rfl (by decide +kernel) ⟨(Nat.le_of_ble_eq_true rfl), (Nat.le_of_ble_eq_true rfl)⟩) (q_pV hA hW hS (ci := 16) rfl hcc0) rfl rfl hl.1 rfl (lv_room (Nat.le_of_ble_eq_true rfl)) dX13_isSo_32 ⟨(Nat.le_of_ble_eq_true rfl), (Nat.le_of_ble_eq_true rfl)⟩) hS (fun r_32 f_32 n_32 H locs hp hW hS => ?_)
  obtain ⟨rfl, rfl, rfl⟩ := hp
  have hW : q_W E (f) n H := hW
  refine lv_istore (lv' := [(5, .int (E0 hd v)), (4, .int (D0 hd v)), (3, .int 0), (2, .int 1), (0, .ref a), (1, .ref k)]) hx hb dX13_isSo_35 hl (by decide) rfl (fun ls hl => ?_)
  refine lv_iload_n hx hb dX13_isSo_37 rfl (lv_at hl 3 rfl) ?_
  refine lv_aload_n hx hb dX13_isSo_38 rfl (lv_at hl 4 rfl) ?_
  refine q_get hx hb hts hown hA hW iX13 h0 rfl 3 (by decide) (hts (.fieldLink RX13 7 "HighRecipesLaw$Act" "signs" "[I") (by decide +kernel)) (fun _ h9 => h9) (v := .ref sg) rfl dX13_isSo_39 ?_
  refine lv_iload_n hx hb dX13_isSo_42 rfl (lv_at hl 2 rfl) ?_
  refine q_iald hx hb hA hW h1 (vp_in_nI (n := 0) (by decide) (by decide)) dX13_isSo_43 ?_
  rw [show gs (0 : Int32).toNatClampNeg = 0 from hgs0]
  refine lv_if_ne (tgt := 62) hx hb dX13_isSo_44 (by decide) (fun c_44 => absurd c_44 (by decide)) (fun c_44 => ?_)
  refine lv_iload hx hb dX13_isSo_47 (lv_at hl 1 rfl) ?_
  refine lv_iload hx hb dX13_isSo_49 (lv_at hl 0 rfl) ?_
  refine lv_icmp_ge (tgt := 58) hx hb dX13_isSo_51 (by decide) (fun c_51 => ?_) (fun c_51 => ?_)
  · refine lv_iconst (v := 0) hx hb dX13_isSo_58 (by decide) ?_
    refine lv_goto (tgt := 99) hx hb dX13_isSo_59 (by decide) ?_
    refine lv_iand hx hb dX13_isSo_99 ?_
    rw [show (1 : Int32) &&& 0 = w01 (c_cmp 30 (D0 hd v) (E0 hd v) && true) from w01_and2 rfl (w01_f (by show decide ((D0 hd v) < (E0 hd v)) = _; exact (decide_eq_false (Int32.not_lt.mpr c_51))))]
    refine lv_istore_n (lv' := [(2, .int (w01 (c_cmp 30 (D0 hd v) (E0 hd v) && true))), (5, .int (E0 hd v)), (4, .int (D0 hd v)), (3, .int 0), (0, .ref a), (1, .ref k)]) hx hb dX13_isSo_100 rfl hl (by decide) rfl (fun ls hl => ?_)
    refine lv_iinc (v := 1) (lv' := [(3, .int 1), (2, .int (w01 (c_cmp 30 (D0 hd v) (E0 hd v) && true))), (5, .int (E0 hd v)), (4, .int (D0 hd v)), (0, .ref a), (1, .ref k)]) hx hb dX13_isSo_101 hl (k := 3) rfl (by decide) (by decide) rfl (fun ls hl => ?_)
    refine lv_goto (tgt := 4) hx hb dX13_isSo_104 (by decide) ?_
    refine lv_iload_n hx hb dX13_isSo_4 rfl (lv_at hl 0 rfl) ?_
    refine lv_aload_n hx hb dX13_isSo_5 rfl (lv_at hl 4 rfl) ?_
    refine q_get hx hb hts hown hA hW iX13 h0 rfl 3 (by decide) (hts (.fieldLink RX13 7 "HighRecipesLaw$Act" "signs" "[I") (by decide +kernel)) (fun _ h9 => h9) (v := .ref sg) rfl dX13_isSo_6 ?_
    refine q_alen hx hb hA hW 0 rfl h1 (v := 2) rfl dX13_isSo_9 ?_
    refine lv_icmp_ge (tgt := 107) hx hb dX13_isSo_10 (by decide) (fun c_10 => absurd c_10 (by decide)) (fun c_10 => ?_)
    refine lv_aload_n hx hb dX13_isSo_13 rfl (lv_at hl 4 rfl) ?_
    refine q_get hx hb hts hown hA hW iX13 h0 rfl 4 (by decide) (hts (.fieldLink RX13 15 "HighRecipesLaw$Act" "ones" "[LHighRecipesLaw$Node;") (by decide +kernel)) (fun _ h9 => h9) (v := .ref on) rfl dX13_isSo_14 ?_
    refine lv_iload_n hx hb dX13_isSo_17 rfl (lv_at hl 0 rfl) ?_
    refine q_aald hx hb hA hW 7 rfl h2 (vp_in_nI (n := 1) (by decide) (by decide)) dX13_isSo_18 ?_
    rw [show go (1 : Int32).toNatClampNeg = some a1 from hgo1]
    refine lv_aload_n hx hb dX13_isSo_19 rfl (lv_at hl 5 rfl) ?_
    refine q_ci (va_runV (As := [.ref k]) (rest := []) ⟨hx, hb, hml, hown, hts⟩ (kX16_value_0 l E f n k pa re ki wa no pn pr hd v b w a1 P D1 W1 hM1 hpn hK) (cwV 1 hts gX13_isSo_X16_value rfl rfl rfl (by decide +kernel) ⟨(Nat.le_of_ble_eq_true rfl), (Nat.le_of_ble_eq_true rfl)⟩) (q_pV hA hW hS (ci := 16) rfl hca1) rfl rfl hl.1 rfl (lv_room (Nat.le_of_ble_eq_true rfl)) dX13_isSo_20 ⟨(Nat.le_of_ble_eq_true rfl), (Nat.le_of_ble_eq_true rfl)⟩) hS (fun r_20x1 f_20x1 n_20x1 H locs hp hW hS => ?_)
    obtain ⟨rfl, rfl, rfl⟩ := hp
    have hW : q_W E (f) n H := hW
    refine lv_istore (lv' := [(4, .int (D1 hd v)), (3, .int 1), (2, .int (w01 (c_cmp 30 (D0 hd v) (E0 hd v) && true))), (5, .int (E0 hd v)), (0, .ref a), (1, .ref k)]) hx hb dX13_isSo_23 hl (by decide) rfl (fun ls hl => ?_)
    refine lv_aload_n hx hb dX13_isSo_25 rfl (lv_at hl 4 rfl) ?_
    refine q_get hx hb hts hown hA hW iX13 h0 rfl 5 (by decide) (hts (.fieldLink RX13 19 "HighRecipesLaw$Act" "others" "[LHighRecipesLaw$Node;") (by decide +kernel)) (fun _ h9 => h9) (v := .ref ot) rfl dX13_isSo_26 ?_
    refine lv_iload_n hx hb dX13_isSo_29 rfl (lv_at hl 1 rfl) ?_
    refine q_aald hx hb hA hW 7 rfl h3 (vp_in_nI (n := 1) (by decide) (by decide)) dX13_isSo_30 ?_
    rw [show gt (1 : Int32).toNatClampNeg = some c1 from hgt1]
    refine lv_aload_n hx hb dX13_isSo_31 rfl (lv_at hl 5 rfl) ?_
    refine q_ci (va_runV (As := [.ref k]) (rest := []) ⟨hx, hb, hml, hown, hts⟩ (kX16_value_0 l E f n k pa re ki wa no pn pr hd v b w c1 P E1 Y1 hQ1 hpn hK) (cwV 1 hts gX13_isSo_X16_value rfl rfl rfl (by decide +kernel) ⟨(Nat.le_of_ble_eq_true rfl), (Nat.le_of_ble_eq_true rfl)⟩) (q_pV hA hW hS (ci := 16) rfl hcc1) rfl rfl hl.1 rfl (lv_room (Nat.le_of_ble_eq_true rfl)) dX13_isSo_32 ⟨(Nat.le_of_ble_eq_true rfl), (Nat.le_of_ble_eq_true rfl)⟩) hS (fun r_32x1 f_32x1 n_32x1 H locs hp hW hS => ?_)
    obtain ⟨rfl, rfl, rfl⟩ := hp
    have hW : q_W E (f) n H := hW
    refine lv_istore (lv' := [(5, .int (E1 hd v)), (4, .int (D1 hd v)), (3, .int 1), (2, .int (w01 (c_cmp 30 (D0 hd v) (E0 hd v) && true))), (0, .ref a), (1, .ref k)]) hx hb dX13_isSo_35 hl (by decide) rfl (fun ls hl => ?_)
    refine lv_iload_n hx hb dX13_isSo_37 rfl (lv_at hl 3 rfl) ?_
    refine lv_aload_n hx hb dX13_isSo_38 rfl (lv_at hl 4 rfl) ?_
    refine q_get hx hb hts hown hA hW iX13 h0 rfl 3 (by decide) (hts (.fieldLink RX13 7 "HighRecipesLaw$Act" "signs" "[I") (by decide +kernel)) (fun _ h9 => h9) (v := .ref sg) rfl dX13_isSo_39 ?_
    refine lv_iload_n hx hb dX13_isSo_42 rfl (lv_at hl 2 rfl) ?_
    refine q_iald hx hb hA hW h1 (vp_in_nI (n := 1) (by decide) (by decide)) dX13_isSo_43 ?_
    rw [show gs (1 : Int32).toNatClampNeg = 2 from hgs1]
    refine lv_if_ne (tgt := 62) hx hb dX13_isSo_44 (by decide) (fun c_44 => ?_) (fun c_44 => absurd c_44 (by decide))
    refine lv_aload_n hx hb dX13_isSo_62 rfl (lv_at hl 4 rfl) ?_
    refine q_get hx hb hts hown hA hW iX13 h0 rfl 3 (by decide) (hts (.fieldLink RX13 7 "HighRecipesLaw$Act" "signs" "[I") (by decide +kernel)) (fun _ h9 => h9) (v := .ref sg) rfl dX13_isSo_63 ?_
    refine lv_iload_n hx hb dX13_isSo_66 rfl (lv_at hl 2 rfl) ?_
    refine q_iald hx hb hA hW h1 (vp_in_nI (n := 1) (by decide) (by decide)) dX13_isSo_67 ?_
    rw [show gs (1 : Int32).toNatClampNeg = 2 from hgs1]
    refine lv_iconst (v := 1) hx hb dX13_isSo_68 (by decide) ?_
    refine lv_icmp_ne (tgt := 87) hx hb dX13_isSo_69 (by decide) (fun c_69 => ?_) (fun c_69 => absurd c_69 (by decide))
    refine lv_iload hx hb dX13_isSo_87 (lv_at hl 1 rfl) ?_
    refine lv_iload hx hb dX13_isSo_89 (lv_at hl 0 rfl) ?_
    refine lv_icmp_ne (tgt := 98) hx hb dX13_isSo_91 (by decide) (fun c_91 => ?_) (fun c_91 => ?_)
    · refine lv_iconst (v := 0) hx hb dX13_isSo_98 (by decide) ?_
      refine lv_iand hx hb dX13_isSo_99 ?_
      rw [show (w01 (c_cmp 30 (D0 hd v) (E0 hd v) && true) : Int32) &&& 0 = w01 (c_cmp 32 (D1 hd v) (E1 hd v) && (c_cmp 30 (D0 hd v) (E0 hd v) && true)) from w01_and2 rfl (w01_f (by show decide ((D1 hd v) = (E1 hd v)) = _; exact (decide_eq_false c_91)))]
      refine lv_istore_n (lv' := [(2, .int (w01 (c_cmp 32 (D1 hd v) (E1 hd v) && (c_cmp 30 (D0 hd v) (E0 hd v) && true)))), (5, .int (E1 hd v)), (4, .int (D1 hd v)), (3, .int 1), (0, .ref a), (1, .ref k)]) hx hb dX13_isSo_100 rfl hl (by decide) rfl (fun ls hl => ?_)
      refine lv_iinc (v := 2) (lv' := [(3, .int 2), (2, .int (w01 (c_cmp 32 (D1 hd v) (E1 hd v) && (c_cmp 30 (D0 hd v) (E0 hd v) && true)))), (5, .int (E1 hd v)), (4, .int (D1 hd v)), (0, .ref a), (1, .ref k)]) hx hb dX13_isSo_101 hl (k := 3) rfl (by decide) (by decide) rfl (fun ls hl => ?_)
      refine lv_goto (tgt := 4) hx hb dX13_isSo_104 (by decide) ?_
      refine lv_iload_n hx hb dX13_isSo_4 rfl (lv_at hl 0 rfl) ?_
      refine lv_aload_n hx hb dX13_isSo_5 rfl (lv_at hl 4 rfl) ?_
      refine q_get hx hb hts hown hA hW iX13 h0 rfl 3 (by decide) (hts (.fieldLink RX13 7 "HighRecipesLaw$Act" "signs" "[I") (by decide +kernel)) (fun _ h9 => h9) (v := .ref sg) rfl dX13_isSo_6 ?_
      refine q_alen hx hb hA hW 0 rfl h1 (v := 2) rfl dX13_isSo_9 ?_
      refine lv_icmp_ge (tgt := 107) hx hb dX13_isSo_10 (by decide) (fun c_10 => ?_) (fun c_10 => absurd c_10 (by decide))
      refine lv_iload_n hx hb dX13_isSo_107 rfl (lv_at hl 1 rfl) ?_
      exact q_zret hx hb hr hlocks hW hS (by unfold w01; split <;> rfl) ⟨rfl, rfl, rfl⟩ (Nat.le_of_ble_eq_true rfl) (Nat.le_of_ble_eq_true rfl) dX13_isSo_108
    · refine lv_iconst (v := 1) hx hb dX13_isSo_94 (by decide) ?_
      refine lv_goto (tgt := 99) hx hb dX13_isSo_95 (by decide) ?_
      refine lv_iand hx hb dX13_isSo_99 ?_
      rw [show (w01 (c_cmp 30 (D0 hd v) (E0 hd v) && true) : Int32) &&& 1 = w01 (c_cmp 32 (D1 hd v) (E1 hd v) && (c_cmp 30 (D0 hd v) (E0 hd v) && true)) from w01_and2 rfl (w01_t (by show decide ((D1 hd v) = (E1 hd v)) = _; exact (decide_eq_true c_91)))]
      refine lv_istore_n (lv' := [(2, .int (w01 (c_cmp 32 (D1 hd v) (E1 hd v) && (c_cmp 30 (D0 hd v) (E0 hd v) && true)))), (5, .int (E1 hd v)), (4, .int (D1 hd v)), (3, .int 1), (0, .ref a), (1, .ref k)]) hx hb dX13_isSo_100 rfl hl (by decide) rfl (fun ls hl => ?_)
      refine lv_iinc (v := 2) (lv' := [(3, .int 2), (2, .int (w01 (c_cmp 32 (D1 hd v) (E1 hd v) && (c_cmp 30 (D0 hd v) (E0 hd v) && true)))), (5, .int (E1 hd v)), (4, .int (D1 hd v)), (0, .ref a), (1, .ref k)]) hx hb dX13_isSo_101 hl (k := 3) rfl (by decide) (by decide) rfl (fun ls hl => ?_)
      refine lv_goto (tgt := 4) hx hb dX13_isSo_104 (by decide) ?_
      refine lv_iload_n hx hb dX13_isSo_4 rfl (lv_at hl 0 rfl) ?_
      refine lv_aload_n hx hb dX13_isSo_5 rfl (lv_at hl 4 rfl) ?_
      refine q_get hx hb hts hown hA hW iX13 h0 rfl 3 (by decide) (hts (.fieldLink RX13 7 "HighRecipesLaw$Act" "signs" "[I") (by decide +kernel)) (fun _ h9 => h9) (v := .ref sg) rfl dX13_isSo_6 ?_
      refine q_alen hx hb hA hW 0 rfl h1 (v := 2) rfl dX13_isSo_9 ?_
      refine lv_icmp_ge (tgt := 107) hx hb dX13_isSo_10 (by decide) (fun c_10 => ?_) (fun c_10 => absurd c_10 (by decide))
      refine lv_iload_n hx hb dX13_isSo_107 rfl (lv_at hl 1 rfl) ?_
      exact q_zret hx hb hr hlocks hW hS (by unfold w01; split <;> rfl) ⟨rfl, rfl, rfl⟩ (Nat.le_of_ble_eq_true rfl) (Nat.le_of_ble_eq_true rfl) dX13_isSo_108
  · refine lv_iconst (v := 1) hx hb dX13_isSo_54 (by decide) ?_
    refine lv_goto (tgt := 99) hx hb dX13_isSo_55 (by decide) ?_
    refine lv_iand hx hb dX13_isSo_99 ?_
    rw [show (1 : Int32) &&& 1 = w01 (c_cmp 30 (D0 hd v) (E0 hd v) && true) from w01_and2 rfl (w01_t (by show decide ((D0 hd v) < (E0 hd v)) = _; exact (decide_eq_true (Int32.not_le.mp c_51))))]
    refine lv_istore_n (lv' := [(2, .int (w01 (c_cmp 30 (D0 hd v) (E0 hd v) && true))), (5, .int (E0 hd v)), (4, .int (D0 hd v)), (3, .int 0), (0, .ref a), (1, .ref k)]) hx hb dX13_isSo_100 rfl hl (by decide) rfl (fun ls hl => ?_)
    refine lv_iinc (v := 1) (lv' := [(3, .int 1), (2, .int (w01 (c_cmp 30 (D0 hd v) (E0 hd v) && true))), (5, .int (E0 hd v)), (4, .int (D0 hd v)), (0, .ref a), (1, .ref k)]) hx hb dX13_isSo_101 hl (k := 3) rfl (by decide) (by decide) rfl (fun ls hl => ?_)
    refine lv_goto (tgt := 4) hx hb dX13_isSo_104 (by decide) ?_
    refine lv_iload_n hx hb dX13_isSo_4 rfl (lv_at hl 0 rfl) ?_
    refine lv_aload_n hx hb dX13_isSo_5 rfl (lv_at hl 4 rfl) ?_
    refine q_get hx hb hts hown hA hW iX13 h0 rfl 3 (by decide) (hts (.fieldLink RX13 7 "HighRecipesLaw$Act" "signs" "[I") (by decide +kernel)) (fun _ h9 => h9) (v := .ref sg) rfl dX13_isSo_6 ?_
    refine q_alen hx hb hA hW 0 rfl h1 (v := 2) rfl dX13_isSo_9 ?_
    refine lv_icmp_ge (tgt := 107) hx hb dX13_isSo_10 (by decide) (fun c_10 => absurd c_10 (by decide)) (fun c_10 => ?_)
    refine lv_aload_n hx hb dX13_isSo_13 rfl (lv_at hl 4 rfl) ?_
    refine q_get hx hb hts hown hA hW iX13 h0 rfl 4 (by decide) (hts (.fieldLink RX13 15 "HighRecipesLaw$Act" "ones" "[LHighRecipesLaw$Node;") (by decide +kernel)) (fun _ h9 => h9) (v := .ref on) rfl dX13_isSo_14 ?_
    refine lv_iload_n hx hb dX13_isSo_17 rfl (lv_at hl 0 rfl) ?_
    refine q_aald hx hb hA hW 7 rfl h2 (vp_in_nI (n := 1) (by decide) (by decide)) dX13_isSo_18 ?_
    rw [show go (1 : Int32).toNatClampNeg = some a1 from hgo1]
    refine lv_aload_n hx hb dX13_isSo_19 rfl (lv_at hl 5 rfl) ?_
    refine q_ci (va_runV (As := [.ref k]) (rest := []) ⟨hx, hb, hml, hown, hts⟩ (kX16_value_0 l E f n k pa re ki wa no pn pr hd v b w a1 P D1 W1 hM1 hpn hK) (cwV 1 hts gX13_isSo_X16_value rfl rfl rfl (by decide +kernel) ⟨(Nat.le_of_ble_eq_true rfl), (Nat.le_of_ble_eq_true rfl)⟩) (q_pV hA hW hS (ci := 16) rfl hca1) rfl rfl hl.1 rfl (lv_room (Nat.le_of_ble_eq_true rfl)) dX13_isSo_20 ⟨(Nat.le_of_ble_eq_true rfl), (Nat.le_of_ble_eq_true rfl)⟩) hS (fun r_20x1 f_20x1 n_20x1 H locs hp hW hS => ?_)
    obtain ⟨rfl, rfl, rfl⟩ := hp
    have hW : q_W E (f) n H := hW
    refine lv_istore (lv' := [(4, .int (D1 hd v)), (3, .int 1), (2, .int (w01 (c_cmp 30 (D0 hd v) (E0 hd v) && true))), (5, .int (E0 hd v)), (0, .ref a), (1, .ref k)]) hx hb dX13_isSo_23 hl (by decide) rfl (fun ls hl => ?_)
    refine lv_aload_n hx hb dX13_isSo_25 rfl (lv_at hl 4 rfl) ?_
    refine q_get hx hb hts hown hA hW iX13 h0 rfl 5 (by decide) (hts (.fieldLink RX13 19 "HighRecipesLaw$Act" "others" "[LHighRecipesLaw$Node;") (by decide +kernel)) (fun _ h9 => h9) (v := .ref ot) rfl dX13_isSo_26 ?_
    refine lv_iload_n hx hb dX13_isSo_29 rfl (lv_at hl 1 rfl) ?_
    refine q_aald hx hb hA hW 7 rfl h3 (vp_in_nI (n := 1) (by decide) (by decide)) dX13_isSo_30 ?_
    rw [show gt (1 : Int32).toNatClampNeg = some c1 from hgt1]
    refine lv_aload_n hx hb dX13_isSo_31 rfl (lv_at hl 5 rfl) ?_
    refine q_ci (va_runV (As := [.ref k]) (rest := []) ⟨hx, hb, hml, hown, hts⟩ (kX16_value_0 l E f n k pa re ki wa no pn pr hd v b w c1 P E1 Y1 hQ1 hpn hK) (cwV 1 hts gX13_isSo_X16_value rfl rfl rfl (by decide +kernel) ⟨(Nat.le_of_ble_eq_true rfl), (Nat.le_of_ble_eq_true rfl)⟩) (q_pV hA hW hS (ci := 16) rfl hcc1) rfl rfl hl.1 rfl (lv_room (Nat.le_of_ble_eq_true rfl)) dX13_isSo_32 ⟨(Nat.le_of_ble_eq_true rfl), (Nat.le_of_ble_eq_true rfl)⟩) hS (fun r_32x1 f_32x1 n_32x1 H locs hp hW hS => ?_)
    obtain ⟨rfl, rfl, rfl⟩ := hp
    have hW : q_W E (f) n H := hW
    refine lv_istore (lv' := [(5, .int (E1 hd v)), (4, .int (D1 hd v)), (3, .int 1), (2, .int (w01 (c_cmp 30 (D0 hd v) (E0 hd v) && true))), (0, .ref a), (1, .ref k)]) hx hb dX13_isSo_35 hl (by decide) rfl (fun ls hl => ?_)
    refine lv_iload_n hx hb dX13_isSo_37 rfl (lv_at hl 3 rfl) ?_
    refine lv_aload_n hx hb dX13_isSo_38 rfl (lv_at hl 4 rfl) ?_
    refine q_get hx hb hts hown hA hW iX13 h0 rfl 3 (by decide) (hts (.fieldLink RX13 7 "HighRecipesLaw$Act" "signs" "[I") (by decide +kernel)) (fun _ h9 => h9) (v := .ref sg) rfl dX13_isSo_39 ?_
    refine lv_iload_n hx hb dX13_isSo_42 rfl (lv_at hl 2 rfl) ?_
    refine q_iald hx hb hA hW h1 (vp_in_nI (n := 1) (by decide) (by decide)) dX13_isSo_43 ?_
    rw [show gs (1 : Int32).toNatClampNeg = 2 from hgs1]
    refine lv_if_ne (tgt := 62) hx hb dX13_isSo_44 (by decide) (fun c_44 => ?_) (fun c_44 => absurd c_44 (by decide))
    refine lv_aload_n hx hb dX13_isSo_62 rfl (lv_at hl 4 rfl) ?_
    refine q_get hx hb hts hown hA hW iX13 h0 rfl 3 (by decide) (hts (.fieldLink RX13 7 "HighRecipesLaw$Act" "signs" "[I") (by decide +kernel)) (fun _ h9 => h9) (v := .ref sg) rfl dX13_isSo_63 ?_
    refine lv_iload_n hx hb dX13_isSo_66 rfl (lv_at hl 2 rfl) ?_
    refine q_iald hx hb hA hW h1 (vp_in_nI (n := 1) (by decide) (by decide)) dX13_isSo_67 ?_
    rw [show gs (1 : Int32).toNatClampNeg = 2 from hgs1]
    refine lv_iconst (v := 1) hx hb dX13_isSo_68 (by decide) ?_
    refine lv_icmp_ne (tgt := 87) hx hb dX13_isSo_69 (by decide) (fun c_69 => ?_) (fun c_69 => absurd c_69 (by decide))
    refine lv_iload hx hb dX13_isSo_87 (lv_at hl 1 rfl) ?_
    refine lv_iload hx hb dX13_isSo_89 (lv_at hl 0 rfl) ?_
    refine lv_icmp_ne (tgt := 98) hx hb dX13_isSo_91 (by decide) (fun c_91 => ?_) (fun c_91 => ?_)
    · refine lv_iconst (v := 0) hx hb dX13_isSo_98 (by decide) ?_
      refine lv_iand hx hb dX13_isSo_99 ?_
      rw [show (w01 (c_cmp 30 (D0 hd v) (E0 hd v) && true) : Int32) &&& 0 = w01 (c_cmp 32 (D1 hd v) (E1 hd v) && (c_cmp 30 (D0 hd v) (E0 hd v) && true)) from w01_and2 rfl (w01_f (by show decide ((D1 hd v) = (E1 hd v)) = _; exact (decide_eq_false c_91)))]
      refine lv_istore_n (lv' := [(2, .int (w01 (c_cmp 32 (D1 hd v) (E1 hd v) && (c_cmp 30 (D0 hd v) (E0 hd v) && true)))), (5, .int (E1 hd v)), (4, .int (D1 hd v)), (3, .int 1), (0, .ref a), (1, .ref k)]) hx hb dX13_isSo_100 rfl hl (by decide) rfl (fun ls hl => ?_)
      refine lv_iinc (v := 2) (lv' := [(3, .int 2), (2, .int (w01 (c_cmp 32 (D1 hd v) (E1 hd v) && (c_cmp 30 (D0 hd v) (E0 hd v) && true)))), (5, .int (E1 hd v)), (4, .int (D1 hd v)), (0, .ref a), (1, .ref k)]) hx hb dX13_isSo_101 hl (k := 3) rfl (by decide) (by decide) rfl (fun ls hl => ?_)
      refine lv_goto (tgt := 4) hx hb dX13_isSo_104 (by decide) ?_
      refine lv_iload_n hx hb dX13_isSo_4 rfl (lv_at hl 0 rfl) ?_
      refine lv_aload_n hx hb dX13_isSo_5 rfl (lv_at hl 4 rfl) ?_
      refine q_get hx hb hts hown hA hW iX13 h0 rfl 3 (by decide) (hts (.fieldLink RX13 7 "HighRecipesLaw$Act" "signs" "[I") (by decide +kernel)) (fun _ h9 => h9) (v := .ref sg) rfl dX13_isSo_6 ?_
      refine q_alen hx hb hA hW 0 rfl h1 (v := 2) rfl dX13_isSo_9 ?_
      refine lv_icmp_ge (tgt := 107) hx hb dX13_isSo_10 (by decide) (fun c_10 => ?_) (fun c_10 => absurd c_10 (by decide))
      refine lv_iload_n hx hb dX13_isSo_107 rfl (lv_at hl 1 rfl) ?_
      exact q_zret hx hb hr hlocks hW hS (by unfold w01; split <;> rfl) ⟨rfl, rfl, rfl⟩ (Nat.le_of_ble_eq_true rfl) (Nat.le_of_ble_eq_true rfl) dX13_isSo_108
    · refine lv_iconst (v := 1) hx hb dX13_isSo_94 (by decide) ?_
      refine lv_goto (tgt := 99) hx hb dX13_isSo_95 (by decide) ?_
      refine lv_iand hx hb dX13_isSo_99 ?_
      rw [show (w01 (c_cmp 30 (D0 hd v) (E0 hd v) && true) : Int32) &&& 1 = w01 (c_cmp 32 (D1 hd v) (E1 hd v) && (c_cmp 30 (D0 hd v) (E0 hd v) && true)) from w01_and2 rfl (w01_t (by show decide ((D1 hd v) = (E1 hd v)) = _; exact (decide_eq_true c_91)))]
      refine lv_istore_n (lv' := [(2, .int (w01 (c_cmp 32 (D1 hd v) (E1 hd v) && (c_cmp 30 (D0 hd v) (E0 hd v) && true)))), (5, .int (E1 hd v)), (4, .int (D1 hd v)), (3, .int 1), (0, .ref a), (1, .ref k)]) hx hb dX13_isSo_100 rfl hl (by decide) rfl (fun ls hl => ?_)
      refine lv_iinc (v := 2) (lv' := [(3, .int 2), (2, .int (w01 (c_cmp 32 (D1 hd v) (E1 hd v) && (c_cmp 30 (D0 hd v) (E0 hd v) && true)))), (5, .int (E1 hd v)), (4, .int (D1 hd v)), (0, .ref a), (1, .ref k)]) hx hb dX13_isSo_101 hl (k := 3) rfl (by decide) (by decide) rfl (fun ls hl => ?_)
      refine lv_goto (tgt := 4) hx hb dX13_isSo_104 (by decide) ?_
      refine lv_iload_n hx hb dX13_isSo_4 rfl (lv_at hl 0 rfl) ?_
      refine lv_aload_n hx hb dX13_isSo_5 rfl (lv_at hl 4 rfl) ?_
      refine q_get hx hb hts hown hA hW iX13 h0 rfl 3 (by decide) (hts (.fieldLink RX13 7 "HighRecipesLaw$Act" "signs" "[I") (by decide +kernel)) (fun _ h9 => h9) (v := .ref sg) rfl dX13_isSo_6 ?_
      refine q_alen hx hb hA hW 0 rfl h1 (v := 2) rfl dX13_isSo_9 ?_
      refine lv_icmp_ge (tgt := 107) hx hb dX13_isSo_10 (by decide) (fun c_10 => ?_) (fun c_10 => absurd c_10 (by decide))
      refine lv_iload_n hx hb dX13_isSo_107 rfl (lv_at hl 1 rfl) ?_
      exact q_zret hx hb hr hlocks hW hS (by unfold w01; split <;> rfl) ⟨rfl, rfl, rfl⟩ (Nat.le_of_ble_eq_true rfl) (Nat.le_of_ble_eq_true rfl) dX13_isSo_108

set_option maxHeartbeats 4000000 in
set_option maxRecDepth 100000 in
theorem kX13_isSo_10 (l : Launch) (E : q_E) (f : q_H) (n : Nat) (k pa re ki wa no pn : Nat) (pr : Nat → Nat) (hd v : q_V) (b : Nat) (w : Int32) (a sg on ot : Nat) (a0 c0 : Nat) (D0 E0 : q_D) (W0 Y0 : List Int32) (a1 c1 : Nat) (D1 E1 : q_D) (W1 Y1 : List Int32) (do_ wh : Int32) (va bl el : Option Nat) (P : Nat → Prop) (gs : Nat → Int32) (go gt : Nat → Option Nat) (h0 : f a = some (cLA do_ wh va (some sg) (some on) (some ot) bl el)) (h1 : f sg = some (aI E 2 gs)) (h2 : f on = some (aQ E 7 2 go)) (h3 : f ot = some (aQ E 7 2 gt)) (hgs0 : gs 0 = 1) (hgo0 : go 0 = some a0) (hgt0 : gt 0 = some c0) (hM0 : NODE pn P f 0 a0 D0 W0) (hQ0 : NODE pn P f 0 c0 E0 Y0) (hgs1 : gs 1 = 0) (hgo1 : go 1 = some a1) (hgt1 : gt 1 = some c1) (hM1 : NODE pn P f 0 a1 D1 W1) (hQ1 : NODE pn P f 0 c1 E1 Y1) (hpn : pn ≤ 8) (hK : LK E f k pa re ki wa no pn pr hd v b w) : Met l yX13_isSo wsX13_isSo ({ frames := 6, cells := 0, slots := 0, locals := 300 }) (q_P E [.ref a, .ref k] f n) (q_Qi E (fun r f1 n1 => w01 (c_cmp 30 (D1 hd v) (E1 hd v) && (c_cmp 31 (D0 hd v) (E0 hd v) && true)) = r ∧ f = f1 ∧ n = n1)) 0 0 (q_ge E) := by
  refine Met.ofW (cc := cX13_isSo) (maxL := 6) (ret := (some .boolean)) (by decide) rfl ?_
  intro p0_ e0_ s0_ m0_ args0_ below0_ meth0_ c0_ s1_ B hml hv
  obtain ⟨rfl, hA, hW⟩ := hv
  have hx := B.exec
  have hb := B.bytes
  have hr := B.returns
  have hts := atoms_spec (ws := wsX13_isSo) B.pre
  have hown : s0_.vm.findClass RX13 = some m0_.cls := findClass_of_methodNamed B.named
  have hlocks := B.notSynchronized
  have hS : va_S (q_ge E) s0_.heap s0_.heap [] := va_S.rf
  have iX13 : ∀ w ∈ wsX130, w ∈ wsX13_isSo := by decide +kernel
  have hl := lv_entry ([.ref a, .ref k]) (n := 6) (Nat.le_of_ble_eq_true rfl)
  rw [lg_entry_eq]
  generalize (lg_sl ([.ref a, .ref k]) ++ List.replicate (6 - (lg_sl ([.ref a, .ref k])).length) Slot.unset).toArray = ls at hl ⊢
  have hl : lv_has ls 6 [(0, .ref a), (1, .ref k)] := hl
  obtain ⟨hk0, ⟨gk, hki, hkv⟩, ⟨gw, hwa, hwv⟩, ⟨gn, hno, hnv⟩, ⟨gp, hpa, hpv⟩, hrow⟩ := id hK
  have l_k := hW.lt hk0
  have l_ki := hW.lt hki
  have l_wa := hW.lt hwa
  have l_no := hW.lt hno
  have l_pa := hW.lt hpa
  obtain ⟨-, so0, ka0, xa0, ya0, hca0⟩ := hM0.cell
  obtain ⟨-, sp0, kc0, xc0, yc0, hcc0⟩ := hQ0.cell
  obtain ⟨-, so1, ka1, xa1, ya1, hca1⟩ := hM1.cell
  obtain ⟨-, sp1, kc1, xc1, yc1, hcc1⟩ := hQ1.cell
  refine lv_iconst (v := 1) hx hb dX13_isSo_0 (by decide) ?_
  refine lv_istore_n (lv' := [(2, .int 1), (0, .ref a), (1, .ref k)]) hx hb dX13_isSo_1 rfl hl (by decide) rfl (fun ls hl => ?_)
  refine lv_iconst (v := 0) hx hb dX13_isSo_2 (by decide) ?_
  refine lv_istore_n (lv' := [(3, .int 0), (2, .int 1), (0, .ref a), (1, .ref k)]) hx hb dX13_isSo_3 rfl hl (by decide) rfl (fun ls hl => ?_)
  refine lv_iload_n hx hb dX13_isSo_4 rfl (lv_at hl 0 rfl) ?_
  refine lv_aload_n hx hb dX13_isSo_5 rfl (lv_at hl 2 rfl) ?_
  refine q_get hx hb hts hown hA hW iX13 h0 rfl 3 (by decide) (hts (.fieldLink RX13 7 "HighRecipesLaw$Act" "signs" "[I") (by decide +kernel)) (fun _ h9 => h9) (v := .ref sg) rfl dX13_isSo_6 ?_
  refine q_alen hx hb hA hW 0 rfl h1 (v := 2) rfl dX13_isSo_9 ?_
  refine lv_icmp_ge (tgt := 107) hx hb dX13_isSo_10 (by decide) (fun c_10 => absurd c_10 (by decide)) (fun c_10 => ?_)
  refine lv_aload_n hx hb dX13_isSo_13 rfl (lv_at hl 2 rfl) ?_
  refine q_get hx hb hts hown hA hW iX13 h0 rfl 4 (by decide) (hts (.fieldLink RX13 15 "HighRecipesLaw$Act" "ones" "[LHighRecipesLaw$Node;") (by decide +kernel)) (fun _ h9 => h9) (v := .ref on) rfl dX13_isSo_14 ?_
  refine lv_iload_n hx hb dX13_isSo_17 rfl (lv_at hl 0 rfl) ?_
  refine q_aald hx hb hA hW 7 rfl h2 (vp_in_nI (n := 0) (by decide) (by decide)) dX13_isSo_18 ?_
  rw [show go (0 : Int32).toNatClampNeg = some a0 from hgo0]
  refine lv_aload_n hx hb dX13_isSo_19 rfl (lv_at hl 3 rfl) ?_
  refine q_ci (va_runV (As := [.ref k]) (rest := []) ⟨hx, hb, hml, hown, hts⟩ (kX16_value_0 l E f n k pa re ki wa no pn pr hd v b w a0 P D0 W0 hM0 hpn hK) (cwV 1 hts gX13_isSo_X16_value rfl rfl rfl (by decide +kernel) ⟨(Nat.le_of_ble_eq_true rfl), (Nat.le_of_ble_eq_true rfl)⟩) (q_pV hA hW hS (ci := 16) rfl hca0) rfl rfl hl.1 rfl (lv_room (Nat.le_of_ble_eq_true rfl)) dX13_isSo_20 ⟨(Nat.le_of_ble_eq_true rfl), (Nat.le_of_ble_eq_true rfl)⟩) hS (fun r_20 f_20 n_20 H locs hp hW hS => ?_)
  obtain ⟨rfl, rfl, rfl⟩ := hp
  have hW : q_W E (f) n H := hW
  refine lv_istore (lv' := [(4, .int (D0 hd v)), (3, .int 0), (2, .int 1), (0, .ref a), (1, .ref k)]) hx hb dX13_isSo_23 hl (by decide) rfl (fun ls hl => ?_)
  refine lv_aload_n hx hb dX13_isSo_25 rfl (lv_at hl 3 rfl) ?_
  refine q_get hx hb hts hown hA hW iX13 h0 rfl 5 (by decide) (hts (.fieldLink RX13 19 "HighRecipesLaw$Act" "others" "[LHighRecipesLaw$Node;") (by decide +kernel)) (fun _ h9 => h9) (v := .ref ot) rfl dX13_isSo_26 ?_
  refine lv_iload_n hx hb dX13_isSo_29 rfl (lv_at hl 1 rfl) ?_
  refine q_aald hx hb hA hW 7 rfl h3 (vp_in_nI (n := 0) (by decide) (by decide)) dX13_isSo_30 ?_
  rw [show gt (0 : Int32).toNatClampNeg = some c0 from hgt0]
  refine lv_aload_n hx hb dX13_isSo_31 rfl (lv_at hl 4 rfl) ?_
  refine q_ci (va_runV (As := [.ref k]) (rest := []) ⟨hx, hb, hml, hown, hts⟩ (kX16_value_0 l E f n k pa re ki wa no pn pr hd v b w c0 P E0 Y0 hQ0 hpn hK) (cwV 1 hts gX13_isSo_X16_value rfl rfl rfl (by decide +kernel) ⟨(Nat.le_of_ble_eq_true rfl), (Nat.le_of_ble_eq_true rfl)⟩) (q_pV hA hW hS (ci := 16) rfl hcc0) rfl rfl hl.1 rfl (lv_room (Nat.le_of_ble_eq_true rfl)) dX13_isSo_32 ⟨(Nat.le_of_ble_eq_true rfl), (Nat.le_of_ble_eq_true rfl)⟩) hS (fun r_32 f_32 n_32 H locs hp hW hS => ?_)
  obtain ⟨rfl, rfl, rfl⟩ := hp
  have hW : q_W E (f) n H := hW
  refine lv_istore (lv' := [(5, .int (E0 hd v)), (4, .int (D0 hd v)), (3, .int 0), (2, .int 1), (0, .ref a), (1, .ref k)]) hx hb dX13_isSo_35 hl (by decide) rfl (fun ls hl => ?_)
  refine lv_iload_n hx hb dX13_isSo_37 rfl (lv_at hl 3 rfl) ?_
  refine lv_aload_n hx hb dX13_isSo_38 rfl (lv_at hl 4 rfl) ?_
  refine q_get hx hb hts hown hA hW iX13 h0 rfl 3 (by decide) (hts (.fieldLink RX13 7 "HighRecipesLaw$Act" "signs" "[I") (by decide +kernel)) (fun _ h9 => h9) (v := .ref sg) rfl dX13_isSo_39 ?_
  refine lv_iload_n hx hb dX13_isSo_42 rfl (lv_at hl 2 rfl) ?_
  refine q_iald hx hb hA hW h1 (vp_in_nI (n := 0) (by decide) (by decide)) dX13_isSo_43 ?_
  rw [show gs (0 : Int32).toNatClampNeg = 1 from hgs0]
  refine lv_if_ne (tgt := 62) hx hb dX13_isSo_44 (by decide) (fun c_44 => ?_) (fun c_44 => absurd c_44 (by decide))
  refine lv_aload_n hx hb dX13_isSo_62 rfl (lv_at hl 4 rfl) ?_
  refine q_get hx hb hts hown hA hW iX13 h0 rfl 3 (by decide) (hts (.fieldLink RX13 7 "HighRecipesLaw$Act" "signs" "[I") (by decide +kernel)) (fun _ h9 => h9) (v := .ref sg) rfl dX13_isSo_63 ?_
  refine lv_iload_n hx hb dX13_isSo_66 rfl (lv_at hl 2 rfl) ?_
  refine q_iald hx hb hA hW h1 (vp_in_nI (n := 0) (by decide) (by decide)) dX13_isSo_67 ?_
  rw [show gs (0 : Int32).toNatClampNeg = 1 from hgs0]
  refine lv_iconst (v := 1) hx hb dX13_isSo_68 (by decide) ?_
  refine lv_icmp_ne (tgt := 87) hx hb dX13_isSo_69 (by decide) (fun c_69 => absurd c_69 (by decide)) (fun c_69 => ?_)
  refine lv_iload hx hb dX13_isSo_72 (lv_at hl 1 rfl) ?_
  refine lv_iload hx hb dX13_isSo_74 (lv_at hl 0 rfl) ?_
  refine lv_icmp_le (tgt := 83) hx hb dX13_isSo_76 (by decide) (fun c_76 => ?_) (fun c_76 => ?_)
  · refine lv_iconst (v := 0) hx hb dX13_isSo_83 (by decide) ?_
    refine lv_goto (tgt := 99) hx hb dX13_isSo_84 (by decide) ?_
    refine lv_iand hx hb dX13_isSo_99 ?_
    rw [show (1 : Int32) &&& 0 = w01 (c_cmp 31 (D0 hd v) (E0 hd v) && true) from w01_and2 rfl (w01_f (by show decide ((E0 hd v) < (D0 hd v)) = _; exact (decide_eq_false (Int32.not_lt.mpr c_76))))]
    refine lv_istore_n (lv' := [(2, .int (w01 (c_cmp 31 (D0 hd v) (E0 hd v) && true))), (5, .int (E0 hd v)), (4, .int (D0 hd v)), (3, .int 0), (0, .ref a), (1, .ref k)]) hx hb dX13_isSo_100 rfl hl (by decide) rfl (fun ls hl => ?_)
    refine lv_iinc (v := 1) (lv' := [(3, .int 1), (2, .int (w01 (c_cmp 31 (D0 hd v) (E0 hd v) && true))), (5, .int (E0 hd v)), (4, .int (D0 hd v)), (0, .ref a), (1, .ref k)]) hx hb dX13_isSo_101 hl (k := 3) rfl (by decide) (by decide) rfl (fun ls hl => ?_)
    refine lv_goto (tgt := 4) hx hb dX13_isSo_104 (by decide) ?_
    refine lv_iload_n hx hb dX13_isSo_4 rfl (lv_at hl 0 rfl) ?_
    refine lv_aload_n hx hb dX13_isSo_5 rfl (lv_at hl 4 rfl) ?_
    refine q_get hx hb hts hown hA hW iX13 h0 rfl 3 (by decide) (hts (.fieldLink RX13 7 "HighRecipesLaw$Act" "signs" "[I") (by decide +kernel)) (fun _ h9 => h9) (v := .ref sg) rfl dX13_isSo_6 ?_
    refine q_alen hx hb hA hW 0 rfl h1 (v := 2) rfl dX13_isSo_9 ?_
    refine lv_icmp_ge (tgt := 107) hx hb dX13_isSo_10 (by decide) (fun c_10 => absurd c_10 (by decide)) (fun c_10 => ?_)
    refine lv_aload_n hx hb dX13_isSo_13 rfl (lv_at hl 4 rfl) ?_
    refine q_get hx hb hts hown hA hW iX13 h0 rfl 4 (by decide) (hts (.fieldLink RX13 15 "HighRecipesLaw$Act" "ones" "[LHighRecipesLaw$Node;") (by decide +kernel)) (fun _ h9 => h9) (v := .ref on) rfl dX13_isSo_14 ?_
    refine lv_iload_n hx hb dX13_isSo_17 rfl (lv_at hl 0 rfl) ?_
    refine q_aald hx hb hA hW 7 rfl h2 (vp_in_nI (n := 1) (by decide) (by decide)) dX13_isSo_18 ?_
    rw [show go (1 : Int32).toNatClampNeg = some a1 from hgo1]
    refine lv_aload_n hx hb dX13_isSo_19 rfl (lv_at hl 5 rfl) ?_
    refine q_ci (va_runV (As := [.ref k]) (rest := []) ⟨hx, hb, hml, hown, hts⟩ (kX16_value_0 l E f n k pa re ki wa no pn pr hd v b w a1 P D1 W1 hM1 hpn hK) (cwV 1 hts gX13_isSo_X16_value rfl rfl rfl (by decide +kernel) ⟨(Nat.le_of_ble_eq_true rfl), (Nat.le_of_ble_eq_true rfl)⟩) (q_pV hA hW hS (ci := 16) rfl hca1) rfl rfl hl.1 rfl (lv_room (Nat.le_of_ble_eq_true rfl)) dX13_isSo_20 ⟨(Nat.le_of_ble_eq_true rfl), (Nat.le_of_ble_eq_true rfl)⟩) hS (fun r_20x1 f_20x1 n_20x1 H locs hp hW hS => ?_)
    obtain ⟨rfl, rfl, rfl⟩ := hp
    have hW : q_W E (f) n H := hW
    refine lv_istore (lv' := [(4, .int (D1 hd v)), (3, .int 1), (2, .int (w01 (c_cmp 31 (D0 hd v) (E0 hd v) && true))), (5, .int (E0 hd v)), (0, .ref a), (1, .ref k)]) hx hb dX13_isSo_23 hl (by decide) rfl (fun ls hl => ?_)
    refine lv_aload_n hx hb dX13_isSo_25 rfl (lv_at hl 4 rfl) ?_
    refine q_get hx hb hts hown hA hW iX13 h0 rfl 5 (by decide) (hts (.fieldLink RX13 19 "HighRecipesLaw$Act" "others" "[LHighRecipesLaw$Node;") (by decide +kernel)) (fun _ h9 => h9) (v := .ref ot) rfl dX13_isSo_26 ?_
    refine lv_iload_n hx hb dX13_isSo_29 rfl (lv_at hl 1 rfl) ?_
    refine q_aald hx hb hA hW 7 rfl h3 (vp_in_nI (n := 1) (by decide) (by decide)) dX13_isSo_30 ?_
    rw [show gt (1 : Int32).toNatClampNeg = some c1 from hgt1]
    refine lv_aload_n hx hb dX13_isSo_31 rfl (lv_at hl 5 rfl) ?_
    refine q_ci (va_runV (As := [.ref k]) (rest := []) ⟨hx, hb, hml, hown, hts⟩ (kX16_value_0 l E f n k pa re ki wa no pn pr hd v b w c1 P E1 Y1 hQ1 hpn hK) (cwV 1 hts gX13_isSo_X16_value rfl rfl rfl (by decide +kernel) ⟨(Nat.le_of_ble_eq_true rfl), (Nat.le_of_ble_eq_true rfl)⟩) (q_pV hA hW hS (ci := 16) rfl hcc1) rfl rfl hl.1 rfl (lv_room (Nat.le_of_ble_eq_true rfl)) dX13_isSo_32 ⟨(Nat.le_of_ble_eq_true rfl), (Nat.le_of_ble_eq_true rfl)⟩) hS (fun r_32x1 f_32x1 n_32x1 H locs hp hW hS => ?_)
    obtain ⟨rfl, rfl, rfl⟩ := hp
    have hW : q_W E (f) n H := hW
    refine lv_istore (lv' := [(5, .int (E1 hd v)), (4, .int (D1 hd v)), (3, .int 1), (2, .int (w01 (c_cmp 31 (D0 hd v) (E0 hd v) && true))), (0, .ref a), (1, .ref k)]) hx hb dX13_isSo_35 hl (by decide) rfl (fun ls hl => ?_)
    refine lv_iload_n hx hb dX13_isSo_37 rfl (lv_at hl 3 rfl) ?_
    refine lv_aload_n hx hb dX13_isSo_38 rfl (lv_at hl 4 rfl) ?_
    refine q_get hx hb hts hown hA hW iX13 h0 rfl 3 (by decide) (hts (.fieldLink RX13 7 "HighRecipesLaw$Act" "signs" "[I") (by decide +kernel)) (fun _ h9 => h9) (v := .ref sg) rfl dX13_isSo_39 ?_
    refine lv_iload_n hx hb dX13_isSo_42 rfl (lv_at hl 2 rfl) ?_
    refine q_iald hx hb hA hW h1 (vp_in_nI (n := 1) (by decide) (by decide)) dX13_isSo_43 ?_
    rw [show gs (1 : Int32).toNatClampNeg = 0 from hgs1]
    refine lv_if_ne (tgt := 62) hx hb dX13_isSo_44 (by decide) (fun c_44 => absurd c_44 (by decide)) (fun c_44 => ?_)
    refine lv_iload hx hb dX13_isSo_47 (lv_at hl 1 rfl) ?_
    refine lv_iload hx hb dX13_isSo_49 (lv_at hl 0 rfl) ?_
    refine lv_icmp_ge (tgt := 58) hx hb dX13_isSo_51 (by decide) (fun c_51 => ?_) (fun c_51 => ?_)
    · refine lv_iconst (v := 0) hx hb dX13_isSo_58 (by decide) ?_
      refine lv_goto (tgt := 99) hx hb dX13_isSo_59 (by decide) ?_
      refine lv_iand hx hb dX13_isSo_99 ?_
      rw [show (w01 (c_cmp 31 (D0 hd v) (E0 hd v) && true) : Int32) &&& 0 = w01 (c_cmp 30 (D1 hd v) (E1 hd v) && (c_cmp 31 (D0 hd v) (E0 hd v) && true)) from w01_and2 rfl (w01_f (by show decide ((D1 hd v) < (E1 hd v)) = _; exact (decide_eq_false (Int32.not_lt.mpr c_51))))]
      refine lv_istore_n (lv' := [(2, .int (w01 (c_cmp 30 (D1 hd v) (E1 hd v) && (c_cmp 31 (D0 hd v) (E0 hd v) && true)))), (5, .int (E1 hd v)), (4, .int (D1 hd v)), (3, .int 1), (0, .ref a), (1, .ref k)]) hx hb dX13_isSo_100 rfl hl (by decide) rfl (fun ls hl => ?_)
      refine lv_iinc (v := 2) (lv' := [(3, .int 2), (2, .int (w01 (c_cmp 30 (D1 hd v) (E1 hd v) && (c_cmp 31 (D0 hd v) (E0 hd v) && true)))), (5, .int (E1 hd v)), (4, .int (D1 hd v)), (0, .ref a), (1, .ref k)]) hx hb dX13_isSo_101 hl (k := 3) rfl (by decide) (by decide) rfl (fun ls hl => ?_)
      refine lv_goto (tgt := 4) hx hb dX13_isSo_104 (by decide) ?_
      refine lv_iload_n hx hb dX13_isSo_4 rfl (lv_at hl 0 rfl) ?_
      refine lv_aload_n hx hb dX13_isSo_5 rfl (lv_at hl 4 rfl) ?_
      refine q_get hx hb hts hown hA hW iX13 h0 rfl 3 (by decide) (hts (.fieldLink RX13 7 "HighRecipesLaw$Act" "signs" "[I") (by decide +kernel)) (fun _ h9 => h9) (v := .ref sg) rfl dX13_isSo_6 ?_
      refine q_alen hx hb hA hW 0 rfl h1 (v := 2) rfl dX13_isSo_9 ?_
      refine lv_icmp_ge (tgt := 107) hx hb dX13_isSo_10 (by decide) (fun c_10 => ?_) (fun c_10 => absurd c_10 (by decide))
      refine lv_iload_n hx hb dX13_isSo_107 rfl (lv_at hl 1 rfl) ?_
      exact q_zret hx hb hr hlocks hW hS (by unfold w01; split <;> rfl) ⟨rfl, rfl, rfl⟩ (Nat.le_of_ble_eq_true rfl) (Nat.le_of_ble_eq_true rfl) dX13_isSo_108
    · refine lv_iconst (v := 1) hx hb dX13_isSo_54 (by decide) ?_
      refine lv_goto (tgt := 99) hx hb dX13_isSo_55 (by decide) ?_
      refine lv_iand hx hb dX13_isSo_99 ?_
      rw [show (w01 (c_cmp 31 (D0 hd v) (E0 hd v) && true) : Int32) &&& 1 = w01 (c_cmp 30 (D1 hd v) (E1 hd v) && (c_cmp 31 (D0 hd v) (E0 hd v) && true)) from w01_and2 rfl (w01_t (by show decide ((D1 hd v) < (E1 hd v)) = _; exact (decide_eq_true (Int32.not_le.mp c_51))))]
      refine lv_istore_n (lv' := [(2, .int (w01 (c_cmp 30 (D1 hd v) (E1 hd v) && (c_cmp 31 (D0 hd v) (E0 hd v) && true)))), (5, .int (E1 hd v)), (4, .int (D1 hd v)), (3, .int 1), (0, .ref a), (1, .ref k)]) hx hb dX13_isSo_100 rfl hl (by decide) rfl (fun ls hl => ?_)
      refine lv_iinc (v := 2) (lv' := [(3, .int 2), (2, .int (w01 (c_cmp 30 (D1 hd v) (E1 hd v) && (c_cmp 31 (D0 hd v) (E0 hd v) && true)))), (5, .int (E1 hd v)), (4, .int (D1 hd v)), (0, .ref a), (1, .ref k)]) hx hb dX13_isSo_101 hl (k := 3) rfl (by decide) (by decide) rfl (fun ls hl => ?_)
      refine lv_goto (tgt := 4) hx hb dX13_isSo_104 (by decide) ?_
      refine lv_iload_n hx hb dX13_isSo_4 rfl (lv_at hl 0 rfl) ?_
      refine lv_aload_n hx hb dX13_isSo_5 rfl (lv_at hl 4 rfl) ?_
      refine q_get hx hb hts hown hA hW iX13 h0 rfl 3 (by decide) (hts (.fieldLink RX13 7 "HighRecipesLaw$Act" "signs" "[I") (by decide +kernel)) (fun _ h9 => h9) (v := .ref sg) rfl dX13_isSo_6 ?_
      refine q_alen hx hb hA hW 0 rfl h1 (v := 2) rfl dX13_isSo_9 ?_
      refine lv_icmp_ge (tgt := 107) hx hb dX13_isSo_10 (by decide) (fun c_10 => ?_) (fun c_10 => absurd c_10 (by decide))
      refine lv_iload_n hx hb dX13_isSo_107 rfl (lv_at hl 1 rfl) ?_
      exact q_zret hx hb hr hlocks hW hS (by unfold w01; split <;> rfl) ⟨rfl, rfl, rfl⟩ (Nat.le_of_ble_eq_true rfl) (Nat.le_of_ble_eq_true rfl) dX13_isSo_108
  · refine lv_iconst (v := 1) hx hb dX13_isSo_79 (by decide) ?_
    refine lv_goto (tgt := 99) hx hb dX13_isSo_80 (by decide) ?_
    refine lv_iand hx hb dX13_isSo_99 ?_
    rw [show (1 : Int32) &&& 1 = w01 (c_cmp 31 (D0 hd v) (E0 hd v) && true) from w01_and2 rfl (w01_t (by show decide ((E0 hd v) < (D0 hd v)) = _; exact (decide_eq_true (Int32.not_le.mp c_76))))]
    refine lv_istore_n (lv' := [(2, .int (w01 (c_cmp 31 (D0 hd v) (E0 hd v) && true))), (5, .int (E0 hd v)), (4, .int (D0 hd v)), (3, .int 0), (0, .ref a), (1, .ref k)]) hx hb dX13_isSo_100 rfl hl (by decide) rfl (fun ls hl => ?_)
    refine lv_iinc (v := 1) (lv' := [(3, .int 1), (2, .int (w01 (c_cmp 31 (D0 hd v) (E0 hd v) && true))), (5, .int (E0 hd v)), (4, .int (D0 hd v)), (0, .ref a), (1, .ref k)]) hx hb dX13_isSo_101 hl (k := 3) rfl (by decide) (by decide) rfl (fun ls hl => ?_)
    refine lv_goto (tgt := 4) hx hb dX13_isSo_104 (by decide) ?_
    refine lv_iload_n hx hb dX13_isSo_4 rfl (lv_at hl 0 rfl) ?_
    refine lv_aload_n hx hb dX13_isSo_5 rfl (lv_at hl 4 rfl) ?_
    refine q_get hx hb hts hown hA hW iX13 h0 rfl 3 (by decide) (hts (.fieldLink RX13 7 "HighRecipesLaw$Act" "signs" "[I") (by decide +kernel)) (fun _ h9 => h9) (v := .ref sg) rfl dX13_isSo_6 ?_
    refine q_alen hx hb hA hW 0 rfl h1 (v := 2) rfl dX13_isSo_9 ?_
    refine lv_icmp_ge (tgt := 107) hx hb dX13_isSo_10 (by decide) (fun c_10 => absurd c_10 (by decide)) (fun c_10 => ?_)
    refine lv_aload_n hx hb dX13_isSo_13 rfl (lv_at hl 4 rfl) ?_
    refine q_get hx hb hts hown hA hW iX13 h0 rfl 4 (by decide) (hts (.fieldLink RX13 15 "HighRecipesLaw$Act" "ones" "[LHighRecipesLaw$Node;") (by decide +kernel)) (fun _ h9 => h9) (v := .ref on) rfl dX13_isSo_14 ?_
    refine lv_iload_n hx hb dX13_isSo_17 rfl (lv_at hl 0 rfl) ?_
    refine q_aald hx hb hA hW 7 rfl h2 (vp_in_nI (n := 1) (by decide) (by decide)) dX13_isSo_18 ?_
    rw [show go (1 : Int32).toNatClampNeg = some a1 from hgo1]
    refine lv_aload_n hx hb dX13_isSo_19 rfl (lv_at hl 5 rfl) ?_
    refine q_ci (va_runV (As := [.ref k]) (rest := []) ⟨hx, hb, hml, hown, hts⟩ (kX16_value_0 l E f n k pa re ki wa no pn pr hd v b w a1 P D1 W1 hM1 hpn hK) (cwV 1 hts gX13_isSo_X16_value rfl rfl rfl (by decide +kernel) ⟨(Nat.le_of_ble_eq_true rfl), (Nat.le_of_ble_eq_true rfl)⟩) (q_pV hA hW hS (ci := 16) rfl hca1) rfl rfl hl.1 rfl (lv_room (Nat.le_of_ble_eq_true rfl)) dX13_isSo_20 ⟨(Nat.le_of_ble_eq_true rfl), (Nat.le_of_ble_eq_true rfl)⟩) hS (fun r_20x1 f_20x1 n_20x1 H locs hp hW hS => ?_)
    obtain ⟨rfl, rfl, rfl⟩ := hp
    have hW : q_W E (f) n H := hW
    refine lv_istore (lv' := [(4, .int (D1 hd v)), (3, .int 1), (2, .int (w01 (c_cmp 31 (D0 hd v) (E0 hd v) && true))), (5, .int (E0 hd v)), (0, .ref a), (1, .ref k)]) hx hb dX13_isSo_23 hl (by decide) rfl (fun ls hl => ?_)
    refine lv_aload_n hx hb dX13_isSo_25 rfl (lv_at hl 4 rfl) ?_
    refine q_get hx hb hts hown hA hW iX13 h0 rfl 5 (by decide) (hts (.fieldLink RX13 19 "HighRecipesLaw$Act" "others" "[LHighRecipesLaw$Node;") (by decide +kernel)) (fun _ h9 => h9) (v := .ref ot) rfl dX13_isSo_26 ?_
    refine lv_iload_n hx hb dX13_isSo_29 rfl (lv_at hl 1 rfl) ?_
    refine q_aald hx hb hA hW 7 rfl h3 (vp_in_nI (n := 1) (by decide) (by decide)) dX13_isSo_30 ?_
    rw [show gt (1 : Int32).toNatClampNeg = some c1 from hgt1]
    refine lv_aload_n hx hb dX13_isSo_31 rfl (lv_at hl 5 rfl) ?_
    refine q_ci (va_runV (As := [.ref k]) (rest := []) ⟨hx, hb, hml, hown, hts⟩ (kX16_value_0 l E f n k pa re ki wa no pn pr hd v b w c1 P E1 Y1 hQ1 hpn hK) (cwV 1 hts gX13_isSo_X16_value rfl rfl rfl (by decide +kernel) ⟨(Nat.le_of_ble_eq_true rfl), (Nat.le_of_ble_eq_true rfl)⟩) (q_pV hA hW hS (ci := 16) rfl hcc1) rfl rfl hl.1 rfl (lv_room (Nat.le_of_ble_eq_true rfl)) dX13_isSo_32 ⟨(Nat.le_of_ble_eq_true rfl), (Nat.le_of_ble_eq_true rfl)⟩) hS (fun r_32x1 f_32x1 n_32x1 H locs hp hW hS => ?_)
    obtain ⟨rfl, rfl, rfl⟩ := hp
    have hW : q_W E (f) n H := hW
    refine lv_istore (lv' := [(5, .int (E1 hd v)), (4, .int (D1 hd v)), (3, .int 1), (2, .int (w01 (c_cmp 31 (D0 hd v) (E0 hd v) && true))), (0, .ref a), (1, .ref k)]) hx hb dX13_isSo_35 hl (by decide) rfl (fun ls hl => ?_)
    refine lv_iload_n hx hb dX13_isSo_37 rfl (lv_at hl 3 rfl) ?_
    refine lv_aload_n hx hb dX13_isSo_38 rfl (lv_at hl 4 rfl) ?_
    refine q_get hx hb hts hown hA hW iX13 h0 rfl 3 (by decide) (hts (.fieldLink RX13 7 "HighRecipesLaw$Act" "signs" "[I") (by decide +kernel)) (fun _ h9 => h9) (v := .ref sg) rfl dX13_isSo_39 ?_
    refine lv_iload_n hx hb dX13_isSo_42 rfl (lv_at hl 2 rfl) ?_
    refine q_iald hx hb hA hW h1 (vp_in_nI (n := 1) (by decide) (by decide)) dX13_isSo_43 ?_
    rw [show gs (1 : Int32).toNatClampNeg = 0 from hgs1]
    refine lv_if_ne (tgt := 62) hx hb dX13_isSo_44 (by decide) (fun c_44 => absurd c_44 (by decide)) (fun c_44 => ?_)
    refine lv_iload hx hb dX13_isSo_47 (lv_at hl 1 rfl) ?_
    refine lv_iload hx hb dX13_isSo_49 (lv_at hl 0 rfl) ?_
    refine lv_icmp_ge (tgt := 58) hx hb dX13_isSo_51 (by decide) (fun c_51 => ?_) (fun c_51 => ?_)
    · refine lv_iconst (v := 0) hx hb dX13_isSo_58 (by decide) ?_
      refine lv_goto (tgt := 99) hx hb dX13_isSo_59 (by decide) ?_
      refine lv_iand hx hb dX13_isSo_99 ?_
      rw [show (w01 (c_cmp 31 (D0 hd v) (E0 hd v) && true) : Int32) &&& 0 = w01 (c_cmp 30 (D1 hd v) (E1 hd v) && (c_cmp 31 (D0 hd v) (E0 hd v) && true)) from w01_and2 rfl (w01_f (by show decide ((D1 hd v) < (E1 hd v)) = _; exact (decide_eq_false (Int32.not_lt.mpr c_51))))]
      refine lv_istore_n (lv' := [(2, .int (w01 (c_cmp 30 (D1 hd v) (E1 hd v) && (c_cmp 31 (D0 hd v) (E0 hd v) && true)))), (5, .int (E1 hd v)), (4, .int (D1 hd v)), (3, .int 1), (0, .ref a), (1, .ref k)]) hx hb dX13_isSo_100 rfl hl (by decide) rfl (fun ls hl => ?_)
      refine lv_iinc (v := 2) (lv' := [(3, .int 2), (2, .int (w01 (c_cmp 30 (D1 hd v) (E1 hd v) && (c_cmp 31 (D0 hd v) (E0 hd v) && true)))), (5, .int (E1 hd v)), (4, .int (D1 hd v)), (0, .ref a), (1, .ref k)]) hx hb dX13_isSo_101 hl (k := 3) rfl (by decide) (by decide) rfl (fun ls hl => ?_)
      refine lv_goto (tgt := 4) hx hb dX13_isSo_104 (by decide) ?_
      refine lv_iload_n hx hb dX13_isSo_4 rfl (lv_at hl 0 rfl) ?_
      refine lv_aload_n hx hb dX13_isSo_5 rfl (lv_at hl 4 rfl) ?_
      refine q_get hx hb hts hown hA hW iX13 h0 rfl 3 (by decide) (hts (.fieldLink RX13 7 "HighRecipesLaw$Act" "signs" "[I") (by decide +kernel)) (fun _ h9 => h9) (v := .ref sg) rfl dX13_isSo_6 ?_
      refine q_alen hx hb hA hW 0 rfl h1 (v := 2) rfl dX13_isSo_9 ?_
      refine lv_icmp_ge (tgt := 107) hx hb dX13_isSo_10 (by decide) (fun c_10 => ?_) (fun c_10 => absurd c_10 (by decide))
      refine lv_iload_n hx hb dX13_isSo_107 rfl (lv_at hl 1 rfl) ?_
      exact q_zret hx hb hr hlocks hW hS (by unfold w01; split <;> rfl) ⟨rfl, rfl, rfl⟩ (Nat.le_of_ble_eq_true rfl) (Nat.le_of_ble_eq_true rfl) dX13_isSo_108
    · refine lv_iconst (v := 1) hx hb dX13_isSo_54 (by decide) ?_
      refine lv_goto (tgt := 99) hx hb dX13_isSo_55 (by decide) ?_
      refine lv_iand hx hb dX13_isSo_99 ?_
      rw [show (w01 (c_cmp 31 (D0 hd v) (E0 hd v) && true) : Int32) &&& 1 = w01 (c_cmp 30 (D1 hd v) (E1 hd v) && (c_cmp 31 (D0 hd v) (E0 hd v) && true)) from w01_and2 rfl (w01_t (by show decide ((D1 hd v) < (E1 hd v)) = _; exact (decide_eq_true (Int32.not_le.mp c_51))))]
      refine lv_istore_n (lv' := [(2, .int (w01 (c_cmp 30 (D1 hd v) (E1 hd v) && (c_cmp 31 (D0 hd v) (E0 hd v) && true)))), (5, .int (E1 hd v)), (4, .int (D1 hd v)), (3, .int 1), (0, .ref a), (1, .ref k)]) hx hb dX13_isSo_100 rfl hl (by decide) rfl (fun ls hl => ?_)
      refine lv_iinc (v := 2) (lv' := [(3, .int 2), (2, .int (w01 (c_cmp 30 (D1 hd v) (E1 hd v) && (c_cmp 31 (D0 hd v) (E0 hd v) && true)))), (5, .int (E1 hd v)), (4, .int (D1 hd v)), (0, .ref a), (1, .ref k)]) hx hb dX13_isSo_101 hl (k := 3) rfl (by decide) (by decide) rfl (fun ls hl => ?_)
      refine lv_goto (tgt := 4) hx hb dX13_isSo_104 (by decide) ?_
      refine lv_iload_n hx hb dX13_isSo_4 rfl (lv_at hl 0 rfl) ?_
      refine lv_aload_n hx hb dX13_isSo_5 rfl (lv_at hl 4 rfl) ?_
      refine q_get hx hb hts hown hA hW iX13 h0 rfl 3 (by decide) (hts (.fieldLink RX13 7 "HighRecipesLaw$Act" "signs" "[I") (by decide +kernel)) (fun _ h9 => h9) (v := .ref sg) rfl dX13_isSo_6 ?_
      refine q_alen hx hb hA hW 0 rfl h1 (v := 2) rfl dX13_isSo_9 ?_
      refine lv_icmp_ge (tgt := 107) hx hb dX13_isSo_10 (by decide) (fun c_10 => ?_) (fun c_10 => absurd c_10 (by decide))
      refine lv_iload_n hx hb dX13_isSo_107 rfl (lv_at hl 1 rfl) ?_
      exact q_zret hx hb hr hlocks hW hS (by unfold w01; split <;> rfl) ⟨rfl, rfl, rfl⟩ (Nat.le_of_ble_eq_true rfl) (Nat.le_of_ble_eq_true rfl) dX13_isSo_108

set_option maxHeartbeats 4000000 in
set_option maxRecDepth 100000 in
theorem kX13_isSo_11 (l : Launch) (E : q_E) (f : q_H) (n : Nat) (k pa re ki wa no pn : Nat) (pr : Nat → Nat) (hd v : q_V) (b : Nat) (w : Int32) (a sg on ot : Nat) (a0 c0 : Nat) (D0 E0 : q_D) (W0 Y0 : List Int32) (a1 c1 : Nat) (D1 E1 : q_D) (W1 Y1 : List Int32) (do_ wh : Int32) (va bl el : Option Nat) (P : Nat → Prop) (gs : Nat → Int32) (go gt : Nat → Option Nat) (h0 : f a = some (cLA do_ wh va (some sg) (some on) (some ot) bl el)) (h1 : f sg = some (aI E 2 gs)) (h2 : f on = some (aQ E 7 2 go)) (h3 : f ot = some (aQ E 7 2 gt)) (hgs0 : gs 0 = 1) (hgo0 : go 0 = some a0) (hgt0 : gt 0 = some c0) (hM0 : NODE pn P f 0 a0 D0 W0) (hQ0 : NODE pn P f 0 c0 E0 Y0) (hgs1 : gs 1 = 1) (hgo1 : go 1 = some a1) (hgt1 : gt 1 = some c1) (hM1 : NODE pn P f 0 a1 D1 W1) (hQ1 : NODE pn P f 0 c1 E1 Y1) (hpn : pn ≤ 8) (hK : LK E f k pa re ki wa no pn pr hd v b w) : Met l yX13_isSo wsX13_isSo ({ frames := 6, cells := 0, slots := 0, locals := 300 }) (q_P E [.ref a, .ref k] f n) (q_Qi E (fun r f1 n1 => w01 (c_cmp 31 (D1 hd v) (E1 hd v) && (c_cmp 31 (D0 hd v) (E0 hd v) && true)) = r ∧ f = f1 ∧ n = n1)) 0 0 (q_ge E) := by
  refine Met.ofW (cc := cX13_isSo) (maxL := 6) (ret := (some .boolean)) (by decide) rfl ?_
  intro p0_ e0_ s0_ m0_ args0_ below0_ meth0_ c0_ s1_ B hml hv
  obtain ⟨rfl, hA, hW⟩ := hv
  have hx := B.exec
  have hb := B.bytes
  have hr := B.returns
  have hts := atoms_spec (ws := wsX13_isSo) B.pre
  have hown : s0_.vm.findClass RX13 = some m0_.cls := findClass_of_methodNamed B.named
  have hlocks := B.notSynchronized
  have hS : va_S (q_ge E) s0_.heap s0_.heap [] := va_S.rf
  have iX13 : ∀ w ∈ wsX130, w ∈ wsX13_isSo := by decide +kernel
  have hl := lv_entry ([.ref a, .ref k]) (n := 6) (Nat.le_of_ble_eq_true rfl)
  rw [lg_entry_eq]
  generalize (lg_sl ([.ref a, .ref k]) ++ List.replicate (6 - (lg_sl ([.ref a, .ref k])).length) Slot.unset).toArray = ls at hl ⊢
  have hl : lv_has ls 6 [(0, .ref a), (1, .ref k)] := hl
  obtain ⟨hk0, ⟨gk, hki, hkv⟩, ⟨gw, hwa, hwv⟩, ⟨gn, hno, hnv⟩, ⟨gp, hpa, hpv⟩, hrow⟩ := id hK
  have l_k := hW.lt hk0
  have l_ki := hW.lt hki
  have l_wa := hW.lt hwa
  have l_no := hW.lt hno
  have l_pa := hW.lt hpa
  obtain ⟨-, so0, ka0, xa0, ya0, hca0⟩ := hM0.cell
  obtain ⟨-, sp0, kc0, xc0, yc0, hcc0⟩ := hQ0.cell
  obtain ⟨-, so1, ka1, xa1, ya1, hca1⟩ := hM1.cell
  obtain ⟨-, sp1, kc1, xc1, yc1, hcc1⟩ := hQ1.cell
  refine lv_iconst (v := 1) hx hb dX13_isSo_0 (by decide) ?_
  refine lv_istore_n (lv' := [(2, .int 1), (0, .ref a), (1, .ref k)]) hx hb dX13_isSo_1 rfl hl (by decide) rfl (fun ls hl => ?_)
  refine lv_iconst (v := 0) hx hb dX13_isSo_2 (by decide) ?_
  refine lv_istore_n (lv' := [(3, .int 0), (2, .int 1), (0, .ref a), (1, .ref k)]) hx hb dX13_isSo_3 rfl hl (by decide) rfl (fun ls hl => ?_)
  refine lv_iload_n hx hb dX13_isSo_4 rfl (lv_at hl 0 rfl) ?_
  refine lv_aload_n hx hb dX13_isSo_5 rfl (lv_at hl 2 rfl) ?_
  refine q_get hx hb hts hown hA hW iX13 h0 rfl 3 (by decide) (hts (.fieldLink RX13 7 "HighRecipesLaw$Act" "signs" "[I") (by decide +kernel)) (fun _ h9 => h9) (v := .ref sg) rfl dX13_isSo_6 ?_
  refine q_alen hx hb hA hW 0 rfl h1 (v := 2) rfl dX13_isSo_9 ?_
  refine lv_icmp_ge (tgt := 107) hx hb dX13_isSo_10 (by decide) (fun c_10 => absurd c_10 (by decide)) (fun c_10 => ?_)
  refine lv_aload_n hx hb dX13_isSo_13 rfl (lv_at hl 2 rfl) ?_
  refine q_get hx hb hts hown hA hW iX13 h0 rfl 4 (by decide) (hts (.fieldLink RX13 15 "HighRecipesLaw$Act" "ones" "[LHighRecipesLaw$Node;") (by decide +kernel)) (fun _ h9 => h9) (v := .ref on) rfl dX13_isSo_14 ?_
  refine lv_iload_n hx hb dX13_isSo_17 rfl (lv_at hl 0 rfl) ?_
  refine q_aald hx hb hA hW 7 rfl h2 (vp_in_nI (n := 0) (by decide) (by decide)) dX13_isSo_18 ?_
  rw [show go (0 : Int32).toNatClampNeg = some a0 from hgo0]
  refine lv_aload_n hx hb dX13_isSo_19 rfl (lv_at hl 3 rfl) ?_
  refine q_ci (va_runV (As := [.ref k]) (rest := []) ⟨hx, hb, hml, hown, hts⟩ (kX16_value_0 l E f n k pa re ki wa no pn pr hd v b w a0 P D0 W0 hM0 hpn hK) (cwV 1 hts gX13_isSo_X16_value rfl rfl rfl (by decide +kernel) ⟨(Nat.le_of_ble_eq_true rfl), (Nat.le_of_ble_eq_true rfl)⟩) (q_pV hA hW hS (ci := 16) rfl hca0) rfl rfl hl.1 rfl (lv_room (Nat.le_of_ble_eq_true rfl)) dX13_isSo_20 ⟨(Nat.le_of_ble_eq_true rfl), (Nat.le_of_ble_eq_true rfl)⟩) hS (fun r_20 f_20 n_20 H locs hp hW hS => ?_)
  obtain ⟨rfl, rfl, rfl⟩ := hp
  have hW : q_W E (f) n H := hW
  refine lv_istore (lv' := [(4, .int (D0 hd v)), (3, .int 0), (2, .int 1), (0, .ref a), (1, .ref k)]) hx hb dX13_isSo_23 hl (by decide) rfl (fun ls hl => ?_)
  refine lv_aload_n hx hb dX13_isSo_25 rfl (lv_at hl 3 rfl) ?_
  refine q_get hx hb hts hown hA hW iX13 h0 rfl 5 (by decide) (hts (.fieldLink RX13 19 "HighRecipesLaw$Act" "others" "[LHighRecipesLaw$Node;") (by decide +kernel)) (fun _ h9 => h9) (v := .ref ot) rfl dX13_isSo_26 ?_
  refine lv_iload_n hx hb dX13_isSo_29 rfl (lv_at hl 1 rfl) ?_
  refine q_aald hx hb hA hW 7 rfl h3 (vp_in_nI (n := 0) (by decide) (by decide)) dX13_isSo_30 ?_
  rw [show gt (0 : Int32).toNatClampNeg = some c0 from hgt0]
  refine lv_aload_n hx hb dX13_isSo_31 rfl (lv_at hl 4 rfl) ?_
  refine q_ci (va_runV (As := [.ref k]) (rest := []) ⟨hx, hb, hml, hown, hts⟩ (kX16_value_0 l E f n k pa re ki wa no pn pr hd v b w c0 P E0 Y0 hQ0 hpn hK) (cwV 1 hts gX13_isSo_X16_value rfl rfl rfl (by decide +kernel) ⟨(Nat.le_of_ble_eq_true rfl), (Nat.le_of_ble_eq_true rfl)⟩) (q_pV hA hW hS (ci := 16) rfl hcc0) rfl rfl hl.1 rfl (lv_room (Nat.le_of_ble_eq_true rfl)) dX13_isSo_32 ⟨(Nat.le_of_ble_eq_true rfl), (Nat.le_of_ble_eq_true rfl)⟩) hS (fun r_32 f_32 n_32 H locs hp hW hS => ?_)
  obtain ⟨rfl, rfl, rfl⟩ := hp
  have hW : q_W E (f) n H := hW
  refine lv_istore (lv' := [(5, .int (E0 hd v)), (4, .int (D0 hd v)), (3, .int 0), (2, .int 1), (0, .ref a), (1, .ref k)]) hx hb dX13_isSo_35 hl (by decide) rfl (fun ls hl => ?_)
  refine lv_iload_n hx hb dX13_isSo_37 rfl (lv_at hl 3 rfl) ?_
  refine lv_aload_n hx hb dX13_isSo_38 rfl (lv_at hl 4 rfl) ?_
  refine q_get hx hb hts hown hA hW iX13 h0 rfl 3 (by decide) (hts (.fieldLink RX13 7 "HighRecipesLaw$Act" "signs" "[I") (by decide +kernel)) (fun _ h9 => h9) (v := .ref sg) rfl dX13_isSo_39 ?_
  refine lv_iload_n hx hb dX13_isSo_42 rfl (lv_at hl 2 rfl) ?_
  refine q_iald hx hb hA hW h1 (vp_in_nI (n := 0) (by decide) (by decide)) dX13_isSo_43 ?_
  rw [show gs (0 : Int32).toNatClampNeg = 1 from hgs0]
  refine lv_if_ne (tgt := 62) hx hb dX13_isSo_44 (by decide) (fun c_44 => ?_) (fun c_44 => absurd c_44 (by decide))
  refine lv_aload_n hx hb dX13_isSo_62 rfl (lv_at hl 4 rfl) ?_
  refine q_get hx hb hts hown hA hW iX13 h0 rfl 3 (by decide) (hts (.fieldLink RX13 7 "HighRecipesLaw$Act" "signs" "[I") (by decide +kernel)) (fun _ h9 => h9) (v := .ref sg) rfl dX13_isSo_63 ?_
  refine lv_iload_n hx hb dX13_isSo_66 rfl (lv_at hl 2 rfl) ?_
  refine q_iald hx hb hA hW h1 (vp_in_nI (n := 0) (by decide) (by decide)) dX13_isSo_67 ?_
  rw [show gs (0 : Int32).toNatClampNeg = 1 from hgs0]
  refine lv_iconst (v := 1) hx hb dX13_isSo_68 (by decide) ?_
  refine lv_icmp_ne (tgt := 87) hx hb dX13_isSo_69 (by decide) (fun c_69 => absurd c_69 (by decide)) (fun c_69 => ?_)
  refine lv_iload hx hb dX13_isSo_72 (lv_at hl 1 rfl) ?_
  refine lv_iload hx hb dX13_isSo_74 (lv_at hl 0 rfl) ?_
  refine lv_icmp_le (tgt := 83) hx hb dX13_isSo_76 (by decide) (fun c_76 => ?_) (fun c_76 => ?_)
  · refine lv_iconst (v := 0) hx hb dX13_isSo_83 (by decide) ?_
    refine lv_goto (tgt := 99) hx hb dX13_isSo_84 (by decide) ?_
    refine lv_iand hx hb dX13_isSo_99 ?_
    rw [show (1 : Int32) &&& 0 = w01 (c_cmp 31 (D0 hd v) (E0 hd v) && true) from w01_and2 rfl (w01_f (by show decide ((E0 hd v) < (D0 hd v)) = _; exact (decide_eq_false (Int32.not_lt.mpr c_76))))]
    refine lv_istore_n (lv' := [(2, .int (w01 (c_cmp 31 (D0 hd v) (E0 hd v) && true))), (5, .int (E0 hd v)), (4, .int (D0 hd v)), (3, .int 0), (0, .ref a), (1, .ref k)]) hx hb dX13_isSo_100 rfl hl (by decide) rfl (fun ls hl => ?_)
    refine lv_iinc (v := 1) (lv' := [(3, .int 1), (2, .int (w01 (c_cmp 31 (D0 hd v) (E0 hd v) && true))), (5, .int (E0 hd v)), (4, .int (D0 hd v)), (0, .ref a), (1, .ref k)]) hx hb dX13_isSo_101 hl (k := 3) rfl (by decide) (by decide) rfl (fun ls hl => ?_)
    refine lv_goto (tgt := 4) hx hb dX13_isSo_104 (by decide) ?_
    refine lv_iload_n hx hb dX13_isSo_4 rfl (lv_at hl 0 rfl) ?_
    refine lv_aload_n hx hb dX13_isSo_5 rfl (lv_at hl 4 rfl) ?_
    refine q_get hx hb hts hown hA hW iX13 h0 rfl 3 (by decide) (hts (.fieldLink RX13 7 "HighRecipesLaw$Act" "signs" "[I") (by decide +kernel)) (fun _ h9 => h9) (v := .ref sg) rfl dX13_isSo_6 ?_
    refine q_alen hx hb hA hW 0 rfl h1 (v := 2) rfl dX13_isSo_9 ?_
    refine lv_icmp_ge (tgt := 107) hx hb dX13_isSo_10 (by decide) (fun c_10 => absurd c_10 (by decide)) (fun c_10 => ?_)
    refine lv_aload_n hx hb dX13_isSo_13 rfl (lv_at hl 4 rfl) ?_
    refine q_get hx hb hts hown hA hW iX13 h0 rfl 4 (by decide) (hts (.fieldLink RX13 15 "HighRecipesLaw$Act" "ones" "[LHighRecipesLaw$Node;") (by decide +kernel)) (fun _ h9 => h9) (v := .ref on) rfl dX13_isSo_14 ?_
    refine lv_iload_n hx hb dX13_isSo_17 rfl (lv_at hl 0 rfl) ?_
    refine q_aald hx hb hA hW 7 rfl h2 (vp_in_nI (n := 1) (by decide) (by decide)) dX13_isSo_18 ?_
    rw [show go (1 : Int32).toNatClampNeg = some a1 from hgo1]
    refine lv_aload_n hx hb dX13_isSo_19 rfl (lv_at hl 5 rfl) ?_
    refine q_ci (va_runV (As := [.ref k]) (rest := []) ⟨hx, hb, hml, hown, hts⟩ (kX16_value_0 l E f n k pa re ki wa no pn pr hd v b w a1 P D1 W1 hM1 hpn hK) (cwV 1 hts gX13_isSo_X16_value rfl rfl rfl (by decide +kernel) ⟨(Nat.le_of_ble_eq_true rfl), (Nat.le_of_ble_eq_true rfl)⟩) (q_pV hA hW hS (ci := 16) rfl hca1) rfl rfl hl.1 rfl (lv_room (Nat.le_of_ble_eq_true rfl)) dX13_isSo_20 ⟨(Nat.le_of_ble_eq_true rfl), (Nat.le_of_ble_eq_true rfl)⟩) hS (fun r_20x1 f_20x1 n_20x1 H locs hp hW hS => ?_)
    obtain ⟨rfl, rfl, rfl⟩ := hp
    have hW : q_W E (f) n H := hW
    refine lv_istore (lv' := [(4, .int (D1 hd v)), (3, .int 1), (2, .int (w01 (c_cmp 31 (D0 hd v) (E0 hd v) && true))), (5, .int (E0 hd v)), (0, .ref a), (1, .ref k)]) hx hb dX13_isSo_23 hl (by decide) rfl (fun ls hl => ?_)
    refine lv_aload_n hx hb dX13_isSo_25 rfl (lv_at hl 4 rfl) ?_
    refine q_get hx hb hts hown hA hW iX13 h0 rfl 5 (by decide) (hts (.fieldLink RX13 19 "HighRecipesLaw$Act" "others" "[LHighRecipesLaw$Node;") (by decide +kernel)) (fun _ h9 => h9) (v := .ref ot) rfl dX13_isSo_26 ?_
    refine lv_iload_n hx hb dX13_isSo_29 rfl (lv_at hl 1 rfl) ?_
    refine q_aald hx hb hA hW 7 rfl h3 (vp_in_nI (n := 1) (by decide) (by decide)) dX13_isSo_30 ?_
    rw [show gt (1 : Int32).toNatClampNeg = some c1 from hgt1]
    refine lv_aload_n hx hb dX13_isSo_31 rfl (lv_at hl 5 rfl) ?_
    refine q_ci (va_runV (As := [.ref k]) (rest := []) ⟨hx, hb, hml, hown, hts⟩ (kX16_value_0 l E f n k pa re ki wa no pn pr hd v b w c1 P E1 Y1 hQ1 hpn hK) (cwV 1 hts gX13_isSo_X16_value rfl rfl rfl (by decide +kernel) ⟨(Nat.le_of_ble_eq_true rfl), (Nat.le_of_ble_eq_true rfl)⟩) (q_pV hA hW hS (ci := 16) rfl hcc1) rfl rfl hl.1 rfl (lv_room (Nat.le_of_ble_eq_true rfl)) dX13_isSo_32 ⟨(Nat.le_of_ble_eq_true rfl), (Nat.le_of_ble_eq_true rfl)⟩) hS (fun r_32x1 f_32x1 n_32x1 H locs hp hW hS => ?_)
    obtain ⟨rfl, rfl, rfl⟩ := hp
    have hW : q_W E (f) n H := hW
    refine lv_istore (lv' := [(5, .int (E1 hd v)), (4, .int (D1 hd v)), (3, .int 1), (2, .int (w01 (c_cmp 31 (D0 hd v) (E0 hd v) && true))), (0, .ref a), (1, .ref k)]) hx hb dX13_isSo_35 hl (by decide) rfl (fun ls hl => ?_)
    refine lv_iload_n hx hb dX13_isSo_37 rfl (lv_at hl 3 rfl) ?_
    refine lv_aload_n hx hb dX13_isSo_38 rfl (lv_at hl 4 rfl) ?_
    refine q_get hx hb hts hown hA hW iX13 h0 rfl 3 (by decide) (hts (.fieldLink RX13 7 "HighRecipesLaw$Act" "signs" "[I") (by decide +kernel)) (fun _ h9 => h9) (v := .ref sg) rfl dX13_isSo_39 ?_
    refine lv_iload_n hx hb dX13_isSo_42 rfl (lv_at hl 2 rfl) ?_
    refine q_iald hx hb hA hW h1 (vp_in_nI (n := 1) (by decide) (by decide)) dX13_isSo_43 ?_
    rw [show gs (1 : Int32).toNatClampNeg = 1 from hgs1]
    refine lv_if_ne (tgt := 62) hx hb dX13_isSo_44 (by decide) (fun c_44 => ?_) (fun c_44 => absurd c_44 (by decide))
    refine lv_aload_n hx hb dX13_isSo_62 rfl (lv_at hl 4 rfl) ?_
    refine q_get hx hb hts hown hA hW iX13 h0 rfl 3 (by decide) (hts (.fieldLink RX13 7 "HighRecipesLaw$Act" "signs" "[I") (by decide +kernel)) (fun _ h9 => h9) (v := .ref sg) rfl dX13_isSo_63 ?_
    refine lv_iload_n hx hb dX13_isSo_66 rfl (lv_at hl 2 rfl) ?_
    refine q_iald hx hb hA hW h1 (vp_in_nI (n := 1) (by decide) (by decide)) dX13_isSo_67 ?_
    rw [show gs (1 : Int32).toNatClampNeg = 1 from hgs1]
    refine lv_iconst (v := 1) hx hb dX13_isSo_68 (by decide) ?_
    refine lv_icmp_ne (tgt := 87) hx hb dX13_isSo_69 (by decide) (fun c_69 => absurd c_69 (by decide)) (fun c_69 => ?_)
    refine lv_iload hx hb dX13_isSo_72 (lv_at hl 1 rfl) ?_
    refine lv_iload hx hb dX13_isSo_74 (lv_at hl 0 rfl) ?_
    refine lv_icmp_le (tgt := 83) hx hb dX13_isSo_76 (by decide) (fun c_76 => ?_) (fun c_76 => ?_)
    · refine lv_iconst (v := 0) hx hb dX13_isSo_83 (by decide) ?_
      refine lv_goto (tgt := 99) hx hb dX13_isSo_84 (by decide) ?_
      refine lv_iand hx hb dX13_isSo_99 ?_
      rw [show (w01 (c_cmp 31 (D0 hd v) (E0 hd v) && true) : Int32) &&& 0 = w01 (c_cmp 31 (D1 hd v) (E1 hd v) && (c_cmp 31 (D0 hd v) (E0 hd v) && true)) from w01_and2 rfl (w01_f (by show decide ((E1 hd v) < (D1 hd v)) = _; exact (decide_eq_false (Int32.not_lt.mpr c_76))))]
      refine lv_istore_n (lv' := [(2, .int (w01 (c_cmp 31 (D1 hd v) (E1 hd v) && (c_cmp 31 (D0 hd v) (E0 hd v) && true)))), (5, .int (E1 hd v)), (4, .int (D1 hd v)), (3, .int 1), (0, .ref a), (1, .ref k)]) hx hb dX13_isSo_100 rfl hl (by decide) rfl (fun ls hl => ?_)
      refine lv_iinc (v := 2) (lv' := [(3, .int 2), (2, .int (w01 (c_cmp 31 (D1 hd v) (E1 hd v) && (c_cmp 31 (D0 hd v) (E0 hd v) && true)))), (5, .int (E1 hd v)), (4, .int (D1 hd v)), (0, .ref a), (1, .ref k)]) hx hb dX13_isSo_101 hl (k := 3) rfl (by decide) (by decide) rfl (fun ls hl => ?_)
      refine lv_goto (tgt := 4) hx hb dX13_isSo_104 (by decide) ?_
      refine lv_iload_n hx hb dX13_isSo_4 rfl (lv_at hl 0 rfl) ?_
      refine lv_aload_n hx hb dX13_isSo_5 rfl (lv_at hl 4 rfl) ?_
      refine q_get hx hb hts hown hA hW iX13 h0 rfl 3 (by decide) (hts (.fieldLink RX13 7 "HighRecipesLaw$Act" "signs" "[I") (by decide +kernel)) (fun _ h9 => h9) (v := .ref sg) rfl dX13_isSo_6 ?_
      refine q_alen hx hb hA hW 0 rfl h1 (v := 2) rfl dX13_isSo_9 ?_
      refine lv_icmp_ge (tgt := 107) hx hb dX13_isSo_10 (by decide) (fun c_10 => ?_) (fun c_10 => absurd c_10 (by decide))
      refine lv_iload_n hx hb dX13_isSo_107 rfl (lv_at hl 1 rfl) ?_
      exact q_zret hx hb hr hlocks hW hS (by unfold w01; split <;> rfl) ⟨rfl, rfl, rfl⟩ (Nat.le_of_ble_eq_true rfl) (Nat.le_of_ble_eq_true rfl) dX13_isSo_108
    · refine lv_iconst (v := 1) hx hb dX13_isSo_79 (by decide) ?_
      refine lv_goto (tgt := 99) hx hb dX13_isSo_80 (by decide) ?_
      refine lv_iand hx hb dX13_isSo_99 ?_
      rw [show (w01 (c_cmp 31 (D0 hd v) (E0 hd v) && true) : Int32) &&& 1 = w01 (c_cmp 31 (D1 hd v) (E1 hd v) && (c_cmp 31 (D0 hd v) (E0 hd v) && true)) from w01_and2 rfl (w01_t (by show decide ((E1 hd v) < (D1 hd v)) = _; exact (decide_eq_true (Int32.not_le.mp c_76))))]
      refine lv_istore_n (lv' := [(2, .int (w01 (c_cmp 31 (D1 hd v) (E1 hd v) && (c_cmp 31 (D0 hd v) (E0 hd v) && true)))), (5, .int (E1 hd v)), (4, .int (D1 hd v)), (3, .int 1), (0, .ref a), (1, .ref k)]) hx hb dX13_isSo_100 rfl hl (by decide) rfl (fun ls hl => ?_)
      refine lv_iinc (v := 2) (lv' := [(3, .int 2), (2, .int (w01 (c_cmp 31 (D1 hd v) (E1 hd v) && (c_cmp 31 (D0 hd v) (E0 hd v) && true)))), (5, .int (E1 hd v)), (4, .int (D1 hd v)), (0, .ref a), (1, .ref k)]) hx hb dX13_isSo_101 hl (k := 3) rfl (by decide) (by decide) rfl (fun ls hl => ?_)
      refine lv_goto (tgt := 4) hx hb dX13_isSo_104 (by decide) ?_
      refine lv_iload_n hx hb dX13_isSo_4 rfl (lv_at hl 0 rfl) ?_
      refine lv_aload_n hx hb dX13_isSo_5 rfl (lv_at hl 4 rfl) ?_
      refine q_get hx hb hts hown hA hW iX13 h0 rfl 3 (by decide) (hts (.fieldLink RX13 7 "HighRecipesLaw$Act" "signs" "[I") (by decide +kernel)) (fun _ h9 => h9) (v := .ref sg) rfl dX13_isSo_6 ?_
      refine q_alen hx hb hA hW 0 rfl h1 (v := 2) rfl dX13_isSo_9 ?_
      refine lv_icmp_ge (tgt := 107) hx hb dX13_isSo_10 (by decide) (fun c_10 => ?_) (fun c_10 => absurd c_10 (by decide))
      refine lv_iload_n hx hb dX13_isSo_107 rfl (lv_at hl 1 rfl) ?_
      exact q_zret hx hb hr hlocks hW hS (by unfold w01; split <;> rfl) ⟨rfl, rfl, rfl⟩ (Nat.le_of_ble_eq_true rfl) (Nat.le_of_ble_eq_true rfl) dX13_isSo_108
  · refine lv_iconst (v := 1) hx hb dX13_isSo_79 (by decide) ?_
    refine lv_goto (tgt := 99) hx hb dX13_isSo_80 (by decide) ?_
    refine lv_iand hx hb dX13_isSo_99 ?_
    rw [show (1 : Int32) &&& 1 = w01 (c_cmp 31 (D0 hd v) (E0 hd v) && true) from w01_and2 rfl (w01_t (by show decide ((E0 hd v) < (D0 hd v)) = _; exact (decide_eq_true (Int32.not_le.mp c_76))))]
    refine lv_istore_n (lv' := [(2, .int (w01 (c_cmp 31 (D0 hd v) (E0 hd v) && true))), (5, .int (E0 hd v)), (4, .int (D0 hd v)), (3, .int 0), (0, .ref a), (1, .ref k)]) hx hb dX13_isSo_100 rfl hl (by decide) rfl (fun ls hl => ?_)
    refine lv_iinc (v := 1) (lv' := [(3, .int 1), (2, .int (w01 (c_cmp 31 (D0 hd v) (E0 hd v) && true))), (5, .int (E0 hd v)), (4, .int (D0 hd v)), (0, .ref a), (1, .ref k)]) hx hb dX13_isSo_101 hl (k := 3) rfl (by decide) (by decide) rfl (fun ls hl => ?_)
    refine lv_goto (tgt := 4) hx hb dX13_isSo_104 (by decide) ?_
    refine lv_iload_n hx hb dX13_isSo_4 rfl (lv_at hl 0 rfl) ?_
    refine lv_aload_n hx hb dX13_isSo_5 rfl (lv_at hl 4 rfl) ?_
    refine q_get hx hb hts hown hA hW iX13 h0 rfl 3 (by decide) (hts (.fieldLink RX13 7 "HighRecipesLaw$Act" "signs" "[I") (by decide +kernel)) (fun _ h9 => h9) (v := .ref sg) rfl dX13_isSo_6 ?_
    refine q_alen hx hb hA hW 0 rfl h1 (v := 2) rfl dX13_isSo_9 ?_
    refine lv_icmp_ge (tgt := 107) hx hb dX13_isSo_10 (by decide) (fun c_10 => absurd c_10 (by decide)) (fun c_10 => ?_)
    refine lv_aload_n hx hb dX13_isSo_13 rfl (lv_at hl 4 rfl) ?_
    refine q_get hx hb hts hown hA hW iX13 h0 rfl 4 (by decide) (hts (.fieldLink RX13 15 "HighRecipesLaw$Act" "ones" "[LHighRecipesLaw$Node;") (by decide +kernel)) (fun _ h9 => h9) (v := .ref on) rfl dX13_isSo_14 ?_
    refine lv_iload_n hx hb dX13_isSo_17 rfl (lv_at hl 0 rfl) ?_
    refine q_aald hx hb hA hW 7 rfl h2 (vp_in_nI (n := 1) (by decide) (by decide)) dX13_isSo_18 ?_
    rw [show go (1 : Int32).toNatClampNeg = some a1 from hgo1]
    refine lv_aload_n hx hb dX13_isSo_19 rfl (lv_at hl 5 rfl) ?_
    refine q_ci (va_runV (As := [.ref k]) (rest := []) ⟨hx, hb, hml, hown, hts⟩ (kX16_value_0 l E f n k pa re ki wa no pn pr hd v b w a1 P D1 W1 hM1 hpn hK) (cwV 1 hts gX13_isSo_X16_value rfl rfl rfl (by decide +kernel) ⟨(Nat.le_of_ble_eq_true rfl), (Nat.le_of_ble_eq_true rfl)⟩) (q_pV hA hW hS (ci := 16) rfl hca1) rfl rfl hl.1 rfl (lv_room (Nat.le_of_ble_eq_true rfl)) dX13_isSo_20 ⟨(Nat.le_of_ble_eq_true rfl), (Nat.le_of_ble_eq_true rfl)⟩) hS (fun r_20x1 f_20x1 n_20x1 H locs hp hW hS => ?_)
    obtain ⟨rfl, rfl, rfl⟩ := hp
    have hW : q_W E (f) n H := hW
    refine lv_istore (lv' := [(4, .int (D1 hd v)), (3, .int 1), (2, .int (w01 (c_cmp 31 (D0 hd v) (E0 hd v) && true))), (5, .int (E0 hd v)), (0, .ref a), (1, .ref k)]) hx hb dX13_isSo_23 hl (by decide) rfl (fun ls hl => ?_)
    refine lv_aload_n hx hb dX13_isSo_25 rfl (lv_at hl 4 rfl) ?_
    refine q_get hx hb hts hown hA hW iX13 h0 rfl 5 (by decide) (hts (.fieldLink RX13 19 "HighRecipesLaw$Act" "others" "[LHighRecipesLaw$Node;") (by decide +kernel)) (fun _ h9 => h9) (v := .ref ot) rfl dX13_isSo_26 ?_
    refine lv_iload_n hx hb dX13_isSo_29 rfl (lv_at hl 1 rfl) ?_
    refine q_aald hx hb hA hW 7 rfl h3 (vp_in_nI (n := 1) (by decide) (by decide)) dX13_isSo_30 ?_
    rw [show gt (1 : Int32).toNatClampNeg = some c1 from hgt1]
    refine lv_aload_n hx hb dX13_isSo_31 rfl (lv_at hl 5 rfl) ?_
    refine q_ci (va_runV (As := [.ref k]) (rest := []) ⟨hx, hb, hml, hown, hts⟩ (kX16_value_0 l E f n k pa re ki wa no pn pr hd v b w c1 P E1 Y1 hQ1 hpn hK) (cwV 1 hts gX13_isSo_X16_value rfl rfl rfl (by decide +kernel) ⟨(Nat.le_of_ble_eq_true rfl), (Nat.le_of_ble_eq_true rfl)⟩) (q_pV hA hW hS (ci := 16) rfl hcc1) rfl rfl hl.1 rfl (lv_room (Nat.le_of_ble_eq_true rfl)) dX13_isSo_32 ⟨(Nat.le_of_ble_eq_true rfl), (Nat.le_of_ble_eq_true rfl)⟩) hS (fun r_32x1 f_32x1 n_32x1 H locs hp hW hS => ?_)
    obtain ⟨rfl, rfl, rfl⟩ := hp
    have hW : q_W E (f) n H := hW
    refine lv_istore (lv' := [(5, .int (E1 hd v)), (4, .int (D1 hd v)), (3, .int 1), (2, .int (w01 (c_cmp 31 (D0 hd v) (E0 hd v) && true))), (0, .ref a), (1, .ref k)]) hx hb dX13_isSo_35 hl (by decide) rfl (fun ls hl => ?_)
    refine lv_iload_n hx hb dX13_isSo_37 rfl (lv_at hl 3 rfl) ?_
    refine lv_aload_n hx hb dX13_isSo_38 rfl (lv_at hl 4 rfl) ?_
    refine q_get hx hb hts hown hA hW iX13 h0 rfl 3 (by decide) (hts (.fieldLink RX13 7 "HighRecipesLaw$Act" "signs" "[I") (by decide +kernel)) (fun _ h9 => h9) (v := .ref sg) rfl dX13_isSo_39 ?_
    refine lv_iload_n hx hb dX13_isSo_42 rfl (lv_at hl 2 rfl) ?_
    refine q_iald hx hb hA hW h1 (vp_in_nI (n := 1) (by decide) (by decide)) dX13_isSo_43 ?_
    rw [show gs (1 : Int32).toNatClampNeg = 1 from hgs1]
    refine lv_if_ne (tgt := 62) hx hb dX13_isSo_44 (by decide) (fun c_44 => ?_) (fun c_44 => absurd c_44 (by decide))
    refine lv_aload_n hx hb dX13_isSo_62 rfl (lv_at hl 4 rfl) ?_
    refine q_get hx hb hts hown hA hW iX13 h0 rfl 3 (by decide) (hts (.fieldLink RX13 7 "HighRecipesLaw$Act" "signs" "[I") (by decide +kernel)) (fun _ h9 => h9) (v := .ref sg) rfl dX13_isSo_63 ?_
    refine lv_iload_n hx hb dX13_isSo_66 rfl (lv_at hl 2 rfl) ?_
    refine q_iald hx hb hA hW h1 (vp_in_nI (n := 1) (by decide) (by decide)) dX13_isSo_67 ?_
    rw [show gs (1 : Int32).toNatClampNeg = 1 from hgs1]
    refine lv_iconst (v := 1) hx hb dX13_isSo_68 (by decide) ?_
    refine lv_icmp_ne (tgt := 87) hx hb dX13_isSo_69 (by decide) (fun c_69 => absurd c_69 (by decide)) (fun c_69 => ?_)
    refine lv_iload hx hb dX13_isSo_72 (lv_at hl 1 rfl) ?_
    refine lv_iload hx hb dX13_isSo_74 (lv_at hl 0 rfl) ?_
    refine lv_icmp_le (tgt := 83) hx hb dX13_isSo_76 (by decide) (fun c_76 => ?_) (fun c_76 => ?_)
    · refine lv_iconst (v := 0) hx hb dX13_isSo_83 (by decide) ?_
      refine lv_goto (tgt := 99) hx hb dX13_isSo_84 (by decide) ?_
      refine lv_iand hx hb dX13_isSo_99 ?_
      rw [show (w01 (c_cmp 31 (D0 hd v) (E0 hd v) && true) : Int32) &&& 0 = w01 (c_cmp 31 (D1 hd v) (E1 hd v) && (c_cmp 31 (D0 hd v) (E0 hd v) && true)) from w01_and2 rfl (w01_f (by show decide ((E1 hd v) < (D1 hd v)) = _; exact (decide_eq_false (Int32.not_lt.mpr c_76))))]
      refine lv_istore_n (lv' := [(2, .int (w01 (c_cmp 31 (D1 hd v) (E1 hd v) && (c_cmp 31 (D0 hd v) (E0 hd v) && true)))), (5, .int (E1 hd v)), (4, .int (D1 hd v)), (3, .int 1), (0, .ref a), (1, .ref k)]) hx hb dX13_isSo_100 rfl hl (by decide) rfl (fun ls hl => ?_)
      refine lv_iinc (v := 2) (lv' := [(3, .int 2), (2, .int (w01 (c_cmp 31 (D1 hd v) (E1 hd v) && (c_cmp 31 (D0 hd v) (E0 hd v) && true)))), (5, .int (E1 hd v)), (4, .int (D1 hd v)), (0, .ref a), (1, .ref k)]) hx hb dX13_isSo_101 hl (k := 3) rfl (by decide) (by decide) rfl (fun ls hl => ?_)
      refine lv_goto (tgt := 4) hx hb dX13_isSo_104 (by decide) ?_
      refine lv_iload_n hx hb dX13_isSo_4 rfl (lv_at hl 0 rfl) ?_
      refine lv_aload_n hx hb dX13_isSo_5 rfl (lv_at hl 4 rfl) ?_
      refine q_get hx hb hts hown hA hW iX13 h0 rfl 3 (by decide) (hts (.fieldLink RX13 7 "HighRecipesLaw$Act" "signs" "[I") (by decide +kernel)) (fun _ h9 => h9) (v := .ref sg) rfl dX13_isSo_6 ?_
      refine q_alen hx hb hA hW 0 rfl h1 (v := 2) rfl dX13_isSo_9 ?_
      refine lv_icmp_ge (tgt := 107) hx hb dX13_isSo_10 (by decide) (fun c_10 => ?_) (fun c_10 => absurd c_10 (by decide))
      refine lv_iload_n hx hb dX13_isSo_107 rfl (lv_at hl 1 rfl) ?_
      exact q_zret hx hb hr hlocks hW hS (by unfold w01; split <;> rfl) ⟨rfl, rfl, rfl⟩ (Nat.le_of_ble_eq_true rfl) (Nat.le_of_ble_eq_true rfl) dX13_isSo_108
    · refine lv_iconst (v := 1) hx hb dX13_isSo_79 (by decide) ?_
      refine lv_goto (tgt := 99) hx hb dX13_isSo_80 (by decide) ?_
      refine lv_iand hx hb dX13_isSo_99 ?_
      rw [show (w01 (c_cmp 31 (D0 hd v) (E0 hd v) && true) : Int32) &&& 1 = w01 (c_cmp 31 (D1 hd v) (E1 hd v) && (c_cmp 31 (D0 hd v) (E0 hd v) && true)) from w01_and2 rfl (w01_t (by show decide ((E1 hd v) < (D1 hd v)) = _; exact (decide_eq_true (Int32.not_le.mp c_76))))]
      refine lv_istore_n (lv' := [(2, .int (w01 (c_cmp 31 (D1 hd v) (E1 hd v) && (c_cmp 31 (D0 hd v) (E0 hd v) && true)))), (5, .int (E1 hd v)), (4, .int (D1 hd v)), (3, .int 1), (0, .ref a), (1, .ref k)]) hx hb dX13_isSo_100 rfl hl (by decide) rfl (fun ls hl => ?_)
      refine lv_iinc (v := 2) (lv' := [(3, .int 2), (2, .int (w01 (c_cmp 31 (D1 hd v) (E1 hd v) && (c_cmp 31 (D0 hd v) (E0 hd v) && true)))), (5, .int (E1 hd v)), (4, .int (D1 hd v)), (0, .ref a), (1, .ref k)]) hx hb dX13_isSo_101 hl (k := 3) rfl (by decide) (by decide) rfl (fun ls hl => ?_)
      refine lv_goto (tgt := 4) hx hb dX13_isSo_104 (by decide) ?_
      refine lv_iload_n hx hb dX13_isSo_4 rfl (lv_at hl 0 rfl) ?_
      refine lv_aload_n hx hb dX13_isSo_5 rfl (lv_at hl 4 rfl) ?_
      refine q_get hx hb hts hown hA hW iX13 h0 rfl 3 (by decide) (hts (.fieldLink RX13 7 "HighRecipesLaw$Act" "signs" "[I") (by decide +kernel)) (fun _ h9 => h9) (v := .ref sg) rfl dX13_isSo_6 ?_
      refine q_alen hx hb hA hW 0 rfl h1 (v := 2) rfl dX13_isSo_9 ?_
      refine lv_icmp_ge (tgt := 107) hx hb dX13_isSo_10 (by decide) (fun c_10 => ?_) (fun c_10 => absurd c_10 (by decide))
      refine lv_iload_n hx hb dX13_isSo_107 rfl (lv_at hl 1 rfl) ?_
      exact q_zret hx hb hr hlocks hW hS (by unfold w01; split <;> rfl) ⟨rfl, rfl, rfl⟩ (Nat.le_of_ble_eq_true rfl) (Nat.le_of_ble_eq_true rfl) dX13_isSo_108

set_option maxHeartbeats 4000000 in
set_option maxRecDepth 100000 in
theorem kX13_isSo_12 (l : Launch) (E : q_E) (f : q_H) (n : Nat) (k pa re ki wa no pn : Nat) (pr : Nat → Nat) (hd v : q_V) (b : Nat) (w : Int32) (a sg on ot : Nat) (a0 c0 : Nat) (D0 E0 : q_D) (W0 Y0 : List Int32) (a1 c1 : Nat) (D1 E1 : q_D) (W1 Y1 : List Int32) (do_ wh : Int32) (va bl el : Option Nat) (P : Nat → Prop) (gs : Nat → Int32) (go gt : Nat → Option Nat) (h0 : f a = some (cLA do_ wh va (some sg) (some on) (some ot) bl el)) (h1 : f sg = some (aI E 2 gs)) (h2 : f on = some (aQ E 7 2 go)) (h3 : f ot = some (aQ E 7 2 gt)) (hgs0 : gs 0 = 1) (hgo0 : go 0 = some a0) (hgt0 : gt 0 = some c0) (hM0 : NODE pn P f 0 a0 D0 W0) (hQ0 : NODE pn P f 0 c0 E0 Y0) (hgs1 : gs 1 = 2) (hgo1 : go 1 = some a1) (hgt1 : gt 1 = some c1) (hM1 : NODE pn P f 0 a1 D1 W1) (hQ1 : NODE pn P f 0 c1 E1 Y1) (hpn : pn ≤ 8) (hK : LK E f k pa re ki wa no pn pr hd v b w) : Met l yX13_isSo wsX13_isSo ({ frames := 6, cells := 0, slots := 0, locals := 300 }) (q_P E [.ref a, .ref k] f n) (q_Qi E (fun r f1 n1 => w01 (c_cmp 32 (D1 hd v) (E1 hd v) && (c_cmp 31 (D0 hd v) (E0 hd v) && true)) = r ∧ f = f1 ∧ n = n1)) 0 0 (q_ge E) := by
  refine Met.ofW (cc := cX13_isSo) (maxL := 6) (ret := (some .boolean)) (by decide) rfl ?_
  intro p0_ e0_ s0_ m0_ args0_ below0_ meth0_ c0_ s1_ B hml hv
  obtain ⟨rfl, hA, hW⟩ := hv
  have hx := B.exec
  have hb := B.bytes
  have hr := B.returns
  have hts := atoms_spec (ws := wsX13_isSo) B.pre
  have hown : s0_.vm.findClass RX13 = some m0_.cls := findClass_of_methodNamed B.named
  have hlocks := B.notSynchronized
  have hS : va_S (q_ge E) s0_.heap s0_.heap [] := va_S.rf
  have iX13 : ∀ w ∈ wsX130, w ∈ wsX13_isSo := by decide +kernel
  have hl := lv_entry ([.ref a, .ref k]) (n := 6) (Nat.le_of_ble_eq_true rfl)
  rw [lg_entry_eq]
  generalize (lg_sl ([.ref a, .ref k]) ++ List.replicate (6 - (lg_sl ([.ref a, .ref k])).length) Slot.unset).toArray = ls at hl ⊢
  have hl : lv_has ls 6 [(0, .ref a), (1, .ref k)] := hl
  obtain ⟨hk0, ⟨gk, hki, hkv⟩, ⟨gw, hwa, hwv⟩, ⟨gn, hno, hnv⟩, ⟨gp, hpa, hpv⟩, hrow⟩ := id hK
  have l_k := hW.lt hk0
  have l_ki := hW.lt hki
  have l_wa := hW.lt hwa
  have l_no := hW.lt hno
  have l_pa := hW.lt hpa
  obtain ⟨-, so0, ka0, xa0, ya0, hca0⟩ := hM0.cell
  obtain ⟨-, sp0, kc0, xc0, yc0, hcc0⟩ := hQ0.cell
  obtain ⟨-, so1, ka1, xa1, ya1, hca1⟩ := hM1.cell
  obtain ⟨-, sp1, kc1, xc1, yc1, hcc1⟩ := hQ1.cell
  refine lv_iconst (v := 1) hx hb dX13_isSo_0 (by decide) ?_
  refine lv_istore_n (lv' := [(2, .int 1), (0, .ref a), (1, .ref k)]) hx hb dX13_isSo_1 rfl hl (by decide) rfl (fun ls hl => ?_)
  refine lv_iconst (v := 0) hx hb dX13_isSo_2 (by decide) ?_
  refine lv_istore_n (lv' := [(3, .int 0), (2, .int 1), (0, .ref a), (1, .ref k)]) hx hb dX13_isSo_3 rfl hl (by decide) rfl (fun ls hl => ?_)
  refine lv_iload_n hx hb dX13_isSo_4 rfl (lv_at hl 0 rfl) ?_
  refine lv_aload_n hx hb dX13_isSo_5 rfl (lv_at hl 2 rfl) ?_
  refine q_get hx hb hts hown hA hW iX13 h0 rfl 3 (by decide) (hts (.fieldLink RX13 7 "HighRecipesLaw$Act" "signs" "[I") (by decide +kernel)) (fun _ h9 => h9) (v := .ref sg) rfl dX13_isSo_6 ?_
  refine q_alen hx hb hA hW 0 rfl h1 (v := 2) rfl dX13_isSo_9 ?_
  refine lv_icmp_ge (tgt := 107) hx hb dX13_isSo_10 (by decide) (fun c_10 => absurd c_10 (by decide)) (fun c_10 => ?_)
  refine lv_aload_n hx hb dX13_isSo_13 rfl (lv_at hl 2 rfl) ?_
  refine q_get hx hb hts hown hA hW iX13 h0 rfl 4 (by decide) (hts (.fieldLink RX13 15 "HighRecipesLaw$Act" "ones" "[LHighRecipesLaw$Node;") (by decide +kernel)) (fun _ h9 => h9) (v := .ref on) rfl dX13_isSo_14 ?_
  refine lv_iload_n hx hb dX13_isSo_17 rfl (lv_at hl 0 rfl) ?_
  refine q_aald hx hb hA hW 7 rfl h2 (vp_in_nI (n := 0) (by decide) (by decide)) dX13_isSo_18 ?_
  rw [show go (0 : Int32).toNatClampNeg = some a0 from hgo0]
  refine lv_aload_n hx hb dX13_isSo_19 rfl (lv_at hl 3 rfl) ?_
  refine q_ci (va_runV (As := [.ref k]) (rest := []) ⟨hx, hb, hml, hown, hts⟩ (kX16_value_0 l E f n k pa re ki wa no pn pr hd v b w a0 P D0 W0 hM0 hpn hK) (cwV 1 hts gX13_isSo_X16_value rfl rfl rfl (by decide +kernel) ⟨(Nat.le_of_ble_eq_true rfl), (Nat.le_of_ble_eq_true rfl)⟩) (q_pV hA hW hS (ci := 16) rfl hca0) rfl rfl hl.1 rfl (lv_room (Nat.le_of_ble_eq_true rfl)) dX13_isSo_20 ⟨(Nat.le_of_ble_eq_true rfl), (Nat.le_of_ble_eq_true rfl)⟩) hS (fun r_20 f_20 n_20 H locs hp hW hS => ?_)
  obtain ⟨rfl, rfl, rfl⟩ := hp
  have hW : q_W E (f) n H := hW
  refine lv_istore (lv' := [(4, .int (D0 hd v)), (3, .int 0), (2, .int 1), (0, .ref a), (1, .ref k)]) hx hb dX13_isSo_23 hl (by decide) rfl (fun ls hl => ?_)
  refine lv_aload_n hx hb dX13_isSo_25 rfl (lv_at hl 3 rfl) ?_
  refine q_get hx hb hts hown hA hW iX13 h0 rfl 5 (by decide) (hts (.fieldLink RX13 19 "HighRecipesLaw$Act" "others" "[LHighRecipesLaw$Node;") (by decide +kernel)) (fun _ h9 => h9) (v := .ref ot) rfl dX13_isSo_26 ?_
  refine lv_iload_n hx hb dX13_isSo_29 rfl (lv_at hl 1 rfl) ?_
  refine q_aald hx hb hA hW 7 rfl h3 (vp_in_nI (n := 0) (by decide) (by decide)) dX13_isSo_30 ?_
  rw [show gt (0 : Int32).toNatClampNeg = some c0 from hgt0]
  refine lv_aload_n hx hb dX13_isSo_31 rfl (lv_at hl 4 rfl) ?_
  refine q_ci (va_runV (As := [.ref k]) (rest := []) ⟨hx, hb, hml, hown, hts⟩ (kX16_value_0 l E f n k pa re ki wa no pn pr hd v b w c0 P E0 Y0 hQ0 hpn hK) (cwV 1 hts gX13_isSo_X16_value rfl rfl rfl (by decide +kernel) ⟨(Nat.le_of_ble_eq_true rfl), (Nat.le_of_ble_eq_true rfl)⟩) (q_pV hA hW hS (ci := 16) rfl hcc0) rfl rfl hl.1 rfl (lv_room (Nat.le_of_ble_eq_true rfl)) dX13_isSo_32 ⟨(Nat.le_of_ble_eq_true rfl), (Nat.le_of_ble_eq_true rfl)⟩) hS (fun r_32 f_32 n_32 H locs hp hW hS => ?_)
  obtain ⟨rfl, rfl, rfl⟩ := hp
  have hW : q_W E (f) n H := hW
  refine lv_istore (lv' := [(5, .int (E0 hd v)), (4, .int (D0 hd v)), (3, .int 0), (2, .int 1), (0, .ref a), (1, .ref k)]) hx hb dX13_isSo_35 hl (by decide) rfl (fun ls hl => ?_)
  refine lv_iload_n hx hb dX13_isSo_37 rfl (lv_at hl 3 rfl) ?_
  refine lv_aload_n hx hb dX13_isSo_38 rfl (lv_at hl 4 rfl) ?_
  refine q_get hx hb hts hown hA hW iX13 h0 rfl 3 (by decide) (hts (.fieldLink RX13 7 "HighRecipesLaw$Act" "signs" "[I") (by decide +kernel)) (fun _ h9 => h9) (v := .ref sg) rfl dX13_isSo_39 ?_
  refine lv_iload_n hx hb dX13_isSo_42 rfl (lv_at hl 2 rfl) ?_
  refine q_iald hx hb hA hW h1 (vp_in_nI (n := 0) (by decide) (by decide)) dX13_isSo_43 ?_
  rw [show gs (0 : Int32).toNatClampNeg = 1 from hgs0]
  refine lv_if_ne (tgt := 62) hx hb dX13_isSo_44 (by decide) (fun c_44 => ?_) (fun c_44 => absurd c_44 (by decide))
  refine lv_aload_n hx hb dX13_isSo_62 rfl (lv_at hl 4 rfl) ?_
  refine q_get hx hb hts hown hA hW iX13 h0 rfl 3 (by decide) (hts (.fieldLink RX13 7 "HighRecipesLaw$Act" "signs" "[I") (by decide +kernel)) (fun _ h9 => h9) (v := .ref sg) rfl dX13_isSo_63 ?_
  refine lv_iload_n hx hb dX13_isSo_66 rfl (lv_at hl 2 rfl) ?_
  refine q_iald hx hb hA hW h1 (vp_in_nI (n := 0) (by decide) (by decide)) dX13_isSo_67 ?_
  rw [show gs (0 : Int32).toNatClampNeg = 1 from hgs0]
  refine lv_iconst (v := 1) hx hb dX13_isSo_68 (by decide) ?_
  refine lv_icmp_ne (tgt := 87) hx hb dX13_isSo_69 (by decide) (fun c_69 => absurd c_69 (by decide)) (fun c_69 => ?_)
  refine lv_iload hx hb dX13_isSo_72 (lv_at hl 1 rfl) ?_
  refine lv_iload hx hb dX13_isSo_74 (lv_at hl 0 rfl) ?_
  refine lv_icmp_le (tgt := 83) hx hb dX13_isSo_76 (by decide) (fun c_76 => ?_) (fun c_76 => ?_)
  · refine lv_iconst (v := 0) hx hb dX13_isSo_83 (by decide) ?_
    refine lv_goto (tgt := 99) hx hb dX13_isSo_84 (by decide) ?_
    refine lv_iand hx hb dX13_isSo_99 ?_
    rw [show (1 : Int32) &&& 0 = w01 (c_cmp 31 (D0 hd v) (E0 hd v) && true) from w01_and2 rfl (w01_f (by show decide ((E0 hd v) < (D0 hd v)) = _; exact (decide_eq_false (Int32.not_lt.mpr c_76))))]
    refine lv_istore_n (lv' := [(2, .int (w01 (c_cmp 31 (D0 hd v) (E0 hd v) && true))), (5, .int (E0 hd v)), (4, .int (D0 hd v)), (3, .int 0), (0, .ref a), (1, .ref k)]) hx hb dX13_isSo_100 rfl hl (by decide) rfl (fun ls hl => ?_)
    refine lv_iinc (v := 1) (lv' := [(3, .int 1), (2, .int (w01 (c_cmp 31 (D0 hd v) (E0 hd v) && true))), (5, .int (E0 hd v)), (4, .int (D0 hd v)), (0, .ref a), (1, .ref k)]) hx hb dX13_isSo_101 hl (k := 3) rfl (by decide) (by decide) rfl (fun ls hl => ?_)
    refine lv_goto (tgt := 4) hx hb dX13_isSo_104 (by decide) ?_
    refine lv_iload_n hx hb dX13_isSo_4 rfl (lv_at hl 0 rfl) ?_
    refine lv_aload_n hx hb dX13_isSo_5 rfl (lv_at hl 4 rfl) ?_
    refine q_get hx hb hts hown hA hW iX13 h0 rfl 3 (by decide) (hts (.fieldLink RX13 7 "HighRecipesLaw$Act" "signs" "[I") (by decide +kernel)) (fun _ h9 => h9) (v := .ref sg) rfl dX13_isSo_6 ?_
    refine q_alen hx hb hA hW 0 rfl h1 (v := 2) rfl dX13_isSo_9 ?_
    refine lv_icmp_ge (tgt := 107) hx hb dX13_isSo_10 (by decide) (fun c_10 => absurd c_10 (by decide)) (fun c_10 => ?_)
    refine lv_aload_n hx hb dX13_isSo_13 rfl (lv_at hl 4 rfl) ?_
    refine q_get hx hb hts hown hA hW iX13 h0 rfl 4 (by decide) (hts (.fieldLink RX13 15 "HighRecipesLaw$Act" "ones" "[LHighRecipesLaw$Node;") (by decide +kernel)) (fun _ h9 => h9) (v := .ref on) rfl dX13_isSo_14 ?_
    refine lv_iload_n hx hb dX13_isSo_17 rfl (lv_at hl 0 rfl) ?_
    refine q_aald hx hb hA hW 7 rfl h2 (vp_in_nI (n := 1) (by decide) (by decide)) dX13_isSo_18 ?_
    rw [show go (1 : Int32).toNatClampNeg = some a1 from hgo1]
    refine lv_aload_n hx hb dX13_isSo_19 rfl (lv_at hl 5 rfl) ?_
    refine q_ci (va_runV (As := [.ref k]) (rest := []) ⟨hx, hb, hml, hown, hts⟩ (kX16_value_0 l E f n k pa re ki wa no pn pr hd v b w a1 P D1 W1 hM1 hpn hK) (cwV 1 hts gX13_isSo_X16_value rfl rfl rfl (by decide +kernel) ⟨(Nat.le_of_ble_eq_true rfl), (Nat.le_of_ble_eq_true rfl)⟩) (q_pV hA hW hS (ci := 16) rfl hca1) rfl rfl hl.1 rfl (lv_room (Nat.le_of_ble_eq_true rfl)) dX13_isSo_20 ⟨(Nat.le_of_ble_eq_true rfl), (Nat.le_of_ble_eq_true rfl)⟩) hS (fun r_20x1 f_20x1 n_20x1 H locs hp hW hS => ?_)
    obtain ⟨rfl, rfl, rfl⟩ := hp
    have hW : q_W E (f) n H := hW
    refine lv_istore (lv' := [(4, .int (D1 hd v)), (3, .int 1), (2, .int (w01 (c_cmp 31 (D0 hd v) (E0 hd v) && true))), (5, .int (E0 hd v)), (0, .ref a), (1, .ref k)]) hx hb dX13_isSo_23 hl (by decide) rfl (fun ls hl => ?_)
    refine lv_aload_n hx hb dX13_isSo_25 rfl (lv_at hl 4 rfl) ?_
    refine q_get hx hb hts hown hA hW iX13 h0 rfl 5 (by decide) (hts (.fieldLink RX13 19 "HighRecipesLaw$Act" "others" "[LHighRecipesLaw$Node;") (by decide +kernel)) (fun _ h9 => h9) (v := .ref ot) rfl dX13_isSo_26 ?_
    refine lv_iload_n hx hb dX13_isSo_29 rfl (lv_at hl 1 rfl) ?_
    refine q_aald hx hb hA hW 7 rfl h3 (vp_in_nI (n := 1) (by decide) (by decide)) dX13_isSo_30 ?_
    rw [show gt (1 : Int32).toNatClampNeg = some c1 from hgt1]
    refine lv_aload_n hx hb dX13_isSo_31 rfl (lv_at hl 5 rfl) ?_
    refine q_ci (va_runV (As := [.ref k]) (rest := []) ⟨hx, hb, hml, hown, hts⟩ (kX16_value_0 l E f n k pa re ki wa no pn pr hd v b w c1 P E1 Y1 hQ1 hpn hK) (cwV 1 hts gX13_isSo_X16_value rfl rfl rfl (by decide +kernel) ⟨(Nat.le_of_ble_eq_true rfl), (Nat.le_of_ble_eq_true rfl)⟩) (q_pV hA hW hS (ci := 16) rfl hcc1) rfl rfl hl.1 rfl (lv_room (Nat.le_of_ble_eq_true rfl)) dX13_isSo_32 ⟨(Nat.le_of_ble_eq_true rfl), (Nat.le_of_ble_eq_true rfl)⟩) hS (fun r_32x1 f_32x1 n_32x1 H locs hp hW hS => ?_)
    obtain ⟨rfl, rfl, rfl⟩ := hp
    have hW : q_W E (f) n H := hW
    refine lv_istore (lv' := [(5, .int (E1 hd v)), (4, .int (D1 hd v)), (3, .int 1), (2, .int (w01 (c_cmp 31 (D0 hd v) (E0 hd v) && true))), (0, .ref a), (1, .ref k)]) hx hb dX13_isSo_35 hl (by decide) rfl (fun ls hl => ?_)
    refine lv_iload_n hx hb dX13_isSo_37 rfl (lv_at hl 3 rfl) ?_
    refine lv_aload_n hx hb dX13_isSo_38 rfl (lv_at hl 4 rfl) ?_
    refine q_get hx hb hts hown hA hW iX13 h0 rfl 3 (by decide) (hts (.fieldLink RX13 7 "HighRecipesLaw$Act" "signs" "[I") (by decide +kernel)) (fun _ h9 => h9) (v := .ref sg) rfl dX13_isSo_39 ?_
    refine lv_iload_n hx hb dX13_isSo_42 rfl (lv_at hl 2 rfl) ?_
    refine q_iald hx hb hA hW h1 (vp_in_nI (n := 1) (by decide) (by decide)) dX13_isSo_43 ?_
    rw [show gs (1 : Int32).toNatClampNeg = 2 from hgs1]
    refine lv_if_ne (tgt := 62) hx hb dX13_isSo_44 (by decide) (fun c_44 => ?_) (fun c_44 => absurd c_44 (by decide))
    refine lv_aload_n hx hb dX13_isSo_62 rfl (lv_at hl 4 rfl) ?_
    refine q_get hx hb hts hown hA hW iX13 h0 rfl 3 (by decide) (hts (.fieldLink RX13 7 "HighRecipesLaw$Act" "signs" "[I") (by decide +kernel)) (fun _ h9 => h9) (v := .ref sg) rfl dX13_isSo_63 ?_
    refine lv_iload_n hx hb dX13_isSo_66 rfl (lv_at hl 2 rfl) ?_
    refine q_iald hx hb hA hW h1 (vp_in_nI (n := 1) (by decide) (by decide)) dX13_isSo_67 ?_
    rw [show gs (1 : Int32).toNatClampNeg = 2 from hgs1]
    refine lv_iconst (v := 1) hx hb dX13_isSo_68 (by decide) ?_
    refine lv_icmp_ne (tgt := 87) hx hb dX13_isSo_69 (by decide) (fun c_69 => ?_) (fun c_69 => absurd c_69 (by decide))
    refine lv_iload hx hb dX13_isSo_87 (lv_at hl 1 rfl) ?_
    refine lv_iload hx hb dX13_isSo_89 (lv_at hl 0 rfl) ?_
    refine lv_icmp_ne (tgt := 98) hx hb dX13_isSo_91 (by decide) (fun c_91 => ?_) (fun c_91 => ?_)
    · refine lv_iconst (v := 0) hx hb dX13_isSo_98 (by decide) ?_
      refine lv_iand hx hb dX13_isSo_99 ?_
      rw [show (w01 (c_cmp 31 (D0 hd v) (E0 hd v) && true) : Int32) &&& 0 = w01 (c_cmp 32 (D1 hd v) (E1 hd v) && (c_cmp 31 (D0 hd v) (E0 hd v) && true)) from w01_and2 rfl (w01_f (by show decide ((D1 hd v) = (E1 hd v)) = _; exact (decide_eq_false c_91)))]
      refine lv_istore_n (lv' := [(2, .int (w01 (c_cmp 32 (D1 hd v) (E1 hd v) && (c_cmp 31 (D0 hd v) (E0 hd v) && true)))), (5, .int (E1 hd v)), (4, .int (D1 hd v)), (3, .int 1), (0, .ref a), (1, .ref k)]) hx hb dX13_isSo_100 rfl hl (by decide) rfl (fun ls hl => ?_)
      refine lv_iinc (v := 2) (lv' := [(3, .int 2), (2, .int (w01 (c_cmp 32 (D1 hd v) (E1 hd v) && (c_cmp 31 (D0 hd v) (E0 hd v) && true)))), (5, .int (E1 hd v)), (4, .int (D1 hd v)), (0, .ref a), (1, .ref k)]) hx hb dX13_isSo_101 hl (k := 3) rfl (by decide) (by decide) rfl (fun ls hl => ?_)
      refine lv_goto (tgt := 4) hx hb dX13_isSo_104 (by decide) ?_
      refine lv_iload_n hx hb dX13_isSo_4 rfl (lv_at hl 0 rfl) ?_
      refine lv_aload_n hx hb dX13_isSo_5 rfl (lv_at hl 4 rfl) ?_
      refine q_get hx hb hts hown hA hW iX13 h0 rfl 3 (by decide) (hts (.fieldLink RX13 7 "HighRecipesLaw$Act" "signs" "[I") (by decide +kernel)) (fun _ h9 => h9) (v := .ref sg) rfl dX13_isSo_6 ?_
      refine q_alen hx hb hA hW 0 rfl h1 (v := 2) rfl dX13_isSo_9 ?_
      refine lv_icmp_ge (tgt := 107) hx hb dX13_isSo_10 (by decide) (fun c_10 => ?_) (fun c_10 => absurd c_10 (by decide))
      refine lv_iload_n hx hb dX13_isSo_107 rfl (lv_at hl 1 rfl) ?_
      exact q_zret hx hb hr hlocks hW hS (by unfold w01; split <;> rfl) ⟨rfl, rfl, rfl⟩ (Nat.le_of_ble_eq_true rfl) (Nat.le_of_ble_eq_true rfl) dX13_isSo_108
    · refine lv_iconst (v := 1) hx hb dX13_isSo_94 (by decide) ?_
      refine lv_goto (tgt := 99) hx hb dX13_isSo_95 (by decide) ?_
      refine lv_iand hx hb dX13_isSo_99 ?_
      rw [show (w01 (c_cmp 31 (D0 hd v) (E0 hd v) && true) : Int32) &&& 1 = w01 (c_cmp 32 (D1 hd v) (E1 hd v) && (c_cmp 31 (D0 hd v) (E0 hd v) && true)) from w01_and2 rfl (w01_t (by show decide ((D1 hd v) = (E1 hd v)) = _; exact (decide_eq_true c_91)))]
      refine lv_istore_n (lv' := [(2, .int (w01 (c_cmp 32 (D1 hd v) (E1 hd v) && (c_cmp 31 (D0 hd v) (E0 hd v) && true)))), (5, .int (E1 hd v)), (4, .int (D1 hd v)), (3, .int 1), (0, .ref a), (1, .ref k)]) hx hb dX13_isSo_100 rfl hl (by decide) rfl (fun ls hl => ?_)
      refine lv_iinc (v := 2) (lv' := [(3, .int 2), (2, .int (w01 (c_cmp 32 (D1 hd v) (E1 hd v) && (c_cmp 31 (D0 hd v) (E0 hd v) && true)))), (5, .int (E1 hd v)), (4, .int (D1 hd v)), (0, .ref a), (1, .ref k)]) hx hb dX13_isSo_101 hl (k := 3) rfl (by decide) (by decide) rfl (fun ls hl => ?_)
      refine lv_goto (tgt := 4) hx hb dX13_isSo_104 (by decide) ?_
      refine lv_iload_n hx hb dX13_isSo_4 rfl (lv_at hl 0 rfl) ?_
      refine lv_aload_n hx hb dX13_isSo_5 rfl (lv_at hl 4 rfl) ?_
      refine q_get hx hb hts hown hA hW iX13 h0 rfl 3 (by decide) (hts (.fieldLink RX13 7 "HighRecipesLaw$Act" "signs" "[I") (by decide +kernel)) (fun _ h9 => h9) (v := .ref sg) rfl dX13_isSo_6 ?_
      refine q_alen hx hb hA hW 0 rfl h1 (v := 2) rfl dX13_isSo_9 ?_
      refine lv_icmp_ge (tgt := 107) hx hb dX13_isSo_10 (by decide) (fun c_10 => ?_) (fun c_10 => absurd c_10 (by decide))
      refine lv_iload_n hx hb dX13_isSo_107 rfl (lv_at hl 1 rfl) ?_
      exact q_zret hx hb hr hlocks hW hS (by unfold w01; split <;> rfl) ⟨rfl, rfl, rfl⟩ (Nat.le_of_ble_eq_true rfl) (Nat.le_of_ble_eq_true rfl) dX13_isSo_108
  · refine lv_iconst (v := 1) hx hb dX13_isSo_79 (by decide) ?_
    refine lv_goto (tgt := 99) hx hb dX13_isSo_80 (by decide) ?_
    refine lv_iand hx hb dX13_isSo_99 ?_
    rw [show (1 : Int32) &&& 1 = w01 (c_cmp 31 (D0 hd v) (E0 hd v) && true) from w01_and2 rfl (w01_t (by show decide ((E0 hd v) < (D0 hd v)) = _; exact (decide_eq_true (Int32.not_le.mp c_76))))]
    refine lv_istore_n (lv' := [(2, .int (w01 (c_cmp 31 (D0 hd v) (E0 hd v) && true))), (5, .int (E0 hd v)), (4, .int (D0 hd v)), (3, .int 0), (0, .ref a), (1, .ref k)]) hx hb dX13_isSo_100 rfl hl (by decide) rfl (fun ls hl => ?_)
    refine lv_iinc (v := 1) (lv' := [(3, .int 1), (2, .int (w01 (c_cmp 31 (D0 hd v) (E0 hd v) && true))), (5, .int (E0 hd v)), (4, .int (D0 hd v)), (0, .ref a), (1, .ref k)]) hx hb dX13_isSo_101 hl (k := 3) rfl (by decide) (by decide) rfl (fun ls hl => ?_)
    refine lv_goto (tgt := 4) hx hb dX13_isSo_104 (by decide) ?_
    refine lv_iload_n hx hb dX13_isSo_4 rfl (lv_at hl 0 rfl) ?_
    refine lv_aload_n hx hb dX13_isSo_5 rfl (lv_at hl 4 rfl) ?_
    refine q_get hx hb hts hown hA hW iX13 h0 rfl 3 (by decide) (hts (.fieldLink RX13 7 "HighRecipesLaw$Act" "signs" "[I") (by decide +kernel)) (fun _ h9 => h9) (v := .ref sg) rfl dX13_isSo_6 ?_
    refine q_alen hx hb hA hW 0 rfl h1 (v := 2) rfl dX13_isSo_9 ?_
    refine lv_icmp_ge (tgt := 107) hx hb dX13_isSo_10 (by decide) (fun c_10 => absurd c_10 (by decide)) (fun c_10 => ?_)
    refine lv_aload_n hx hb dX13_isSo_13 rfl (lv_at hl 4 rfl) ?_
    refine q_get hx hb hts hown hA hW iX13 h0 rfl 4 (by decide) (hts (.fieldLink RX13 15 "HighRecipesLaw$Act" "ones" "[LHighRecipesLaw$Node;") (by decide +kernel)) (fun _ h9 => h9) (v := .ref on) rfl dX13_isSo_14 ?_
    refine lv_iload_n hx hb dX13_isSo_17 rfl (lv_at hl 0 rfl) ?_
    refine q_aald hx hb hA hW 7 rfl h2 (vp_in_nI (n := 1) (by decide) (by decide)) dX13_isSo_18 ?_
    rw [show go (1 : Int32).toNatClampNeg = some a1 from hgo1]
    refine lv_aload_n hx hb dX13_isSo_19 rfl (lv_at hl 5 rfl) ?_
    refine q_ci (va_runV (As := [.ref k]) (rest := []) ⟨hx, hb, hml, hown, hts⟩ (kX16_value_0 l E f n k pa re ki wa no pn pr hd v b w a1 P D1 W1 hM1 hpn hK) (cwV 1 hts gX13_isSo_X16_value rfl rfl rfl (by decide +kernel) ⟨(Nat.le_of_ble_eq_true rfl), (Nat.le_of_ble_eq_true rfl)⟩) (q_pV hA hW hS (ci := 16) rfl hca1) rfl rfl hl.1 rfl (lv_room (Nat.le_of_ble_eq_true rfl)) dX13_isSo_20 ⟨(Nat.le_of_ble_eq_true rfl), (Nat.le_of_ble_eq_true rfl)⟩) hS (fun r_20x1 f_20x1 n_20x1 H locs hp hW hS => ?_)
    obtain ⟨rfl, rfl, rfl⟩ := hp
    have hW : q_W E (f) n H := hW
    refine lv_istore (lv' := [(4, .int (D1 hd v)), (3, .int 1), (2, .int (w01 (c_cmp 31 (D0 hd v) (E0 hd v) && true))), (5, .int (E0 hd v)), (0, .ref a), (1, .ref k)]) hx hb dX13_isSo_23 hl (by decide) rfl (fun ls hl => ?_)
    refine lv_aload_n hx hb dX13_isSo_25 rfl (lv_at hl 4 rfl) ?_
    refine q_get hx hb hts hown hA hW iX13 h0 rfl 5 (by decide) (hts (.fieldLink RX13 19 "HighRecipesLaw$Act" "others" "[LHighRecipesLaw$Node;") (by decide +kernel)) (fun _ h9 => h9) (v := .ref ot) rfl dX13_isSo_26 ?_
    refine lv_iload_n hx hb dX13_isSo_29 rfl (lv_at hl 1 rfl) ?_
    refine q_aald hx hb hA hW 7 rfl h3 (vp_in_nI (n := 1) (by decide) (by decide)) dX13_isSo_30 ?_
    rw [show gt (1 : Int32).toNatClampNeg = some c1 from hgt1]
    refine lv_aload_n hx hb dX13_isSo_31 rfl (lv_at hl 5 rfl) ?_
    refine q_ci (va_runV (As := [.ref k]) (rest := []) ⟨hx, hb, hml, hown, hts⟩ (kX16_value_0 l E f n k pa re ki wa no pn pr hd v b w c1 P E1 Y1 hQ1 hpn hK) (cwV 1 hts gX13_isSo_X16_value rfl rfl rfl (by decide +kernel) ⟨(Nat.le_of_ble_eq_true rfl), (Nat.le_of_ble_eq_true rfl)⟩) (q_pV hA hW hS (ci := 16) rfl hcc1) rfl rfl hl.1 rfl (lv_room (Nat.le_of_ble_eq_true rfl)) dX13_isSo_32 ⟨(Nat.le_of_ble_eq_true rfl), (Nat.le_of_ble_eq_true rfl)⟩) hS (fun r_32x1 f_32x1 n_32x1 H locs hp hW hS => ?_)
    obtain ⟨rfl, rfl, rfl⟩ := hp
    have hW : q_W E (f) n H := hW
    refine lv_istore (lv' := [(5, .int (E1 hd v)), (4, .int (D1 hd v)), (3, .int 1), (2, .int (w01 (c_cmp 31 (D0 hd v) (E0 hd v) && true))), (0, .ref a), (1, .ref k)]) hx hb dX13_isSo_35 hl (by decide) rfl (fun ls hl => ?_)
    refine lv_iload_n hx hb dX13_isSo_37 rfl (lv_at hl 3 rfl) ?_
    refine lv_aload_n hx hb dX13_isSo_38 rfl (lv_at hl 4 rfl) ?_
    refine q_get hx hb hts hown hA hW iX13 h0 rfl 3 (by decide) (hts (.fieldLink RX13 7 "HighRecipesLaw$Act" "signs" "[I") (by decide +kernel)) (fun _ h9 => h9) (v := .ref sg) rfl dX13_isSo_39 ?_
    refine lv_iload_n hx hb dX13_isSo_42 rfl (lv_at hl 2 rfl) ?_
    refine q_iald hx hb hA hW h1 (vp_in_nI (n := 1) (by decide) (by decide)) dX13_isSo_43 ?_
    rw [show gs (1 : Int32).toNatClampNeg = 2 from hgs1]
    refine lv_if_ne (tgt := 62) hx hb dX13_isSo_44 (by decide) (fun c_44 => ?_) (fun c_44 => absurd c_44 (by decide))
    refine lv_aload_n hx hb dX13_isSo_62 rfl (lv_at hl 4 rfl) ?_
    refine q_get hx hb hts hown hA hW iX13 h0 rfl 3 (by decide) (hts (.fieldLink RX13 7 "HighRecipesLaw$Act" "signs" "[I") (by decide +kernel)) (fun _ h9 => h9) (v := .ref sg) rfl dX13_isSo_63 ?_
    refine lv_iload_n hx hb dX13_isSo_66 rfl (lv_at hl 2 rfl) ?_
    refine q_iald hx hb hA hW h1 (vp_in_nI (n := 1) (by decide) (by decide)) dX13_isSo_67 ?_
    rw [show gs (1 : Int32).toNatClampNeg = 2 from hgs1]
    refine lv_iconst (v := 1) hx hb dX13_isSo_68 (by decide) ?_
    refine lv_icmp_ne (tgt := 87) hx hb dX13_isSo_69 (by decide) (fun c_69 => ?_) (fun c_69 => absurd c_69 (by decide))
    refine lv_iload hx hb dX13_isSo_87 (lv_at hl 1 rfl) ?_
    refine lv_iload hx hb dX13_isSo_89 (lv_at hl 0 rfl) ?_
    refine lv_icmp_ne (tgt := 98) hx hb dX13_isSo_91 (by decide) (fun c_91 => ?_) (fun c_91 => ?_)
    · refine lv_iconst (v := 0) hx hb dX13_isSo_98 (by decide) ?_
      refine lv_iand hx hb dX13_isSo_99 ?_
      rw [show (w01 (c_cmp 31 (D0 hd v) (E0 hd v) && true) : Int32) &&& 0 = w01 (c_cmp 32 (D1 hd v) (E1 hd v) && (c_cmp 31 (D0 hd v) (E0 hd v) && true)) from w01_and2 rfl (w01_f (by show decide ((D1 hd v) = (E1 hd v)) = _; exact (decide_eq_false c_91)))]
      refine lv_istore_n (lv' := [(2, .int (w01 (c_cmp 32 (D1 hd v) (E1 hd v) && (c_cmp 31 (D0 hd v) (E0 hd v) && true)))), (5, .int (E1 hd v)), (4, .int (D1 hd v)), (3, .int 1), (0, .ref a), (1, .ref k)]) hx hb dX13_isSo_100 rfl hl (by decide) rfl (fun ls hl => ?_)
      refine lv_iinc (v := 2) (lv' := [(3, .int 2), (2, .int (w01 (c_cmp 32 (D1 hd v) (E1 hd v) && (c_cmp 31 (D0 hd v) (E0 hd v) && true)))), (5, .int (E1 hd v)), (4, .int (D1 hd v)), (0, .ref a), (1, .ref k)]) hx hb dX13_isSo_101 hl (k := 3) rfl (by decide) (by decide) rfl (fun ls hl => ?_)
      refine lv_goto (tgt := 4) hx hb dX13_isSo_104 (by decide) ?_
      refine lv_iload_n hx hb dX13_isSo_4 rfl (lv_at hl 0 rfl) ?_
      refine lv_aload_n hx hb dX13_isSo_5 rfl (lv_at hl 4 rfl) ?_
      refine q_get hx hb hts hown hA hW iX13 h0 rfl 3 (by decide) (hts (.fieldLink RX13 7 "HighRecipesLaw$Act" "signs" "[I") (by decide +kernel)) (fun _ h9 => h9) (v := .ref sg) rfl dX13_isSo_6 ?_
      refine q_alen hx hb hA hW 0 rfl h1 (v := 2) rfl dX13_isSo_9 ?_
      refine lv_icmp_ge (tgt := 107) hx hb dX13_isSo_10 (by decide) (fun c_10 => ?_) (fun c_10 => absurd c_10 (by decide))
      refine lv_iload_n hx hb dX13_isSo_107 rfl (lv_at hl 1 rfl) ?_
      exact q_zret hx hb hr hlocks hW hS (by unfold w01; split <;> rfl) ⟨rfl, rfl, rfl⟩ (Nat.le_of_ble_eq_true rfl) (Nat.le_of_ble_eq_true rfl) dX13_isSo_108
    · refine lv_iconst (v := 1) hx hb dX13_isSo_94 (by decide) ?_
      refine lv_goto (tgt := 99) hx hb dX13_isSo_95 (by decide) ?_
      refine lv_iand hx hb dX13_isSo_99 ?_
      rw [show (w01 (c_cmp 31 (D0 hd v) (E0 hd v) && true) : Int32) &&& 1 = w01 (c_cmp 32 (D1 hd v) (E1 hd v) && (c_cmp 31 (D0 hd v) (E0 hd v) && true)) from w01_and2 rfl (w01_t (by show decide ((D1 hd v) = (E1 hd v)) = _; exact (decide_eq_true c_91)))]
      refine lv_istore_n (lv' := [(2, .int (w01 (c_cmp 32 (D1 hd v) (E1 hd v) && (c_cmp 31 (D0 hd v) (E0 hd v) && true)))), (5, .int (E1 hd v)), (4, .int (D1 hd v)), (3, .int 1), (0, .ref a), (1, .ref k)]) hx hb dX13_isSo_100 rfl hl (by decide) rfl (fun ls hl => ?_)
      refine lv_iinc (v := 2) (lv' := [(3, .int 2), (2, .int (w01 (c_cmp 32 (D1 hd v) (E1 hd v) && (c_cmp 31 (D0 hd v) (E0 hd v) && true)))), (5, .int (E1 hd v)), (4, .int (D1 hd v)), (0, .ref a), (1, .ref k)]) hx hb dX13_isSo_101 hl (k := 3) rfl (by decide) (by decide) rfl (fun ls hl => ?_)
      refine lv_goto (tgt := 4) hx hb dX13_isSo_104 (by decide) ?_
      refine lv_iload_n hx hb dX13_isSo_4 rfl (lv_at hl 0 rfl) ?_
      refine lv_aload_n hx hb dX13_isSo_5 rfl (lv_at hl 4 rfl) ?_
      refine q_get hx hb hts hown hA hW iX13 h0 rfl 3 (by decide) (hts (.fieldLink RX13 7 "HighRecipesLaw$Act" "signs" "[I") (by decide +kernel)) (fun _ h9 => h9) (v := .ref sg) rfl dX13_isSo_6 ?_
      refine q_alen hx hb hA hW 0 rfl h1 (v := 2) rfl dX13_isSo_9 ?_
      refine lv_icmp_ge (tgt := 107) hx hb dX13_isSo_10 (by decide) (fun c_10 => ?_) (fun c_10 => absurd c_10 (by decide))
      refine lv_iload_n hx hb dX13_isSo_107 rfl (lv_at hl 1 rfl) ?_
      exact q_zret hx hb hr hlocks hW hS (by unfold w01; split <;> rfl) ⟨rfl, rfl, rfl⟩ (Nat.le_of_ble_eq_true rfl) (Nat.le_of_ble_eq_true rfl) dX13_isSo_108

set_option maxHeartbeats 4000000 in
set_option maxRecDepth 100000 in
theorem kX13_isSo_20 (l : Launch) (E : q_E) (f : q_H) (n : Nat) (k pa re ki wa no pn : Nat) (pr : Nat → Nat) (hd v : q_V) (b : Nat) (w : Int32) (a sg on ot : Nat) (a0 c0 : Nat) (D0 E0 : q_D) (W0 Y0 : List Int32) (a1 c1 : Nat) (D1 E1 : q_D) (W1 Y1 : List Int32) (do_ wh : Int32) (va bl el : Option Nat) (P : Nat → Prop) (gs : Nat → Int32) (go gt : Nat → Option Nat) (h0 : f a = some (cLA do_ wh va (some sg) (some on) (some ot) bl el)) (h1 : f sg = some (aI E 2 gs)) (h2 : f on = some (aQ E 7 2 go)) (h3 : f ot = some (aQ E 7 2 gt)) (hgs0 : gs 0 = 2) (hgo0 : go 0 = some a0) (hgt0 : gt 0 = some c0) (hM0 : NODE pn P f 0 a0 D0 W0) (hQ0 : NODE pn P f 0 c0 E0 Y0) (hgs1 : gs 1 = 0) (hgo1 : go 1 = some a1) (hgt1 : gt 1 = some c1) (hM1 : NODE pn P f 0 a1 D1 W1) (hQ1 : NODE pn P f 0 c1 E1 Y1) (hpn : pn ≤ 8) (hK : LK E f k pa re ki wa no pn pr hd v b w) : Met l yX13_isSo wsX13_isSo ({ frames := 6, cells := 0, slots := 0, locals := 300 }) (q_P E [.ref a, .ref k] f n) (q_Qi E (fun r f1 n1 => w01 (c_cmp 30 (D1 hd v) (E1 hd v) && (c_cmp 32 (D0 hd v) (E0 hd v) && true)) = r ∧ f = f1 ∧ n = n1)) 0 0 (q_ge E) := by
  refine Met.ofW (cc := cX13_isSo) (maxL := 6) (ret := (some .boolean)) (by decide) rfl ?_
  intro p0_ e0_ s0_ m0_ args0_ below0_ meth0_ c0_ s1_ B hml hv
  obtain ⟨rfl, hA, hW⟩ := hv
  have hx := B.exec
  have hb := B.bytes
  have hr := B.returns
  have hts := atoms_spec (ws := wsX13_isSo) B.pre
  have hown : s0_.vm.findClass RX13 = some m0_.cls := findClass_of_methodNamed B.named
  have hlocks := B.notSynchronized
  have hS : va_S (q_ge E) s0_.heap s0_.heap [] := va_S.rf
  have iX13 : ∀ w ∈ wsX130, w ∈ wsX13_isSo := by decide +kernel
  have hl := lv_entry ([.ref a, .ref k]) (n := 6) (Nat.le_of_ble_eq_true rfl)
  rw [lg_entry_eq]
  generalize (lg_sl ([.ref a, .ref k]) ++ List.replicate (6 - (lg_sl ([.ref a, .ref k])).length) Slot.unset).toArray = ls at hl ⊢
  have hl : lv_has ls 6 [(0, .ref a), (1, .ref k)] := hl
  obtain ⟨hk0, ⟨gk, hki, hkv⟩, ⟨gw, hwa, hwv⟩, ⟨gn, hno, hnv⟩, ⟨gp, hpa, hpv⟩, hrow⟩ := id hK
  have l_k := hW.lt hk0
  have l_ki := hW.lt hki
  have l_wa := hW.lt hwa
  have l_no := hW.lt hno
  have l_pa := hW.lt hpa
  obtain ⟨-, so0, ka0, xa0, ya0, hca0⟩ := hM0.cell
  obtain ⟨-, sp0, kc0, xc0, yc0, hcc0⟩ := hQ0.cell
  obtain ⟨-, so1, ka1, xa1, ya1, hca1⟩ := hM1.cell
  obtain ⟨-, sp1, kc1, xc1, yc1, hcc1⟩ := hQ1.cell
  refine lv_iconst (v := 1) hx hb dX13_isSo_0 (by decide) ?_
  refine lv_istore_n (lv' := [(2, .int 1), (0, .ref a), (1, .ref k)]) hx hb dX13_isSo_1 rfl hl (by decide) rfl (fun ls hl => ?_)
  refine lv_iconst (v := 0) hx hb dX13_isSo_2 (by decide) ?_
  refine lv_istore_n (lv' := [(3, .int 0), (2, .int 1), (0, .ref a), (1, .ref k)]) hx hb dX13_isSo_3 rfl hl (by decide) rfl (fun ls hl => ?_)
  refine lv_iload_n hx hb dX13_isSo_4 rfl (lv_at hl 0 rfl) ?_
  refine lv_aload_n hx hb dX13_isSo_5 rfl (lv_at hl 2 rfl) ?_
  refine q_get hx hb hts hown hA hW iX13 h0 rfl 3 (by decide) (hts (.fieldLink RX13 7 "HighRecipesLaw$Act" "signs" "[I") (by decide +kernel)) (fun _ h9 => h9) (v := .ref sg) rfl dX13_isSo_6 ?_
  refine q_alen hx hb hA hW 0 rfl h1 (v := 2) rfl dX13_isSo_9 ?_
  refine lv_icmp_ge (tgt := 107) hx hb dX13_isSo_10 (by decide) (fun c_10 => absurd c_10 (by decide)) (fun c_10 => ?_)
  refine lv_aload_n hx hb dX13_isSo_13 rfl (lv_at hl 2 rfl) ?_
  refine q_get hx hb hts hown hA hW iX13 h0 rfl 4 (by decide) (hts (.fieldLink RX13 15 "HighRecipesLaw$Act" "ones" "[LHighRecipesLaw$Node;") (by decide +kernel)) (fun _ h9 => h9) (v := .ref on) rfl dX13_isSo_14 ?_
  refine lv_iload_n hx hb dX13_isSo_17 rfl (lv_at hl 0 rfl) ?_
  refine q_aald hx hb hA hW 7 rfl h2 (vp_in_nI (n := 0) (by decide) (by decide)) dX13_isSo_18 ?_
  rw [show go (0 : Int32).toNatClampNeg = some a0 from hgo0]
  refine lv_aload_n hx hb dX13_isSo_19 rfl (lv_at hl 3 rfl) ?_
  refine q_ci (va_runV (As := [.ref k]) (rest := []) ⟨hx, hb, hml, hown, hts⟩ (kX16_value_0 l E f n k pa re ki wa no pn pr hd v b w a0 P D0 W0 hM0 hpn hK) (cwV 1 hts gX13_isSo_X16_value rfl rfl rfl (by decide +kernel) ⟨(Nat.le_of_ble_eq_true rfl), (Nat.le_of_ble_eq_true rfl)⟩) (q_pV hA hW hS (ci := 16) rfl hca0) rfl rfl hl.1 rfl (lv_room (Nat.le_of_ble_eq_true rfl)) dX13_isSo_20 ⟨(Nat.le_of_ble_eq_true rfl), (Nat.le_of_ble_eq_true rfl)⟩) hS (fun r_20 f_20 n_20 H locs hp hW hS => ?_)
  obtain ⟨rfl, rfl, rfl⟩ := hp
  have hW : q_W E (f) n H := hW
  refine lv_istore (lv' := [(4, .int (D0 hd v)), (3, .int 0), (2, .int 1), (0, .ref a), (1, .ref k)]) hx hb dX13_isSo_23 hl (by decide) rfl (fun ls hl => ?_)
  refine lv_aload_n hx hb dX13_isSo_25 rfl (lv_at hl 3 rfl) ?_
  refine q_get hx hb hts hown hA hW iX13 h0 rfl 5 (by decide) (hts (.fieldLink RX13 19 "HighRecipesLaw$Act" "others" "[LHighRecipesLaw$Node;") (by decide +kernel)) (fun _ h9 => h9) (v := .ref ot) rfl dX13_isSo_26 ?_
  refine lv_iload_n hx hb dX13_isSo_29 rfl (lv_at hl 1 rfl) ?_
  refine q_aald hx hb hA hW 7 rfl h3 (vp_in_nI (n := 0) (by decide) (by decide)) dX13_isSo_30 ?_
  rw [show gt (0 : Int32).toNatClampNeg = some c0 from hgt0]
  refine lv_aload_n hx hb dX13_isSo_31 rfl (lv_at hl 4 rfl) ?_
  refine q_ci (va_runV (As := [.ref k]) (rest := []) ⟨hx, hb, hml, hown, hts⟩ (kX16_value_0 l E f n k pa re ki wa no pn pr hd v b w c0 P E0 Y0 hQ0 hpn hK) (cwV 1 hts gX13_isSo_X16_value rfl rfl rfl (by decide +kernel) ⟨(Nat.le_of_ble_eq_true rfl), (Nat.le_of_ble_eq_true rfl)⟩) (q_pV hA hW hS (ci := 16) rfl hcc0) rfl rfl hl.1 rfl (lv_room (Nat.le_of_ble_eq_true rfl)) dX13_isSo_32 ⟨(Nat.le_of_ble_eq_true rfl), (Nat.le_of_ble_eq_true rfl)⟩) hS (fun r_32 f_32 n_32 H locs hp hW hS => ?_)
  obtain ⟨rfl, rfl, rfl⟩ := hp
  have hW : q_W E (f) n H := hW
  refine lv_istore (lv' := [(5, .int (E0 hd v)), (4, .int (D0 hd v)), (3, .int 0), (2, .int 1), (0, .ref a), (1, .ref k)]) hx hb dX13_isSo_35 hl (by decide) rfl (fun ls hl => ?_)
  refine lv_iload_n hx hb dX13_isSo_37 rfl (lv_at hl 3 rfl) ?_
  refine lv_aload_n hx hb dX13_isSo_38 rfl (lv_at hl 4 rfl) ?_
  refine q_get hx hb hts hown hA hW iX13 h0 rfl 3 (by decide) (hts (.fieldLink RX13 7 "HighRecipesLaw$Act" "signs" "[I") (by decide +kernel)) (fun _ h9 => h9) (v := .ref sg) rfl dX13_isSo_39 ?_
  refine lv_iload_n hx hb dX13_isSo_42 rfl (lv_at hl 2 rfl) ?_
  refine q_iald hx hb hA hW h1 (vp_in_nI (n := 0) (by decide) (by decide)) dX13_isSo_43 ?_
  rw [show gs (0 : Int32).toNatClampNeg = 2 from hgs0]
  refine lv_if_ne (tgt := 62) hx hb dX13_isSo_44 (by decide) (fun c_44 => ?_) (fun c_44 => absurd c_44 (by decide))
  refine lv_aload_n hx hb dX13_isSo_62 rfl (lv_at hl 4 rfl) ?_
  refine q_get hx hb hts hown hA hW iX13 h0 rfl 3 (by decide) (hts (.fieldLink RX13 7 "HighRecipesLaw$Act" "signs" "[I") (by decide +kernel)) (fun _ h9 => h9) (v := .ref sg) rfl dX13_isSo_63 ?_
  refine lv_iload_n hx hb dX13_isSo_66 rfl (lv_at hl 2 rfl) ?_
  refine q_iald hx hb hA hW h1 (vp_in_nI (n := 0) (by decide) (by decide)) dX13_isSo_67 ?_
  rw [show gs (0 : Int32).toNatClampNeg = 2 from hgs0]
  refine lv_iconst (v := 1) hx hb dX13_isSo_68 (by decide) ?_
  refine lv_icmp_ne (tgt := 87) hx hb dX13_isSo_69 (by decide) (fun c_69 => ?_) (fun c_69 => absurd c_69 (by decide))
  refine lv_iload hx hb dX13_isSo_87 (lv_at hl 1 rfl) ?_
  refine lv_iload hx hb dX13_isSo_89 (lv_at hl 0 rfl) ?_
  refine lv_icmp_ne (tgt := 98) hx hb dX13_isSo_91 (by decide) (fun c_91 => ?_) (fun c_91 => ?_)
  · refine lv_iconst (v := 0) hx hb dX13_isSo_98 (by decide) ?_
    refine lv_iand hx hb dX13_isSo_99 ?_
    rw [show (1 : Int32) &&& 0 = w01 (c_cmp 32 (D0 hd v) (E0 hd v) && true) from w01_and2 rfl (w01_f (by show decide ((D0 hd v) = (E0 hd v)) = _; exact (decide_eq_false c_91)))]
    refine lv_istore_n (lv' := [(2, .int (w01 (c_cmp 32 (D0 hd v) (E0 hd v) && true))), (5, .int (E0 hd v)), (4, .int (D0 hd v)), (3, .int 0), (0, .ref a), (1, .ref k)]) hx hb dX13_isSo_100 rfl hl (by decide) rfl (fun ls hl => ?_)
    refine lv_iinc (v := 1) (lv' := [(3, .int 1), (2, .int (w01 (c_cmp 32 (D0 hd v) (E0 hd v) && true))), (5, .int (E0 hd v)), (4, .int (D0 hd v)), (0, .ref a), (1, .ref k)]) hx hb dX13_isSo_101 hl (k := 3) rfl (by decide) (by decide) rfl (fun ls hl => ?_)
    refine lv_goto (tgt := 4) hx hb dX13_isSo_104 (by decide) ?_
    refine lv_iload_n hx hb dX13_isSo_4 rfl (lv_at hl 0 rfl) ?_
    refine lv_aload_n hx hb dX13_isSo_5 rfl (lv_at hl 4 rfl) ?_
    refine q_get hx hb hts hown hA hW iX13 h0 rfl 3 (by decide) (hts (.fieldLink RX13 7 "HighRecipesLaw$Act" "signs" "[I") (by decide +kernel)) (fun _ h9 => h9) (v := .ref sg) rfl dX13_isSo_6 ?_
    refine q_alen hx hb hA hW 0 rfl h1 (v := 2) rfl dX13_isSo_9 ?_
    refine lv_icmp_ge (tgt := 107) hx hb dX13_isSo_10 (by decide) (fun c_10 => absurd c_10 (by decide)) (fun c_10 => ?_)
    refine lv_aload_n hx hb dX13_isSo_13 rfl (lv_at hl 4 rfl) ?_
    refine q_get hx hb hts hown hA hW iX13 h0 rfl 4 (by decide) (hts (.fieldLink RX13 15 "HighRecipesLaw$Act" "ones" "[LHighRecipesLaw$Node;") (by decide +kernel)) (fun _ h9 => h9) (v := .ref on) rfl dX13_isSo_14 ?_
    refine lv_iload_n hx hb dX13_isSo_17 rfl (lv_at hl 0 rfl) ?_
    refine q_aald hx hb hA hW 7 rfl h2 (vp_in_nI (n := 1) (by decide) (by decide)) dX13_isSo_18 ?_
    rw [show go (1 : Int32).toNatClampNeg = some a1 from hgo1]
    refine lv_aload_n hx hb dX13_isSo_19 rfl (lv_at hl 5 rfl) ?_
    refine q_ci (va_runV (As := [.ref k]) (rest := []) ⟨hx, hb, hml, hown, hts⟩ (kX16_value_0 l E f n k pa re ki wa no pn pr hd v b w a1 P D1 W1 hM1 hpn hK) (cwV 1 hts gX13_isSo_X16_value rfl rfl rfl (by decide +kernel) ⟨(Nat.le_of_ble_eq_true rfl), (Nat.le_of_ble_eq_true rfl)⟩) (q_pV hA hW hS (ci := 16) rfl hca1) rfl rfl hl.1 rfl (lv_room (Nat.le_of_ble_eq_true rfl)) dX13_isSo_20 ⟨(Nat.le_of_ble_eq_true rfl), (Nat.le_of_ble_eq_true rfl)⟩) hS (fun r_20x1 f_20x1 n_20x1 H locs hp hW hS => ?_)
    obtain ⟨rfl, rfl, rfl⟩ := hp
    have hW : q_W E (f) n H := hW
    refine lv_istore (lv' := [(4, .int (D1 hd v)), (3, .int 1), (2, .int (w01 (c_cmp 32 (D0 hd v) (E0 hd v) && true))), (5, .int (E0 hd v)), (0, .ref a), (1, .ref k)]) hx hb dX13_isSo_23 hl (by decide) rfl (fun ls hl => ?_)
    refine lv_aload_n hx hb dX13_isSo_25 rfl (lv_at hl 4 rfl) ?_
    refine q_get hx hb hts hown hA hW iX13 h0 rfl 5 (by decide) (hts (.fieldLink RX13 19 "HighRecipesLaw$Act" "others" "[LHighRecipesLaw$Node;") (by decide +kernel)) (fun _ h9 => h9) (v := .ref ot) rfl dX13_isSo_26 ?_
    refine lv_iload_n hx hb dX13_isSo_29 rfl (lv_at hl 1 rfl) ?_
    refine q_aald hx hb hA hW 7 rfl h3 (vp_in_nI (n := 1) (by decide) (by decide)) dX13_isSo_30 ?_
    rw [show gt (1 : Int32).toNatClampNeg = some c1 from hgt1]
    refine lv_aload_n hx hb dX13_isSo_31 rfl (lv_at hl 5 rfl) ?_
    refine q_ci (va_runV (As := [.ref k]) (rest := []) ⟨hx, hb, hml, hown, hts⟩ (kX16_value_0 l E f n k pa re ki wa no pn pr hd v b w c1 P E1 Y1 hQ1 hpn hK) (cwV 1 hts gX13_isSo_X16_value rfl rfl rfl (by decide +kernel) ⟨(Nat.le_of_ble_eq_true rfl), (Nat.le_of_ble_eq_true rfl)⟩) (q_pV hA hW hS (ci := 16) rfl hcc1) rfl rfl hl.1 rfl (lv_room (Nat.le_of_ble_eq_true rfl)) dX13_isSo_32 ⟨(Nat.le_of_ble_eq_true rfl), (Nat.le_of_ble_eq_true rfl)⟩) hS (fun r_32x1 f_32x1 n_32x1 H locs hp hW hS => ?_)
    obtain ⟨rfl, rfl, rfl⟩ := hp
    have hW : q_W E (f) n H := hW
    refine lv_istore (lv' := [(5, .int (E1 hd v)), (4, .int (D1 hd v)), (3, .int 1), (2, .int (w01 (c_cmp 32 (D0 hd v) (E0 hd v) && true))), (0, .ref a), (1, .ref k)]) hx hb dX13_isSo_35 hl (by decide) rfl (fun ls hl => ?_)
    refine lv_iload_n hx hb dX13_isSo_37 rfl (lv_at hl 3 rfl) ?_
    refine lv_aload_n hx hb dX13_isSo_38 rfl (lv_at hl 4 rfl) ?_
    refine q_get hx hb hts hown hA hW iX13 h0 rfl 3 (by decide) (hts (.fieldLink RX13 7 "HighRecipesLaw$Act" "signs" "[I") (by decide +kernel)) (fun _ h9 => h9) (v := .ref sg) rfl dX13_isSo_39 ?_
    refine lv_iload_n hx hb dX13_isSo_42 rfl (lv_at hl 2 rfl) ?_
    refine q_iald hx hb hA hW h1 (vp_in_nI (n := 1) (by decide) (by decide)) dX13_isSo_43 ?_
    rw [show gs (1 : Int32).toNatClampNeg = 0 from hgs1]
    refine lv_if_ne (tgt := 62) hx hb dX13_isSo_44 (by decide) (fun c_44 => absurd c_44 (by decide)) (fun c_44 => ?_)
    refine lv_iload hx hb dX13_isSo_47 (lv_at hl 1 rfl) ?_
    refine lv_iload hx hb dX13_isSo_49 (lv_at hl 0 rfl) ?_
    refine lv_icmp_ge (tgt := 58) hx hb dX13_isSo_51 (by decide) (fun c_51 => ?_) (fun c_51 => ?_)
    · refine lv_iconst (v := 0) hx hb dX13_isSo_58 (by decide) ?_
      refine lv_goto (tgt := 99) hx hb dX13_isSo_59 (by decide) ?_
      refine lv_iand hx hb dX13_isSo_99 ?_
      rw [show (w01 (c_cmp 32 (D0 hd v) (E0 hd v) && true) : Int32) &&& 0 = w01 (c_cmp 30 (D1 hd v) (E1 hd v) && (c_cmp 32 (D0 hd v) (E0 hd v) && true)) from w01_and2 rfl (w01_f (by show decide ((D1 hd v) < (E1 hd v)) = _; exact (decide_eq_false (Int32.not_lt.mpr c_51))))]
      refine lv_istore_n (lv' := [(2, .int (w01 (c_cmp 30 (D1 hd v) (E1 hd v) && (c_cmp 32 (D0 hd v) (E0 hd v) && true)))), (5, .int (E1 hd v)), (4, .int (D1 hd v)), (3, .int 1), (0, .ref a), (1, .ref k)]) hx hb dX13_isSo_100 rfl hl (by decide) rfl (fun ls hl => ?_)
      refine lv_iinc (v := 2) (lv' := [(3, .int 2), (2, .int (w01 (c_cmp 30 (D1 hd v) (E1 hd v) && (c_cmp 32 (D0 hd v) (E0 hd v) && true)))), (5, .int (E1 hd v)), (4, .int (D1 hd v)), (0, .ref a), (1, .ref k)]) hx hb dX13_isSo_101 hl (k := 3) rfl (by decide) (by decide) rfl (fun ls hl => ?_)
      refine lv_goto (tgt := 4) hx hb dX13_isSo_104 (by decide) ?_
      refine lv_iload_n hx hb dX13_isSo_4 rfl (lv_at hl 0 rfl) ?_
      refine lv_aload_n hx hb dX13_isSo_5 rfl (lv_at hl 4 rfl) ?_
      refine q_get hx hb hts hown hA hW iX13 h0 rfl 3 (by decide) (hts (.fieldLink RX13 7 "HighRecipesLaw$Act" "signs" "[I") (by decide +kernel)) (fun _ h9 => h9) (v := .ref sg) rfl dX13_isSo_6 ?_
      refine q_alen hx hb hA hW 0 rfl h1 (v := 2) rfl dX13_isSo_9 ?_
      refine lv_icmp_ge (tgt := 107) hx hb dX13_isSo_10 (by decide) (fun c_10 => ?_) (fun c_10 => absurd c_10 (by decide))
      refine lv_iload_n hx hb dX13_isSo_107 rfl (lv_at hl 1 rfl) ?_
      exact q_zret hx hb hr hlocks hW hS (by unfold w01; split <;> rfl) ⟨rfl, rfl, rfl⟩ (Nat.le_of_ble_eq_true rfl) (Nat.le_of_ble_eq_true rfl) dX13_isSo_108
    · refine lv_iconst (v := 1) hx hb dX13_isSo_54 (by decide) ?_
      refine lv_goto (tgt := 99) hx hb dX13_isSo_55 (by decide) ?_
      refine lv_iand hx hb dX13_isSo_99 ?_
      rw [show (w01 (c_cmp 32 (D0 hd v) (E0 hd v) && true) : Int32) &&& 1 = w01 (c_cmp 30 (D1 hd v) (E1 hd v) && (c_cmp 32 (D0 hd v) (E0 hd v) && true)) from w01_and2 rfl (w01_t (by show decide ((D1 hd v) < (E1 hd v)) = _; exact (decide_eq_true (Int32.not_le.mp c_51))))]
      refine lv_istore_n (lv' := [(2, .int (w01 (c_cmp 30 (D1 hd v) (E1 hd v) && (c_cmp 32 (D0 hd v) (E0 hd v) && true)))), (5, .int (E1 hd v)), (4, .int (D1 hd v)), (3, .int 1), (0, .ref a), (1, .ref k)]) hx hb dX13_isSo_100 rfl hl (by decide) rfl (fun ls hl => ?_)
      refine lv_iinc (v := 2) (lv' := [(3, .int 2), (2, .int (w01 (c_cmp 30 (D1 hd v) (E1 hd v) && (c_cmp 32 (D0 hd v) (E0 hd v) && true)))), (5, .int (E1 hd v)), (4, .int (D1 hd v)), (0, .ref a), (1, .ref k)]) hx hb dX13_isSo_101 hl (k := 3) rfl (by decide) (by decide) rfl (fun ls hl => ?_)
      refine lv_goto (tgt := 4) hx hb dX13_isSo_104 (by decide) ?_
      refine lv_iload_n hx hb dX13_isSo_4 rfl (lv_at hl 0 rfl) ?_
      refine lv_aload_n hx hb dX13_isSo_5 rfl (lv_at hl 4 rfl) ?_
      refine q_get hx hb hts hown hA hW iX13 h0 rfl 3 (by decide) (hts (.fieldLink RX13 7 "HighRecipesLaw$Act" "signs" "[I") (by decide +kernel)) (fun _ h9 => h9) (v := .ref sg) rfl dX13_isSo_6 ?_
      refine q_alen hx hb hA hW 0 rfl h1 (v := 2) rfl dX13_isSo_9 ?_
      refine lv_icmp_ge (tgt := 107) hx hb dX13_isSo_10 (by decide) (fun c_10 => ?_) (fun c_10 => absurd c_10 (by decide))
      refine lv_iload_n hx hb dX13_isSo_107 rfl (lv_at hl 1 rfl) ?_
      exact q_zret hx hb hr hlocks hW hS (by unfold w01; split <;> rfl) ⟨rfl, rfl, rfl⟩ (Nat.le_of_ble_eq_true rfl) (Nat.le_of_ble_eq_true rfl) dX13_isSo_108
  · refine lv_iconst (v := 1) hx hb dX13_isSo_94 (by decide) ?_
    refine lv_goto (tgt := 99) hx hb dX13_isSo_95 (by decide) ?_
    refine lv_iand hx hb dX13_isSo_99 ?_
    rw [show (1 : Int32) &&& 1 = w01 (c_cmp 32 (D0 hd v) (E0 hd v) && true) from w01_and2 rfl (w01_t (by show decide ((D0 hd v) = (E0 hd v)) = _; exact (decide_eq_true c_91)))]
    refine lv_istore_n (lv' := [(2, .int (w01 (c_cmp 32 (D0 hd v) (E0 hd v) && true))), (5, .int (E0 hd v)), (4, .int (D0 hd v)), (3, .int 0), (0, .ref a), (1, .ref k)]) hx hb dX13_isSo_100 rfl hl (by decide) rfl (fun ls hl => ?_)
    refine lv_iinc (v := 1) (lv' := [(3, .int 1), (2, .int (w01 (c_cmp 32 (D0 hd v) (E0 hd v) && true))), (5, .int (E0 hd v)), (4, .int (D0 hd v)), (0, .ref a), (1, .ref k)]) hx hb dX13_isSo_101 hl (k := 3) rfl (by decide) (by decide) rfl (fun ls hl => ?_)
    refine lv_goto (tgt := 4) hx hb dX13_isSo_104 (by decide) ?_
    refine lv_iload_n hx hb dX13_isSo_4 rfl (lv_at hl 0 rfl) ?_
    refine lv_aload_n hx hb dX13_isSo_5 rfl (lv_at hl 4 rfl) ?_
    refine q_get hx hb hts hown hA hW iX13 h0 rfl 3 (by decide) (hts (.fieldLink RX13 7 "HighRecipesLaw$Act" "signs" "[I") (by decide +kernel)) (fun _ h9 => h9) (v := .ref sg) rfl dX13_isSo_6 ?_
    refine q_alen hx hb hA hW 0 rfl h1 (v := 2) rfl dX13_isSo_9 ?_
    refine lv_icmp_ge (tgt := 107) hx hb dX13_isSo_10 (by decide) (fun c_10 => absurd c_10 (by decide)) (fun c_10 => ?_)
    refine lv_aload_n hx hb dX13_isSo_13 rfl (lv_at hl 4 rfl) ?_
    refine q_get hx hb hts hown hA hW iX13 h0 rfl 4 (by decide) (hts (.fieldLink RX13 15 "HighRecipesLaw$Act" "ones" "[LHighRecipesLaw$Node;") (by decide +kernel)) (fun _ h9 => h9) (v := .ref on) rfl dX13_isSo_14 ?_
    refine lv_iload_n hx hb dX13_isSo_17 rfl (lv_at hl 0 rfl) ?_
    refine q_aald hx hb hA hW 7 rfl h2 (vp_in_nI (n := 1) (by decide) (by decide)) dX13_isSo_18 ?_
    rw [show go (1 : Int32).toNatClampNeg = some a1 from hgo1]
    refine lv_aload_n hx hb dX13_isSo_19 rfl (lv_at hl 5 rfl) ?_
    refine q_ci (va_runV (As := [.ref k]) (rest := []) ⟨hx, hb, hml, hown, hts⟩ (kX16_value_0 l E f n k pa re ki wa no pn pr hd v b w a1 P D1 W1 hM1 hpn hK) (cwV 1 hts gX13_isSo_X16_value rfl rfl rfl (by decide +kernel) ⟨(Nat.le_of_ble_eq_true rfl), (Nat.le_of_ble_eq_true rfl)⟩) (q_pV hA hW hS (ci := 16) rfl hca1) rfl rfl hl.1 rfl (lv_room (Nat.le_of_ble_eq_true rfl)) dX13_isSo_20 ⟨(Nat.le_of_ble_eq_true rfl), (Nat.le_of_ble_eq_true rfl)⟩) hS (fun r_20x1 f_20x1 n_20x1 H locs hp hW hS => ?_)
    obtain ⟨rfl, rfl, rfl⟩ := hp
    have hW : q_W E (f) n H := hW
    refine lv_istore (lv' := [(4, .int (D1 hd v)), (3, .int 1), (2, .int (w01 (c_cmp 32 (D0 hd v) (E0 hd v) && true))), (5, .int (E0 hd v)), (0, .ref a), (1, .ref k)]) hx hb dX13_isSo_23 hl (by decide) rfl (fun ls hl => ?_)
    refine lv_aload_n hx hb dX13_isSo_25 rfl (lv_at hl 4 rfl) ?_
    refine q_get hx hb hts hown hA hW iX13 h0 rfl 5 (by decide) (hts (.fieldLink RX13 19 "HighRecipesLaw$Act" "others" "[LHighRecipesLaw$Node;") (by decide +kernel)) (fun _ h9 => h9) (v := .ref ot) rfl dX13_isSo_26 ?_
    refine lv_iload_n hx hb dX13_isSo_29 rfl (lv_at hl 1 rfl) ?_
    refine q_aald hx hb hA hW 7 rfl h3 (vp_in_nI (n := 1) (by decide) (by decide)) dX13_isSo_30 ?_
    rw [show gt (1 : Int32).toNatClampNeg = some c1 from hgt1]
    refine lv_aload_n hx hb dX13_isSo_31 rfl (lv_at hl 5 rfl) ?_
    refine q_ci (va_runV (As := [.ref k]) (rest := []) ⟨hx, hb, hml, hown, hts⟩ (kX16_value_0 l E f n k pa re ki wa no pn pr hd v b w c1 P E1 Y1 hQ1 hpn hK) (cwV 1 hts gX13_isSo_X16_value rfl rfl rfl (by decide +kernel) ⟨(Nat.le_of_ble_eq_true rfl), (Nat.le_of_ble_eq_true rfl)⟩) (q_pV hA hW hS (ci := 16) rfl hcc1) rfl rfl hl.1 rfl (lv_room (Nat.le_of_ble_eq_true rfl)) dX13_isSo_32 ⟨(Nat.le_of_ble_eq_true rfl), (Nat.le_of_ble_eq_true rfl)⟩) hS (fun r_32x1 f_32x1 n_32x1 H locs hp hW hS => ?_)
    obtain ⟨rfl, rfl, rfl⟩ := hp
    have hW : q_W E (f) n H := hW
    refine lv_istore (lv' := [(5, .int (E1 hd v)), (4, .int (D1 hd v)), (3, .int 1), (2, .int (w01 (c_cmp 32 (D0 hd v) (E0 hd v) && true))), (0, .ref a), (1, .ref k)]) hx hb dX13_isSo_35 hl (by decide) rfl (fun ls hl => ?_)
    refine lv_iload_n hx hb dX13_isSo_37 rfl (lv_at hl 3 rfl) ?_
    refine lv_aload_n hx hb dX13_isSo_38 rfl (lv_at hl 4 rfl) ?_
    refine q_get hx hb hts hown hA hW iX13 h0 rfl 3 (by decide) (hts (.fieldLink RX13 7 "HighRecipesLaw$Act" "signs" "[I") (by decide +kernel)) (fun _ h9 => h9) (v := .ref sg) rfl dX13_isSo_39 ?_
    refine lv_iload_n hx hb dX13_isSo_42 rfl (lv_at hl 2 rfl) ?_
    refine q_iald hx hb hA hW h1 (vp_in_nI (n := 1) (by decide) (by decide)) dX13_isSo_43 ?_
    rw [show gs (1 : Int32).toNatClampNeg = 0 from hgs1]
    refine lv_if_ne (tgt := 62) hx hb dX13_isSo_44 (by decide) (fun c_44 => absurd c_44 (by decide)) (fun c_44 => ?_)
    refine lv_iload hx hb dX13_isSo_47 (lv_at hl 1 rfl) ?_
    refine lv_iload hx hb dX13_isSo_49 (lv_at hl 0 rfl) ?_
    refine lv_icmp_ge (tgt := 58) hx hb dX13_isSo_51 (by decide) (fun c_51 => ?_) (fun c_51 => ?_)
    · refine lv_iconst (v := 0) hx hb dX13_isSo_58 (by decide) ?_
      refine lv_goto (tgt := 99) hx hb dX13_isSo_59 (by decide) ?_
      refine lv_iand hx hb dX13_isSo_99 ?_
      rw [show (w01 (c_cmp 32 (D0 hd v) (E0 hd v) && true) : Int32) &&& 0 = w01 (c_cmp 30 (D1 hd v) (E1 hd v) && (c_cmp 32 (D0 hd v) (E0 hd v) && true)) from w01_and2 rfl (w01_f (by show decide ((D1 hd v) < (E1 hd v)) = _; exact (decide_eq_false (Int32.not_lt.mpr c_51))))]
      refine lv_istore_n (lv' := [(2, .int (w01 (c_cmp 30 (D1 hd v) (E1 hd v) && (c_cmp 32 (D0 hd v) (E0 hd v) && true)))), (5, .int (E1 hd v)), (4, .int (D1 hd v)), (3, .int 1), (0, .ref a), (1, .ref k)]) hx hb dX13_isSo_100 rfl hl (by decide) rfl (fun ls hl => ?_)
      refine lv_iinc (v := 2) (lv' := [(3, .int 2), (2, .int (w01 (c_cmp 30 (D1 hd v) (E1 hd v) && (c_cmp 32 (D0 hd v) (E0 hd v) && true)))), (5, .int (E1 hd v)), (4, .int (D1 hd v)), (0, .ref a), (1, .ref k)]) hx hb dX13_isSo_101 hl (k := 3) rfl (by decide) (by decide) rfl (fun ls hl => ?_)
      refine lv_goto (tgt := 4) hx hb dX13_isSo_104 (by decide) ?_
      refine lv_iload_n hx hb dX13_isSo_4 rfl (lv_at hl 0 rfl) ?_
      refine lv_aload_n hx hb dX13_isSo_5 rfl (lv_at hl 4 rfl) ?_
      refine q_get hx hb hts hown hA hW iX13 h0 rfl 3 (by decide) (hts (.fieldLink RX13 7 "HighRecipesLaw$Act" "signs" "[I") (by decide +kernel)) (fun _ h9 => h9) (v := .ref sg) rfl dX13_isSo_6 ?_
      refine q_alen hx hb hA hW 0 rfl h1 (v := 2) rfl dX13_isSo_9 ?_
      refine lv_icmp_ge (tgt := 107) hx hb dX13_isSo_10 (by decide) (fun c_10 => ?_) (fun c_10 => absurd c_10 (by decide))
      refine lv_iload_n hx hb dX13_isSo_107 rfl (lv_at hl 1 rfl) ?_
      exact q_zret hx hb hr hlocks hW hS (by unfold w01; split <;> rfl) ⟨rfl, rfl, rfl⟩ (Nat.le_of_ble_eq_true rfl) (Nat.le_of_ble_eq_true rfl) dX13_isSo_108
    · refine lv_iconst (v := 1) hx hb dX13_isSo_54 (by decide) ?_
      refine lv_goto (tgt := 99) hx hb dX13_isSo_55 (by decide) ?_
      refine lv_iand hx hb dX13_isSo_99 ?_
      rw [show (w01 (c_cmp 32 (D0 hd v) (E0 hd v) && true) : Int32) &&& 1 = w01 (c_cmp 30 (D1 hd v) (E1 hd v) && (c_cmp 32 (D0 hd v) (E0 hd v) && true)) from w01_and2 rfl (w01_t (by show decide ((D1 hd v) < (E1 hd v)) = _; exact (decide_eq_true (Int32.not_le.mp c_51))))]
      refine lv_istore_n (lv' := [(2, .int (w01 (c_cmp 30 (D1 hd v) (E1 hd v) && (c_cmp 32 (D0 hd v) (E0 hd v) && true)))), (5, .int (E1 hd v)), (4, .int (D1 hd v)), (3, .int 1), (0, .ref a), (1, .ref k)]) hx hb dX13_isSo_100 rfl hl (by decide) rfl (fun ls hl => ?_)
      refine lv_iinc (v := 2) (lv' := [(3, .int 2), (2, .int (w01 (c_cmp 30 (D1 hd v) (E1 hd v) && (c_cmp 32 (D0 hd v) (E0 hd v) && true)))), (5, .int (E1 hd v)), (4, .int (D1 hd v)), (0, .ref a), (1, .ref k)]) hx hb dX13_isSo_101 hl (k := 3) rfl (by decide) (by decide) rfl (fun ls hl => ?_)
      refine lv_goto (tgt := 4) hx hb dX13_isSo_104 (by decide) ?_
      refine lv_iload_n hx hb dX13_isSo_4 rfl (lv_at hl 0 rfl) ?_
      refine lv_aload_n hx hb dX13_isSo_5 rfl (lv_at hl 4 rfl) ?_
      refine q_get hx hb hts hown hA hW iX13 h0 rfl 3 (by decide) (hts (.fieldLink RX13 7 "HighRecipesLaw$Act" "signs" "[I") (by decide +kernel)) (fun _ h9 => h9) (v := .ref sg) rfl dX13_isSo_6 ?_
      refine q_alen hx hb hA hW 0 rfl h1 (v := 2) rfl dX13_isSo_9 ?_
      refine lv_icmp_ge (tgt := 107) hx hb dX13_isSo_10 (by decide) (fun c_10 => ?_) (fun c_10 => absurd c_10 (by decide))
      refine lv_iload_n hx hb dX13_isSo_107 rfl (lv_at hl 1 rfl) ?_
      exact q_zret hx hb hr hlocks hW hS (by unfold w01; split <;> rfl) ⟨rfl, rfl, rfl⟩ (Nat.le_of_ble_eq_true rfl) (Nat.le_of_ble_eq_true rfl) dX13_isSo_108

set_option maxHeartbeats 4000000 in
set_option maxRecDepth 100000 in
theorem kX13_isSo_21 (l : Launch) (E : q_E) (f : q_H) (n : Nat) (k pa re ki wa no pn : Nat) (pr : Nat → Nat) (hd v : q_V) (b : Nat) (w : Int32) (a sg on ot : Nat) (a0 c0 : Nat) (D0 E0 : q_D) (W0 Y0 : List Int32) (a1 c1 : Nat) (D1 E1 : q_D) (W1 Y1 : List Int32) (do_ wh : Int32) (va bl el : Option Nat) (P : Nat → Prop) (gs : Nat → Int32) (go gt : Nat → Option Nat) (h0 : f a = some (cLA do_ wh va (some sg) (some on) (some ot) bl el)) (h1 : f sg = some (aI E 2 gs)) (h2 : f on = some (aQ E 7 2 go)) (h3 : f ot = some (aQ E 7 2 gt)) (hgs0 : gs 0 = 2) (hgo0 : go 0 = some a0) (hgt0 : gt 0 = some c0) (hM0 : NODE pn P f 0 a0 D0 W0) (hQ0 : NODE pn P f 0 c0 E0 Y0) (hgs1 : gs 1 = 1) (hgo1 : go 1 = some a1) (hgt1 : gt 1 = some c1) (hM1 : NODE pn P f 0 a1 D1 W1) (hQ1 : NODE pn P f 0 c1 E1 Y1) (hpn : pn ≤ 8) (hK : LK E f k pa re ki wa no pn pr hd v b w) : Met l yX13_isSo wsX13_isSo ({ frames := 6, cells := 0, slots := 0, locals := 300 }) (q_P E [.ref a, .ref k] f n) (q_Qi E (fun r f1 n1 => w01 (c_cmp 31 (D1 hd v) (E1 hd v) && (c_cmp 32 (D0 hd v) (E0 hd v) && true)) = r ∧ f = f1 ∧ n = n1)) 0 0 (q_ge E) := by
  refine Met.ofW (cc := cX13_isSo) (maxL := 6) (ret := (some .boolean)) (by decide) rfl ?_
  intro p0_ e0_ s0_ m0_ args0_ below0_ meth0_ c0_ s1_ B hml hv
  obtain ⟨rfl, hA, hW⟩ := hv
  have hx := B.exec
  have hb := B.bytes
  have hr := B.returns
  have hts := atoms_spec (ws := wsX13_isSo) B.pre
  have hown : s0_.vm.findClass RX13 = some m0_.cls := findClass_of_methodNamed B.named
  have hlocks := B.notSynchronized
  have hS : va_S (q_ge E) s0_.heap s0_.heap [] := va_S.rf
  have iX13 : ∀ w ∈ wsX130, w ∈ wsX13_isSo := by decide +kernel
  have hl := lv_entry ([.ref a, .ref k]) (n := 6) (Nat.le_of_ble_eq_true rfl)
  rw [lg_entry_eq]
  generalize (lg_sl ([.ref a, .ref k]) ++ List.replicate (6 - (lg_sl ([.ref a, .ref k])).length) Slot.unset).toArray = ls at hl ⊢
  have hl : lv_has ls 6 [(0, .ref a), (1, .ref k)] := hl
  obtain ⟨hk0, ⟨gk, hki, hkv⟩, ⟨gw, hwa, hwv⟩, ⟨gn, hno, hnv⟩, ⟨gp, hpa, hpv⟩, hrow⟩ := id hK
  have l_k := hW.lt hk0
  have l_ki := hW.lt hki
  have l_wa := hW.lt hwa
  have l_no := hW.lt hno
  have l_pa := hW.lt hpa
  obtain ⟨-, so0, ka0, xa0, ya0, hca0⟩ := hM0.cell
  obtain ⟨-, sp0, kc0, xc0, yc0, hcc0⟩ := hQ0.cell
  obtain ⟨-, so1, ka1, xa1, ya1, hca1⟩ := hM1.cell
  obtain ⟨-, sp1, kc1, xc1, yc1, hcc1⟩ := hQ1.cell
  refine lv_iconst (v := 1) hx hb dX13_isSo_0 (by decide) ?_
  refine lv_istore_n (lv' := [(2, .int 1), (0, .ref a), (1, .ref k)]) hx hb dX13_isSo_1 rfl hl (by decide) rfl (fun ls hl => ?_)
  refine lv_iconst (v := 0) hx hb dX13_isSo_2 (by decide) ?_
  refine lv_istore_n (lv' := [(3, .int 0), (2, .int 1), (0, .ref a), (1, .ref k)]) hx hb dX13_isSo_3 rfl hl (by decide) rfl (fun ls hl => ?_)
  refine lv_iload_n hx hb dX13_isSo_4 rfl (lv_at hl 0 rfl) ?_
  refine lv_aload_n hx hb dX13_isSo_5 rfl (lv_at hl 2 rfl) ?_
  refine q_get hx hb hts hown hA hW iX13 h0 rfl 3 (by decide) (hts (.fieldLink RX13 7 "HighRecipesLaw$Act" "signs" "[I") (by decide +kernel)) (fun _ h9 => h9) (v := .ref sg) rfl dX13_isSo_6 ?_
  refine q_alen hx hb hA hW 0 rfl h1 (v := 2) rfl dX13_isSo_9 ?_
  refine lv_icmp_ge (tgt := 107) hx hb dX13_isSo_10 (by decide) (fun c_10 => absurd c_10 (by decide)) (fun c_10 => ?_)
  refine lv_aload_n hx hb dX13_isSo_13 rfl (lv_at hl 2 rfl) ?_
  refine q_get hx hb hts hown hA hW iX13 h0 rfl 4 (by decide) (hts (.fieldLink RX13 15 "HighRecipesLaw$Act" "ones" "[LHighRecipesLaw$Node;") (by decide +kernel)) (fun _ h9 => h9) (v := .ref on) rfl dX13_isSo_14 ?_
  refine lv_iload_n hx hb dX13_isSo_17 rfl (lv_at hl 0 rfl) ?_
  refine q_aald hx hb hA hW 7 rfl h2 (vp_in_nI (n := 0) (by decide) (by decide)) dX13_isSo_18 ?_
  rw [show go (0 : Int32).toNatClampNeg = some a0 from hgo0]
  refine lv_aload_n hx hb dX13_isSo_19 rfl (lv_at hl 3 rfl) ?_
  refine q_ci (va_runV (As := [.ref k]) (rest := []) ⟨hx, hb, hml, hown, hts⟩ (kX16_value_0 l E f n k pa re ki wa no pn pr hd v b w a0 P D0 W0 hM0 hpn hK) (cwV 1 hts gX13_isSo_X16_value rfl rfl rfl (by decide +kernel) ⟨(Nat.le_of_ble_eq_true rfl), (Nat.le_of_ble_eq_true rfl)⟩) (q_pV hA hW hS (ci := 16) rfl hca0) rfl rfl hl.1 rfl (lv_room (Nat.le_of_ble_eq_true rfl)) dX13_isSo_20 ⟨(Nat.le_of_ble_eq_true rfl), (Nat.le_of_ble_eq_true rfl)⟩) hS (fun r_20 f_20 n_20 H locs hp hW hS => ?_)
  obtain ⟨rfl, rfl, rfl⟩ := hp
  have hW : q_W E (f) n H := hW
  refine lv_istore (lv' := [(4, .int (D0 hd v)), (3, .int 0), (2, .int 1), (0, .ref a), (1, .ref k)]) hx hb dX13_isSo_23 hl (by decide) rfl (fun ls hl => ?_)
  refine lv_aload_n hx hb dX13_isSo_25 rfl (lv_at hl 3 rfl) ?_
  refine q_get hx hb hts hown hA hW iX13 h0 rfl 5 (by decide) (hts (.fieldLink RX13 19 "HighRecipesLaw$Act" "others" "[LHighRecipesLaw$Node;") (by decide +kernel)) (fun _ h9 => h9) (v := .ref ot) rfl dX13_isSo_26 ?_
  refine lv_iload_n hx hb dX13_isSo_29 rfl (lv_at hl 1 rfl) ?_
  refine q_aald hx hb hA hW 7 rfl h3 (vp_in_nI (n := 0) (by decide) (by decide)) dX13_isSo_30 ?_
  rw [show gt (0 : Int32).toNatClampNeg = some c0 from hgt0]
  refine lv_aload_n hx hb dX13_isSo_31 rfl (lv_at hl 4 rfl) ?_
  refine q_ci (va_runV (As := [.ref k]) (rest := []) ⟨hx, hb, hml, hown, hts⟩ (kX16_value_0 l E f n k pa re ki wa no pn pr hd v b w c0 P E0 Y0 hQ0 hpn hK) (cwV 1 hts gX13_isSo_X16_value rfl rfl rfl (by decide +kernel) ⟨(Nat.le_of_ble_eq_true rfl), (Nat.le_of_ble_eq_true rfl)⟩) (q_pV hA hW hS (ci := 16) rfl hcc0) rfl rfl hl.1 rfl (lv_room (Nat.le_of_ble_eq_true rfl)) dX13_isSo_32 ⟨(Nat.le_of_ble_eq_true rfl), (Nat.le_of_ble_eq_true rfl)⟩) hS (fun r_32 f_32 n_32 H locs hp hW hS => ?_)
  obtain ⟨rfl, rfl, rfl⟩ := hp
  have hW : q_W E (f) n H := hW
  refine lv_istore (lv' := [(5, .int (E0 hd v)), (4, .int (D0 hd v)), (3, .int 0), (2, .int 1), (0, .ref a), (1, .ref k)]) hx hb dX13_isSo_35 hl (by decide) rfl (fun ls hl => ?_)
  refine lv_iload_n hx hb dX13_isSo_37 rfl (lv_at hl 3 rfl) ?_
  refine lv_aload_n hx hb dX13_isSo_38 rfl (lv_at hl 4 rfl) ?_
  refine q_get hx hb hts hown hA hW iX13 h0 rfl 3 (by decide) (hts (.fieldLink RX13 7 "HighRecipesLaw$Act" "signs" "[I") (by decide +kernel)) (fun _ h9 => h9) (v := .ref sg) rfl dX13_isSo_39 ?_
  refine lv_iload_n hx hb dX13_isSo_42 rfl (lv_at hl 2 rfl) ?_
  refine q_iald hx hb hA hW h1 (vp_in_nI (n := 0) (by decide) (by decide)) dX13_isSo_43 ?_
  rw [show gs (0 : Int32).toNatClampNeg = 2 from hgs0]
  refine lv_if_ne (tgt := 62) hx hb dX13_isSo_44 (by decide) (fun c_44 => ?_) (fun c_44 => absurd c_44 (by decide))
  refine lv_aload_n hx hb dX13_isSo_62 rfl (lv_at hl 4 rfl) ?_
  refine q_get hx hb hts hown hA hW iX13 h0 rfl 3 (by decide) (hts (.fieldLink RX13 7 "HighRecipesLaw$Act" "signs" "[I") (by decide +kernel)) (fun _ h9 => h9) (v := .ref sg) rfl dX13_isSo_63 ?_
  refine lv_iload_n hx hb dX13_isSo_66 rfl (lv_at hl 2 rfl) ?_
  refine q_iald hx hb hA hW h1 (vp_in_nI (n := 0) (by decide) (by decide)) dX13_isSo_67 ?_
  rw [show gs (0 : Int32).toNatClampNeg = 2 from hgs0]
  refine lv_iconst (v := 1) hx hb dX13_isSo_68 (by decide) ?_
  refine lv_icmp_ne (tgt := 87) hx hb dX13_isSo_69 (by decide) (fun c_69 => ?_) (fun c_69 => absurd c_69 (by decide))
  refine lv_iload hx hb dX13_isSo_87 (lv_at hl 1 rfl) ?_
  refine lv_iload hx hb dX13_isSo_89 (lv_at hl 0 rfl) ?_
  refine lv_icmp_ne (tgt := 98) hx hb dX13_isSo_91 (by decide) (fun c_91 => ?_) (fun c_91 => ?_)
  · refine lv_iconst (v := 0) hx hb dX13_isSo_98 (by decide) ?_
    refine lv_iand hx hb dX13_isSo_99 ?_
    rw [show (1 : Int32) &&& 0 = w01 (c_cmp 32 (D0 hd v) (E0 hd v) && true) from w01_and2 rfl (w01_f (by show decide ((D0 hd v) = (E0 hd v)) = _; exact (decide_eq_false c_91)))]
    refine lv_istore_n (lv' := [(2, .int (w01 (c_cmp 32 (D0 hd v) (E0 hd v) && true))), (5, .int (E0 hd v)), (4, .int (D0 hd v)), (3, .int 0), (0, .ref a), (1, .ref k)]) hx hb dX13_isSo_100 rfl hl (by decide) rfl (fun ls hl => ?_)
    refine lv_iinc (v := 1) (lv' := [(3, .int 1), (2, .int (w01 (c_cmp 32 (D0 hd v) (E0 hd v) && true))), (5, .int (E0 hd v)), (4, .int (D0 hd v)), (0, .ref a), (1, .ref k)]) hx hb dX13_isSo_101 hl (k := 3) rfl (by decide) (by decide) rfl (fun ls hl => ?_)
    refine lv_goto (tgt := 4) hx hb dX13_isSo_104 (by decide) ?_
    refine lv_iload_n hx hb dX13_isSo_4 rfl (lv_at hl 0 rfl) ?_
    refine lv_aload_n hx hb dX13_isSo_5 rfl (lv_at hl 4 rfl) ?_
    refine q_get hx hb hts hown hA hW iX13 h0 rfl 3 (by decide) (hts (.fieldLink RX13 7 "HighRecipesLaw$Act" "signs" "[I") (by decide +kernel)) (fun _ h9 => h9) (v := .ref sg) rfl dX13_isSo_6 ?_
    refine q_alen hx hb hA hW 0 rfl h1 (v := 2) rfl dX13_isSo_9 ?_
    refine lv_icmp_ge (tgt := 107) hx hb dX13_isSo_10 (by decide) (fun c_10 => absurd c_10 (by decide)) (fun c_10 => ?_)
    refine lv_aload_n hx hb dX13_isSo_13 rfl (lv_at hl 4 rfl) ?_
    refine q_get hx hb hts hown hA hW iX13 h0 rfl 4 (by decide) (hts (.fieldLink RX13 15 "HighRecipesLaw$Act" "ones" "[LHighRecipesLaw$Node;") (by decide +kernel)) (fun _ h9 => h9) (v := .ref on) rfl dX13_isSo_14 ?_
    refine lv_iload_n hx hb dX13_isSo_17 rfl (lv_at hl 0 rfl) ?_
    refine q_aald hx hb hA hW 7 rfl h2 (vp_in_nI (n := 1) (by decide) (by decide)) dX13_isSo_18 ?_
    rw [show go (1 : Int32).toNatClampNeg = some a1 from hgo1]
    refine lv_aload_n hx hb dX13_isSo_19 rfl (lv_at hl 5 rfl) ?_
    refine q_ci (va_runV (As := [.ref k]) (rest := []) ⟨hx, hb, hml, hown, hts⟩ (kX16_value_0 l E f n k pa re ki wa no pn pr hd v b w a1 P D1 W1 hM1 hpn hK) (cwV 1 hts gX13_isSo_X16_value rfl rfl rfl (by decide +kernel) ⟨(Nat.le_of_ble_eq_true rfl), (Nat.le_of_ble_eq_true rfl)⟩) (q_pV hA hW hS (ci := 16) rfl hca1) rfl rfl hl.1 rfl (lv_room (Nat.le_of_ble_eq_true rfl)) dX13_isSo_20 ⟨(Nat.le_of_ble_eq_true rfl), (Nat.le_of_ble_eq_true rfl)⟩) hS (fun r_20x1 f_20x1 n_20x1 H locs hp hW hS => ?_)
    obtain ⟨rfl, rfl, rfl⟩ := hp
    have hW : q_W E (f) n H := hW
    refine lv_istore (lv' := [(4, .int (D1 hd v)), (3, .int 1), (2, .int (w01 (c_cmp 32 (D0 hd v) (E0 hd v) && true))), (5, .int (E0 hd v)), (0, .ref a), (1, .ref k)]) hx hb dX13_isSo_23 hl (by decide) rfl (fun ls hl => ?_)
    refine lv_aload_n hx hb dX13_isSo_25 rfl (lv_at hl 4 rfl) ?_
    refine q_get hx hb hts hown hA hW iX13 h0 rfl 5 (by decide) (hts (.fieldLink RX13 19 "HighRecipesLaw$Act" "others" "[LHighRecipesLaw$Node;") (by decide +kernel)) (fun _ h9 => h9) (v := .ref ot) rfl dX13_isSo_26 ?_
    refine lv_iload_n hx hb dX13_isSo_29 rfl (lv_at hl 1 rfl) ?_
    refine q_aald hx hb hA hW 7 rfl h3 (vp_in_nI (n := 1) (by decide) (by decide)) dX13_isSo_30 ?_
    rw [show gt (1 : Int32).toNatClampNeg = some c1 from hgt1]
    refine lv_aload_n hx hb dX13_isSo_31 rfl (lv_at hl 5 rfl) ?_
    refine q_ci (va_runV (As := [.ref k]) (rest := []) ⟨hx, hb, hml, hown, hts⟩ (kX16_value_0 l E f n k pa re ki wa no pn pr hd v b w c1 P E1 Y1 hQ1 hpn hK) (cwV 1 hts gX13_isSo_X16_value rfl rfl rfl (by decide +kernel) ⟨(Nat.le_of_ble_eq_true rfl), (Nat.le_of_ble_eq_true rfl)⟩) (q_pV hA hW hS (ci := 16) rfl hcc1) rfl rfl hl.1 rfl (lv_room (Nat.le_of_ble_eq_true rfl)) dX13_isSo_32 ⟨(Nat.le_of_ble_eq_true rfl), (Nat.le_of_ble_eq_true rfl)⟩) hS (fun r_32x1 f_32x1 n_32x1 H locs hp hW hS => ?_)
    obtain ⟨rfl, rfl, rfl⟩ := hp
    have hW : q_W E (f) n H := hW
    refine lv_istore (lv' := [(5, .int (E1 hd v)), (4, .int (D1 hd v)), (3, .int 1), (2, .int (w01 (c_cmp 32 (D0 hd v) (E0 hd v) && true))), (0, .ref a), (1, .ref k)]) hx hb dX13_isSo_35 hl (by decide) rfl (fun ls hl => ?_)
    refine lv_iload_n hx hb dX13_isSo_37 rfl (lv_at hl 3 rfl) ?_
    refine lv_aload_n hx hb dX13_isSo_38 rfl (lv_at hl 4 rfl) ?_
    refine q_get hx hb hts hown hA hW iX13 h0 rfl 3 (by decide) (hts (.fieldLink RX13 7 "HighRecipesLaw$Act" "signs" "[I") (by decide +kernel)) (fun _ h9 => h9) (v := .ref sg) rfl dX13_isSo_39 ?_
    refine lv_iload_n hx hb dX13_isSo_42 rfl (lv_at hl 2 rfl) ?_
    refine q_iald hx hb hA hW h1 (vp_in_nI (n := 1) (by decide) (by decide)) dX13_isSo_43 ?_
    rw [show gs (1 : Int32).toNatClampNeg = 1 from hgs1]
    refine lv_if_ne (tgt := 62) hx hb dX13_isSo_44 (by decide) (fun c_44 => ?_) (fun c_44 => absurd c_44 (by decide))
    refine lv_aload_n hx hb dX13_isSo_62 rfl (lv_at hl 4 rfl) ?_
    refine q_get hx hb hts hown hA hW iX13 h0 rfl 3 (by decide) (hts (.fieldLink RX13 7 "HighRecipesLaw$Act" "signs" "[I") (by decide +kernel)) (fun _ h9 => h9) (v := .ref sg) rfl dX13_isSo_63 ?_
    refine lv_iload_n hx hb dX13_isSo_66 rfl (lv_at hl 2 rfl) ?_
    refine q_iald hx hb hA hW h1 (vp_in_nI (n := 1) (by decide) (by decide)) dX13_isSo_67 ?_
    rw [show gs (1 : Int32).toNatClampNeg = 1 from hgs1]
    refine lv_iconst (v := 1) hx hb dX13_isSo_68 (by decide) ?_
    refine lv_icmp_ne (tgt := 87) hx hb dX13_isSo_69 (by decide) (fun c_69 => absurd c_69 (by decide)) (fun c_69 => ?_)
    refine lv_iload hx hb dX13_isSo_72 (lv_at hl 1 rfl) ?_
    refine lv_iload hx hb dX13_isSo_74 (lv_at hl 0 rfl) ?_
    refine lv_icmp_le (tgt := 83) hx hb dX13_isSo_76 (by decide) (fun c_76 => ?_) (fun c_76 => ?_)
    · refine lv_iconst (v := 0) hx hb dX13_isSo_83 (by decide) ?_
      refine lv_goto (tgt := 99) hx hb dX13_isSo_84 (by decide) ?_
      refine lv_iand hx hb dX13_isSo_99 ?_
      rw [show (w01 (c_cmp 32 (D0 hd v) (E0 hd v) && true) : Int32) &&& 0 = w01 (c_cmp 31 (D1 hd v) (E1 hd v) && (c_cmp 32 (D0 hd v) (E0 hd v) && true)) from w01_and2 rfl (w01_f (by show decide ((E1 hd v) < (D1 hd v)) = _; exact (decide_eq_false (Int32.not_lt.mpr c_76))))]
      refine lv_istore_n (lv' := [(2, .int (w01 (c_cmp 31 (D1 hd v) (E1 hd v) && (c_cmp 32 (D0 hd v) (E0 hd v) && true)))), (5, .int (E1 hd v)), (4, .int (D1 hd v)), (3, .int 1), (0, .ref a), (1, .ref k)]) hx hb dX13_isSo_100 rfl hl (by decide) rfl (fun ls hl => ?_)
      refine lv_iinc (v := 2) (lv' := [(3, .int 2), (2, .int (w01 (c_cmp 31 (D1 hd v) (E1 hd v) && (c_cmp 32 (D0 hd v) (E0 hd v) && true)))), (5, .int (E1 hd v)), (4, .int (D1 hd v)), (0, .ref a), (1, .ref k)]) hx hb dX13_isSo_101 hl (k := 3) rfl (by decide) (by decide) rfl (fun ls hl => ?_)
      refine lv_goto (tgt := 4) hx hb dX13_isSo_104 (by decide) ?_
      refine lv_iload_n hx hb dX13_isSo_4 rfl (lv_at hl 0 rfl) ?_
      refine lv_aload_n hx hb dX13_isSo_5 rfl (lv_at hl 4 rfl) ?_
      refine q_get hx hb hts hown hA hW iX13 h0 rfl 3 (by decide) (hts (.fieldLink RX13 7 "HighRecipesLaw$Act" "signs" "[I") (by decide +kernel)) (fun _ h9 => h9) (v := .ref sg) rfl dX13_isSo_6 ?_
      refine q_alen hx hb hA hW 0 rfl h1 (v := 2) rfl dX13_isSo_9 ?_
      refine lv_icmp_ge (tgt := 107) hx hb dX13_isSo_10 (by decide) (fun c_10 => ?_) (fun c_10 => absurd c_10 (by decide))
      refine lv_iload_n hx hb dX13_isSo_107 rfl (lv_at hl 1 rfl) ?_
      exact q_zret hx hb hr hlocks hW hS (by unfold w01; split <;> rfl) ⟨rfl, rfl, rfl⟩ (Nat.le_of_ble_eq_true rfl) (Nat.le_of_ble_eq_true rfl) dX13_isSo_108
    · refine lv_iconst (v := 1) hx hb dX13_isSo_79 (by decide) ?_
      refine lv_goto (tgt := 99) hx hb dX13_isSo_80 (by decide) ?_
      refine lv_iand hx hb dX13_isSo_99 ?_
      rw [show (w01 (c_cmp 32 (D0 hd v) (E0 hd v) && true) : Int32) &&& 1 = w01 (c_cmp 31 (D1 hd v) (E1 hd v) && (c_cmp 32 (D0 hd v) (E0 hd v) && true)) from w01_and2 rfl (w01_t (by show decide ((E1 hd v) < (D1 hd v)) = _; exact (decide_eq_true (Int32.not_le.mp c_76))))]
      refine lv_istore_n (lv' := [(2, .int (w01 (c_cmp 31 (D1 hd v) (E1 hd v) && (c_cmp 32 (D0 hd v) (E0 hd v) && true)))), (5, .int (E1 hd v)), (4, .int (D1 hd v)), (3, .int 1), (0, .ref a), (1, .ref k)]) hx hb dX13_isSo_100 rfl hl (by decide) rfl (fun ls hl => ?_)
      refine lv_iinc (v := 2) (lv' := [(3, .int 2), (2, .int (w01 (c_cmp 31 (D1 hd v) (E1 hd v) && (c_cmp 32 (D0 hd v) (E0 hd v) && true)))), (5, .int (E1 hd v)), (4, .int (D1 hd v)), (0, .ref a), (1, .ref k)]) hx hb dX13_isSo_101 hl (k := 3) rfl (by decide) (by decide) rfl (fun ls hl => ?_)
      refine lv_goto (tgt := 4) hx hb dX13_isSo_104 (by decide) ?_
      refine lv_iload_n hx hb dX13_isSo_4 rfl (lv_at hl 0 rfl) ?_
      refine lv_aload_n hx hb dX13_isSo_5 rfl (lv_at hl 4 rfl) ?_
      refine q_get hx hb hts hown hA hW iX13 h0 rfl 3 (by decide) (hts (.fieldLink RX13 7 "HighRecipesLaw$Act" "signs" "[I") (by decide +kernel)) (fun _ h9 => h9) (v := .ref sg) rfl dX13_isSo_6 ?_
      refine q_alen hx hb hA hW 0 rfl h1 (v := 2) rfl dX13_isSo_9 ?_
      refine lv_icmp_ge (tgt := 107) hx hb dX13_isSo_10 (by decide) (fun c_10 => ?_) (fun c_10 => absurd c_10 (by decide))
      refine lv_iload_n hx hb dX13_isSo_107 rfl (lv_at hl 1 rfl) ?_
      exact q_zret hx hb hr hlocks hW hS (by unfold w01; split <;> rfl) ⟨rfl, rfl, rfl⟩ (Nat.le_of_ble_eq_true rfl) (Nat.le_of_ble_eq_true rfl) dX13_isSo_108
  · refine lv_iconst (v := 1) hx hb dX13_isSo_94 (by decide) ?_
    refine lv_goto (tgt := 99) hx hb dX13_isSo_95 (by decide) ?_
    refine lv_iand hx hb dX13_isSo_99 ?_
    rw [show (1 : Int32) &&& 1 = w01 (c_cmp 32 (D0 hd v) (E0 hd v) && true) from w01_and2 rfl (w01_t (by show decide ((D0 hd v) = (E0 hd v)) = _; exact (decide_eq_true c_91)))]
    refine lv_istore_n (lv' := [(2, .int (w01 (c_cmp 32 (D0 hd v) (E0 hd v) && true))), (5, .int (E0 hd v)), (4, .int (D0 hd v)), (3, .int 0), (0, .ref a), (1, .ref k)]) hx hb dX13_isSo_100 rfl hl (by decide) rfl (fun ls hl => ?_)
    refine lv_iinc (v := 1) (lv' := [(3, .int 1), (2, .int (w01 (c_cmp 32 (D0 hd v) (E0 hd v) && true))), (5, .int (E0 hd v)), (4, .int (D0 hd v)), (0, .ref a), (1, .ref k)]) hx hb dX13_isSo_101 hl (k := 3) rfl (by decide) (by decide) rfl (fun ls hl => ?_)
    refine lv_goto (tgt := 4) hx hb dX13_isSo_104 (by decide) ?_
    refine lv_iload_n hx hb dX13_isSo_4 rfl (lv_at hl 0 rfl) ?_
    refine lv_aload_n hx hb dX13_isSo_5 rfl (lv_at hl 4 rfl) ?_
    refine q_get hx hb hts hown hA hW iX13 h0 rfl 3 (by decide) (hts (.fieldLink RX13 7 "HighRecipesLaw$Act" "signs" "[I") (by decide +kernel)) (fun _ h9 => h9) (v := .ref sg) rfl dX13_isSo_6 ?_
    refine q_alen hx hb hA hW 0 rfl h1 (v := 2) rfl dX13_isSo_9 ?_
    refine lv_icmp_ge (tgt := 107) hx hb dX13_isSo_10 (by decide) (fun c_10 => absurd c_10 (by decide)) (fun c_10 => ?_)
    refine lv_aload_n hx hb dX13_isSo_13 rfl (lv_at hl 4 rfl) ?_
    refine q_get hx hb hts hown hA hW iX13 h0 rfl 4 (by decide) (hts (.fieldLink RX13 15 "HighRecipesLaw$Act" "ones" "[LHighRecipesLaw$Node;") (by decide +kernel)) (fun _ h9 => h9) (v := .ref on) rfl dX13_isSo_14 ?_
    refine lv_iload_n hx hb dX13_isSo_17 rfl (lv_at hl 0 rfl) ?_
    refine q_aald hx hb hA hW 7 rfl h2 (vp_in_nI (n := 1) (by decide) (by decide)) dX13_isSo_18 ?_
    rw [show go (1 : Int32).toNatClampNeg = some a1 from hgo1]
    refine lv_aload_n hx hb dX13_isSo_19 rfl (lv_at hl 5 rfl) ?_
    refine q_ci (va_runV (As := [.ref k]) (rest := []) ⟨hx, hb, hml, hown, hts⟩ (kX16_value_0 l E f n k pa re ki wa no pn pr hd v b w a1 P D1 W1 hM1 hpn hK) (cwV 1 hts gX13_isSo_X16_value rfl rfl rfl (by decide +kernel) ⟨(Nat.le_of_ble_eq_true rfl), (Nat.le_of_ble_eq_true rfl)⟩) (q_pV hA hW hS (ci := 16) rfl hca1) rfl rfl hl.1 rfl (lv_room (Nat.le_of_ble_eq_true rfl)) dX13_isSo_20 ⟨(Nat.le_of_ble_eq_true rfl), (Nat.le_of_ble_eq_true rfl)⟩) hS (fun r_20x1 f_20x1 n_20x1 H locs hp hW hS => ?_)
    obtain ⟨rfl, rfl, rfl⟩ := hp
    have hW : q_W E (f) n H := hW
    refine lv_istore (lv' := [(4, .int (D1 hd v)), (3, .int 1), (2, .int (w01 (c_cmp 32 (D0 hd v) (E0 hd v) && true))), (5, .int (E0 hd v)), (0, .ref a), (1, .ref k)]) hx hb dX13_isSo_23 hl (by decide) rfl (fun ls hl => ?_)
    refine lv_aload_n hx hb dX13_isSo_25 rfl (lv_at hl 4 rfl) ?_
    refine q_get hx hb hts hown hA hW iX13 h0 rfl 5 (by decide) (hts (.fieldLink RX13 19 "HighRecipesLaw$Act" "others" "[LHighRecipesLaw$Node;") (by decide +kernel)) (fun _ h9 => h9) (v := .ref ot) rfl dX13_isSo_26 ?_
    refine lv_iload_n hx hb dX13_isSo_29 rfl (lv_at hl 1 rfl) ?_
    refine q_aald hx hb hA hW 7 rfl h3 (vp_in_nI (n := 1) (by decide) (by decide)) dX13_isSo_30 ?_
    rw [show gt (1 : Int32).toNatClampNeg = some c1 from hgt1]
    refine lv_aload_n hx hb dX13_isSo_31 rfl (lv_at hl 5 rfl) ?_
    refine q_ci (va_runV (As := [.ref k]) (rest := []) ⟨hx, hb, hml, hown, hts⟩ (kX16_value_0 l E f n k pa re ki wa no pn pr hd v b w c1 P E1 Y1 hQ1 hpn hK) (cwV 1 hts gX13_isSo_X16_value rfl rfl rfl (by decide +kernel) ⟨(Nat.le_of_ble_eq_true rfl), (Nat.le_of_ble_eq_true rfl)⟩) (q_pV hA hW hS (ci := 16) rfl hcc1) rfl rfl hl.1 rfl (lv_room (Nat.le_of_ble_eq_true rfl)) dX13_isSo_32 ⟨(Nat.le_of_ble_eq_true rfl), (Nat.le_of_ble_eq_true rfl)⟩) hS (fun r_32x1 f_32x1 n_32x1 H locs hp hW hS => ?_)
    obtain ⟨rfl, rfl, rfl⟩ := hp
    have hW : q_W E (f) n H := hW
    refine lv_istore (lv' := [(5, .int (E1 hd v)), (4, .int (D1 hd v)), (3, .int 1), (2, .int (w01 (c_cmp 32 (D0 hd v) (E0 hd v) && true))), (0, .ref a), (1, .ref k)]) hx hb dX13_isSo_35 hl (by decide) rfl (fun ls hl => ?_)
    refine lv_iload_n hx hb dX13_isSo_37 rfl (lv_at hl 3 rfl) ?_
    refine lv_aload_n hx hb dX13_isSo_38 rfl (lv_at hl 4 rfl) ?_
    refine q_get hx hb hts hown hA hW iX13 h0 rfl 3 (by decide) (hts (.fieldLink RX13 7 "HighRecipesLaw$Act" "signs" "[I") (by decide +kernel)) (fun _ h9 => h9) (v := .ref sg) rfl dX13_isSo_39 ?_
    refine lv_iload_n hx hb dX13_isSo_42 rfl (lv_at hl 2 rfl) ?_
    refine q_iald hx hb hA hW h1 (vp_in_nI (n := 1) (by decide) (by decide)) dX13_isSo_43 ?_
    rw [show gs (1 : Int32).toNatClampNeg = 1 from hgs1]
    refine lv_if_ne (tgt := 62) hx hb dX13_isSo_44 (by decide) (fun c_44 => ?_) (fun c_44 => absurd c_44 (by decide))
    refine lv_aload_n hx hb dX13_isSo_62 rfl (lv_at hl 4 rfl) ?_
    refine q_get hx hb hts hown hA hW iX13 h0 rfl 3 (by decide) (hts (.fieldLink RX13 7 "HighRecipesLaw$Act" "signs" "[I") (by decide +kernel)) (fun _ h9 => h9) (v := .ref sg) rfl dX13_isSo_63 ?_
    refine lv_iload_n hx hb dX13_isSo_66 rfl (lv_at hl 2 rfl) ?_
    refine q_iald hx hb hA hW h1 (vp_in_nI (n := 1) (by decide) (by decide)) dX13_isSo_67 ?_
    rw [show gs (1 : Int32).toNatClampNeg = 1 from hgs1]
    refine lv_iconst (v := 1) hx hb dX13_isSo_68 (by decide) ?_
    refine lv_icmp_ne (tgt := 87) hx hb dX13_isSo_69 (by decide) (fun c_69 => absurd c_69 (by decide)) (fun c_69 => ?_)
    refine lv_iload hx hb dX13_isSo_72 (lv_at hl 1 rfl) ?_
    refine lv_iload hx hb dX13_isSo_74 (lv_at hl 0 rfl) ?_
    refine lv_icmp_le (tgt := 83) hx hb dX13_isSo_76 (by decide) (fun c_76 => ?_) (fun c_76 => ?_)
    · refine lv_iconst (v := 0) hx hb dX13_isSo_83 (by decide) ?_
      refine lv_goto (tgt := 99) hx hb dX13_isSo_84 (by decide) ?_
      refine lv_iand hx hb dX13_isSo_99 ?_
      rw [show (w01 (c_cmp 32 (D0 hd v) (E0 hd v) && true) : Int32) &&& 0 = w01 (c_cmp 31 (D1 hd v) (E1 hd v) && (c_cmp 32 (D0 hd v) (E0 hd v) && true)) from w01_and2 rfl (w01_f (by show decide ((E1 hd v) < (D1 hd v)) = _; exact (decide_eq_false (Int32.not_lt.mpr c_76))))]
      refine lv_istore_n (lv' := [(2, .int (w01 (c_cmp 31 (D1 hd v) (E1 hd v) && (c_cmp 32 (D0 hd v) (E0 hd v) && true)))), (5, .int (E1 hd v)), (4, .int (D1 hd v)), (3, .int 1), (0, .ref a), (1, .ref k)]) hx hb dX13_isSo_100 rfl hl (by decide) rfl (fun ls hl => ?_)
      refine lv_iinc (v := 2) (lv' := [(3, .int 2), (2, .int (w01 (c_cmp 31 (D1 hd v) (E1 hd v) && (c_cmp 32 (D0 hd v) (E0 hd v) && true)))), (5, .int (E1 hd v)), (4, .int (D1 hd v)), (0, .ref a), (1, .ref k)]) hx hb dX13_isSo_101 hl (k := 3) rfl (by decide) (by decide) rfl (fun ls hl => ?_)
      refine lv_goto (tgt := 4) hx hb dX13_isSo_104 (by decide) ?_
      refine lv_iload_n hx hb dX13_isSo_4 rfl (lv_at hl 0 rfl) ?_
      refine lv_aload_n hx hb dX13_isSo_5 rfl (lv_at hl 4 rfl) ?_
      refine q_get hx hb hts hown hA hW iX13 h0 rfl 3 (by decide) (hts (.fieldLink RX13 7 "HighRecipesLaw$Act" "signs" "[I") (by decide +kernel)) (fun _ h9 => h9) (v := .ref sg) rfl dX13_isSo_6 ?_
      refine q_alen hx hb hA hW 0 rfl h1 (v := 2) rfl dX13_isSo_9 ?_
      refine lv_icmp_ge (tgt := 107) hx hb dX13_isSo_10 (by decide) (fun c_10 => ?_) (fun c_10 => absurd c_10 (by decide))
      refine lv_iload_n hx hb dX13_isSo_107 rfl (lv_at hl 1 rfl) ?_
      exact q_zret hx hb hr hlocks hW hS (by unfold w01; split <;> rfl) ⟨rfl, rfl, rfl⟩ (Nat.le_of_ble_eq_true rfl) (Nat.le_of_ble_eq_true rfl) dX13_isSo_108
    · refine lv_iconst (v := 1) hx hb dX13_isSo_79 (by decide) ?_
      refine lv_goto (tgt := 99) hx hb dX13_isSo_80 (by decide) ?_
      refine lv_iand hx hb dX13_isSo_99 ?_
      rw [show (w01 (c_cmp 32 (D0 hd v) (E0 hd v) && true) : Int32) &&& 1 = w01 (c_cmp 31 (D1 hd v) (E1 hd v) && (c_cmp 32 (D0 hd v) (E0 hd v) && true)) from w01_and2 rfl (w01_t (by show decide ((E1 hd v) < (D1 hd v)) = _; exact (decide_eq_true (Int32.not_le.mp c_76))))]
      refine lv_istore_n (lv' := [(2, .int (w01 (c_cmp 31 (D1 hd v) (E1 hd v) && (c_cmp 32 (D0 hd v) (E0 hd v) && true)))), (5, .int (E1 hd v)), (4, .int (D1 hd v)), (3, .int 1), (0, .ref a), (1, .ref k)]) hx hb dX13_isSo_100 rfl hl (by decide) rfl (fun ls hl => ?_)
      refine lv_iinc (v := 2) (lv' := [(3, .int 2), (2, .int (w01 (c_cmp 31 (D1 hd v) (E1 hd v) && (c_cmp 32 (D0 hd v) (E0 hd v) && true)))), (5, .int (E1 hd v)), (4, .int (D1 hd v)), (0, .ref a), (1, .ref k)]) hx hb dX13_isSo_101 hl (k := 3) rfl (by decide) (by decide) rfl (fun ls hl => ?_)
      refine lv_goto (tgt := 4) hx hb dX13_isSo_104 (by decide) ?_
      refine lv_iload_n hx hb dX13_isSo_4 rfl (lv_at hl 0 rfl) ?_
      refine lv_aload_n hx hb dX13_isSo_5 rfl (lv_at hl 4 rfl) ?_
      refine q_get hx hb hts hown hA hW iX13 h0 rfl 3 (by decide) (hts (.fieldLink RX13 7 "HighRecipesLaw$Act" "signs" "[I") (by decide +kernel)) (fun _ h9 => h9) (v := .ref sg) rfl dX13_isSo_6 ?_
      refine q_alen hx hb hA hW 0 rfl h1 (v := 2) rfl dX13_isSo_9 ?_
      refine lv_icmp_ge (tgt := 107) hx hb dX13_isSo_10 (by decide) (fun c_10 => ?_) (fun c_10 => absurd c_10 (by decide))
      refine lv_iload_n hx hb dX13_isSo_107 rfl (lv_at hl 1 rfl) ?_
      exact q_zret hx hb hr hlocks hW hS (by unfold w01; split <;> rfl) ⟨rfl, rfl, rfl⟩ (Nat.le_of_ble_eq_true rfl) (Nat.le_of_ble_eq_true rfl) dX13_isSo_108

set_option maxHeartbeats 4000000 in
set_option maxRecDepth 100000 in
theorem kX13_isSo_22 (l : Launch) (E : q_E) (f : q_H) (n : Nat) (k pa re ki wa no pn : Nat) (pr : Nat → Nat) (hd v : q_V) (b : Nat) (w : Int32) (a sg on ot : Nat) (a0 c0 : Nat) (D0 E0 : q_D) (W0 Y0 : List Int32) (a1 c1 : Nat) (D1 E1 : q_D) (W1 Y1 : List Int32) (do_ wh : Int32) (va bl el : Option Nat) (P : Nat → Prop) (gs : Nat → Int32) (go gt : Nat → Option Nat) (h0 : f a = some (cLA do_ wh va (some sg) (some on) (some ot) bl el)) (h1 : f sg = some (aI E 2 gs)) (h2 : f on = some (aQ E 7 2 go)) (h3 : f ot = some (aQ E 7 2 gt)) (hgs0 : gs 0 = 2) (hgo0 : go 0 = some a0) (hgt0 : gt 0 = some c0) (hM0 : NODE pn P f 0 a0 D0 W0) (hQ0 : NODE pn P f 0 c0 E0 Y0) (hgs1 : gs 1 = 2) (hgo1 : go 1 = some a1) (hgt1 : gt 1 = some c1) (hM1 : NODE pn P f 0 a1 D1 W1) (hQ1 : NODE pn P f 0 c1 E1 Y1) (hpn : pn ≤ 8) (hK : LK E f k pa re ki wa no pn pr hd v b w) : Met l yX13_isSo wsX13_isSo ({ frames := 6, cells := 0, slots := 0, locals := 300 }) (q_P E [.ref a, .ref k] f n) (q_Qi E (fun r f1 n1 => w01 (c_cmp 32 (D1 hd v) (E1 hd v) && (c_cmp 32 (D0 hd v) (E0 hd v) && true)) = r ∧ f = f1 ∧ n = n1)) 0 0 (q_ge E) := by
  refine Met.ofW (cc := cX13_isSo) (maxL := 6) (ret := (some .boolean)) (by decide) rfl ?_
  intro p0_ e0_ s0_ m0_ args0_ below0_ meth0_ c0_ s1_ B hml hv
  obtain ⟨rfl, hA, hW⟩ := hv
  have hx := B.exec
  have hb := B.bytes
  have hr := B.returns
  have hts := atoms_spec (ws := wsX13_isSo) B.pre
  have hown : s0_.vm.findClass RX13 = some m0_.cls := findClass_of_methodNamed B.named
  have hlocks := B.notSynchronized
  have hS : va_S (q_ge E) s0_.heap s0_.heap [] := va_S.rf
  have iX13 : ∀ w ∈ wsX130, w ∈ wsX13_isSo := by decide +kernel
  have hl := lv_entry ([.ref a, .ref k]) (n := 6) (Nat.le_of_ble_eq_true rfl)
  rw [lg_entry_eq]
  generalize (lg_sl ([.ref a, .ref k]) ++ List.replicate (6 - (lg_sl ([.ref a, .ref k])).length) Slot.unset).toArray = ls at hl ⊢
  have hl : lv_has ls 6 [(0, .ref a), (1, .ref k)] := hl
  obtain ⟨hk0, ⟨gk, hki, hkv⟩, ⟨gw, hwa, hwv⟩, ⟨gn, hno, hnv⟩, ⟨gp, hpa, hpv⟩, hrow⟩ := id hK
  have l_k := hW.lt hk0
  have l_ki := hW.lt hki
  have l_wa := hW.lt hwa
  have l_no := hW.lt hno
  have l_pa := hW.lt hpa
  obtain ⟨-, so0, ka0, xa0, ya0, hca0⟩ := hM0.cell
  obtain ⟨-, sp0, kc0, xc0, yc0, hcc0⟩ := hQ0.cell
  obtain ⟨-, so1, ka1, xa1, ya1, hca1⟩ := hM1.cell
  obtain ⟨-, sp1, kc1, xc1, yc1, hcc1⟩ := hQ1.cell
  refine lv_iconst (v := 1) hx hb dX13_isSo_0 (by decide) ?_
  refine lv_istore_n (lv' := [(2, .int 1), (0, .ref a), (1, .ref k)]) hx hb dX13_isSo_1 rfl hl (by decide) rfl (fun ls hl => ?_)
  refine lv_iconst (v := 0) hx hb dX13_isSo_2 (by decide) ?_
  refine lv_istore_n (lv' := [(3, .int 0), (2, .int 1), (0, .ref a), (1, .ref k)]) hx hb dX13_isSo_3 rfl hl (by decide) rfl (fun ls hl => ?_)
  refine lv_iload_n hx hb dX13_isSo_4 rfl (lv_at hl 0 rfl) ?_
  refine lv_aload_n hx hb dX13_isSo_5 rfl (lv_at hl 2 rfl) ?_
  refine q_get hx hb hts hown hA hW iX13 h0 rfl 3 (by decide) (hts (.fieldLink RX13 7 "HighRecipesLaw$Act" "signs" "[I") (by decide +kernel)) (fun _ h9 => h9) (v := .ref sg) rfl dX13_isSo_6 ?_
  refine q_alen hx hb hA hW 0 rfl h1 (v := 2) rfl dX13_isSo_9 ?_
  refine lv_icmp_ge (tgt := 107) hx hb dX13_isSo_10 (by decide) (fun c_10 => absurd c_10 (by decide)) (fun c_10 => ?_)
  refine lv_aload_n hx hb dX13_isSo_13 rfl (lv_at hl 2 rfl) ?_
  refine q_get hx hb hts hown hA hW iX13 h0 rfl 4 (by decide) (hts (.fieldLink RX13 15 "HighRecipesLaw$Act" "ones" "[LHighRecipesLaw$Node;") (by decide +kernel)) (fun _ h9 => h9) (v := .ref on) rfl dX13_isSo_14 ?_
  refine lv_iload_n hx hb dX13_isSo_17 rfl (lv_at hl 0 rfl) ?_
  refine q_aald hx hb hA hW 7 rfl h2 (vp_in_nI (n := 0) (by decide) (by decide)) dX13_isSo_18 ?_
  rw [show go (0 : Int32).toNatClampNeg = some a0 from hgo0]
  refine lv_aload_n hx hb dX13_isSo_19 rfl (lv_at hl 3 rfl) ?_
  refine q_ci (va_runV (As := [.ref k]) (rest := []) ⟨hx, hb, hml, hown, hts⟩ (kX16_value_0 l E f n k pa re ki wa no pn pr hd v b w a0 P D0 W0 hM0 hpn hK) (cwV 1 hts gX13_isSo_X16_value rfl rfl rfl (by decide +kernel) ⟨(Nat.le_of_ble_eq_true rfl), (Nat.le_of_ble_eq_true rfl)⟩) (q_pV hA hW hS (ci := 16) rfl hca0) rfl rfl hl.1 rfl (lv_room (Nat.le_of_ble_eq_true rfl)) dX13_isSo_20 ⟨(Nat.le_of_ble_eq_true rfl), (Nat.le_of_ble_eq_true rfl)⟩) hS (fun r_20 f_20 n_20 H locs hp hW hS => ?_)
  obtain ⟨rfl, rfl, rfl⟩ := hp
  have hW : q_W E (f) n H := hW
  refine lv_istore (lv' := [(4, .int (D0 hd v)), (3, .int 0), (2, .int 1), (0, .ref a), (1, .ref k)]) hx hb dX13_isSo_23 hl (by decide) rfl (fun ls hl => ?_)
  refine lv_aload_n hx hb dX13_isSo_25 rfl (lv_at hl 3 rfl) ?_
  refine q_get hx hb hts hown hA hW iX13 h0 rfl 5 (by decide) (hts (.fieldLink RX13 19 "HighRecipesLaw$Act" "others" "[LHighRecipesLaw$Node;") (by decide +kernel)) (fun _ h9 => h9) (v := .ref ot) rfl dX13_isSo_26 ?_
  refine lv_iload_n hx hb dX13_isSo_29 rfl (lv_at hl 1 rfl) ?_
  refine q_aald hx hb hA hW 7 rfl h3 (vp_in_nI (n := 0) (by decide) (by decide)) dX13_isSo_30 ?_
  rw [show gt (0 : Int32).toNatClampNeg = some c0 from hgt0]
  refine lv_aload_n hx hb dX13_isSo_31 rfl (lv_at hl 4 rfl) ?_
  refine q_ci (va_runV (As := [.ref k]) (rest := []) ⟨hx, hb, hml, hown, hts⟩ (kX16_value_0 l E f n k pa re ki wa no pn pr hd v b w c0 P E0 Y0 hQ0 hpn hK) (cwV 1 hts gX13_isSo_X16_value rfl rfl rfl (by decide +kernel) ⟨(Nat.le_of_ble_eq_true rfl), (Nat.le_of_ble_eq_true rfl)⟩) (q_pV hA hW hS (ci := 16) rfl hcc0) rfl rfl hl.1 rfl (lv_room (Nat.le_of_ble_eq_true rfl)) dX13_isSo_32 ⟨(Nat.le_of_ble_eq_true rfl), (Nat.le_of_ble_eq_true rfl)⟩) hS (fun r_32 f_32 n_32 H locs hp hW hS => ?_)
  obtain ⟨rfl, rfl, rfl⟩ := hp
  have hW : q_W E (f) n H := hW
  refine lv_istore (lv' := [(5, .int (E0 hd v)), (4, .int (D0 hd v)), (3, .int 0), (2, .int 1), (0, .ref a), (1, .ref k)]) hx hb dX13_isSo_35 hl (by decide) rfl (fun ls hl => ?_)
  refine lv_iload_n hx hb dX13_isSo_37 rfl (lv_at hl 3 rfl) ?_
  refine lv_aload_n hx hb dX13_isSo_38 rfl (lv_at hl 4 rfl) ?_
  refine q_get hx hb hts hown hA hW iX13 h0 rfl 3 (by decide) (hts (.fieldLink RX13 7 "HighRecipesLaw$Act" "signs" "[I") (by decide +kernel)) (fun _ h9 => h9) (v := .ref sg) rfl dX13_isSo_39 ?_
  refine lv_iload_n hx hb dX13_isSo_42 rfl (lv_at hl 2 rfl) ?_
  refine q_iald hx hb hA hW h1 (vp_in_nI (n := 0) (by decide) (by decide)) dX13_isSo_43 ?_
  rw [show gs (0 : Int32).toNatClampNeg = 2 from hgs0]
  refine lv_if_ne (tgt := 62) hx hb dX13_isSo_44 (by decide) (fun c_44 => ?_) (fun c_44 => absurd c_44 (by decide))
  refine lv_aload_n hx hb dX13_isSo_62 rfl (lv_at hl 4 rfl) ?_
  refine q_get hx hb hts hown hA hW iX13 h0 rfl 3 (by decide) (hts (.fieldLink RX13 7 "HighRecipesLaw$Act" "signs" "[I") (by decide +kernel)) (fun _ h9 => h9) (v := .ref sg) rfl dX13_isSo_63 ?_
  refine lv_iload_n hx hb dX13_isSo_66 rfl (lv_at hl 2 rfl) ?_
  refine q_iald hx hb hA hW h1 (vp_in_nI (n := 0) (by decide) (by decide)) dX13_isSo_67 ?_
  rw [show gs (0 : Int32).toNatClampNeg = 2 from hgs0]
  refine lv_iconst (v := 1) hx hb dX13_isSo_68 (by decide) ?_
  refine lv_icmp_ne (tgt := 87) hx hb dX13_isSo_69 (by decide) (fun c_69 => ?_) (fun c_69 => absurd c_69 (by decide))
  refine lv_iload hx hb dX13_isSo_87 (lv_at hl 1 rfl) ?_
  refine lv_iload hx hb dX13_isSo_89 (lv_at hl 0 rfl) ?_
  refine lv_icmp_ne (tgt := 98) hx hb dX13_isSo_91 (by decide) (fun c_91 => ?_) (fun c_91 => ?_)
  · refine lv_iconst (v := 0) hx hb dX13_isSo_98 (by decide) ?_
    refine lv_iand hx hb dX13_isSo_99 ?_
    rw [show (1 : Int32) &&& 0 = w01 (c_cmp 32 (D0 hd v) (E0 hd v) && true) from w01_and2 rfl (w01_f (by show decide ((D0 hd v) = (E0 hd v)) = _; exact (decide_eq_false c_91)))]
    refine lv_istore_n (lv' := [(2, .int (w01 (c_cmp 32 (D0 hd v) (E0 hd v) && true))), (5, .int (E0 hd v)), (4, .int (D0 hd v)), (3, .int 0), (0, .ref a), (1, .ref k)]) hx hb dX13_isSo_100 rfl hl (by decide) rfl (fun ls hl => ?_)
    refine lv_iinc (v := 1) (lv' := [(3, .int 1), (2, .int (w01 (c_cmp 32 (D0 hd v) (E0 hd v) && true))), (5, .int (E0 hd v)), (4, .int (D0 hd v)), (0, .ref a), (1, .ref k)]) hx hb dX13_isSo_101 hl (k := 3) rfl (by decide) (by decide) rfl (fun ls hl => ?_)
    refine lv_goto (tgt := 4) hx hb dX13_isSo_104 (by decide) ?_
    refine lv_iload_n hx hb dX13_isSo_4 rfl (lv_at hl 0 rfl) ?_
    refine lv_aload_n hx hb dX13_isSo_5 rfl (lv_at hl 4 rfl) ?_
    refine q_get hx hb hts hown hA hW iX13 h0 rfl 3 (by decide) (hts (.fieldLink RX13 7 "HighRecipesLaw$Act" "signs" "[I") (by decide +kernel)) (fun _ h9 => h9) (v := .ref sg) rfl dX13_isSo_6 ?_
    refine q_alen hx hb hA hW 0 rfl h1 (v := 2) rfl dX13_isSo_9 ?_
    refine lv_icmp_ge (tgt := 107) hx hb dX13_isSo_10 (by decide) (fun c_10 => absurd c_10 (by decide)) (fun c_10 => ?_)
    refine lv_aload_n hx hb dX13_isSo_13 rfl (lv_at hl 4 rfl) ?_
    refine q_get hx hb hts hown hA hW iX13 h0 rfl 4 (by decide) (hts (.fieldLink RX13 15 "HighRecipesLaw$Act" "ones" "[LHighRecipesLaw$Node;") (by decide +kernel)) (fun _ h9 => h9) (v := .ref on) rfl dX13_isSo_14 ?_
    refine lv_iload_n hx hb dX13_isSo_17 rfl (lv_at hl 0 rfl) ?_
    refine q_aald hx hb hA hW 7 rfl h2 (vp_in_nI (n := 1) (by decide) (by decide)) dX13_isSo_18 ?_
    rw [show go (1 : Int32).toNatClampNeg = some a1 from hgo1]
    refine lv_aload_n hx hb dX13_isSo_19 rfl (lv_at hl 5 rfl) ?_
    refine q_ci (va_runV (As := [.ref k]) (rest := []) ⟨hx, hb, hml, hown, hts⟩ (kX16_value_0 l E f n k pa re ki wa no pn pr hd v b w a1 P D1 W1 hM1 hpn hK) (cwV 1 hts gX13_isSo_X16_value rfl rfl rfl (by decide +kernel) ⟨(Nat.le_of_ble_eq_true rfl), (Nat.le_of_ble_eq_true rfl)⟩) (q_pV hA hW hS (ci := 16) rfl hca1) rfl rfl hl.1 rfl (lv_room (Nat.le_of_ble_eq_true rfl)) dX13_isSo_20 ⟨(Nat.le_of_ble_eq_true rfl), (Nat.le_of_ble_eq_true rfl)⟩) hS (fun r_20x1 f_20x1 n_20x1 H locs hp hW hS => ?_)
    obtain ⟨rfl, rfl, rfl⟩ := hp
    have hW : q_W E (f) n H := hW
    refine lv_istore (lv' := [(4, .int (D1 hd v)), (3, .int 1), (2, .int (w01 (c_cmp 32 (D0 hd v) (E0 hd v) && true))), (5, .int (E0 hd v)), (0, .ref a), (1, .ref k)]) hx hb dX13_isSo_23 hl (by decide) rfl (fun ls hl => ?_)
    refine lv_aload_n hx hb dX13_isSo_25 rfl (lv_at hl 4 rfl) ?_
    refine q_get hx hb hts hown hA hW iX13 h0 rfl 5 (by decide) (hts (.fieldLink RX13 19 "HighRecipesLaw$Act" "others" "[LHighRecipesLaw$Node;") (by decide +kernel)) (fun _ h9 => h9) (v := .ref ot) rfl dX13_isSo_26 ?_
    refine lv_iload_n hx hb dX13_isSo_29 rfl (lv_at hl 1 rfl) ?_
    refine q_aald hx hb hA hW 7 rfl h3 (vp_in_nI (n := 1) (by decide) (by decide)) dX13_isSo_30 ?_
    rw [show gt (1 : Int32).toNatClampNeg = some c1 from hgt1]
    refine lv_aload_n hx hb dX13_isSo_31 rfl (lv_at hl 5 rfl) ?_
    refine q_ci (va_runV (As := [.ref k]) (rest := []) ⟨hx, hb, hml, hown, hts⟩ (kX16_value_0 l E f n k pa re ki wa no pn pr hd v b w c1 P E1 Y1 hQ1 hpn hK) (cwV 1 hts gX13_isSo_X16_value rfl rfl rfl (by decide +kernel) ⟨(Nat.le_of_ble_eq_true rfl), (Nat.le_of_ble_eq_true rfl)⟩) (q_pV hA hW hS (ci := 16) rfl hcc1) rfl rfl hl.1 rfl (lv_room (Nat.le_of_ble_eq_true rfl)) dX13_isSo_32 ⟨(Nat.le_of_ble_eq_true rfl), (Nat.le_of_ble_eq_true rfl)⟩) hS (fun r_32x1 f_32x1 n_32x1 H locs hp hW hS => ?_)
    obtain ⟨rfl, rfl, rfl⟩ := hp
    have hW : q_W E (f) n H := hW
    refine lv_istore (lv' := [(5, .int (E1 hd v)), (4, .int (D1 hd v)), (3, .int 1), (2, .int (w01 (c_cmp 32 (D0 hd v) (E0 hd v) && true))), (0, .ref a), (1, .ref k)]) hx hb dX13_isSo_35 hl (by decide) rfl (fun ls hl => ?_)
    refine lv_iload_n hx hb dX13_isSo_37 rfl (lv_at hl 3 rfl) ?_
    refine lv_aload_n hx hb dX13_isSo_38 rfl (lv_at hl 4 rfl) ?_
    refine q_get hx hb hts hown hA hW iX13 h0 rfl 3 (by decide) (hts (.fieldLink RX13 7 "HighRecipesLaw$Act" "signs" "[I") (by decide +kernel)) (fun _ h9 => h9) (v := .ref sg) rfl dX13_isSo_39 ?_
    refine lv_iload_n hx hb dX13_isSo_42 rfl (lv_at hl 2 rfl) ?_
    refine q_iald hx hb hA hW h1 (vp_in_nI (n := 1) (by decide) (by decide)) dX13_isSo_43 ?_
    rw [show gs (1 : Int32).toNatClampNeg = 2 from hgs1]
    refine lv_if_ne (tgt := 62) hx hb dX13_isSo_44 (by decide) (fun c_44 => ?_) (fun c_44 => absurd c_44 (by decide))
    refine lv_aload_n hx hb dX13_isSo_62 rfl (lv_at hl 4 rfl) ?_
    refine q_get hx hb hts hown hA hW iX13 h0 rfl 3 (by decide) (hts (.fieldLink RX13 7 "HighRecipesLaw$Act" "signs" "[I") (by decide +kernel)) (fun _ h9 => h9) (v := .ref sg) rfl dX13_isSo_63 ?_
    refine lv_iload_n hx hb dX13_isSo_66 rfl (lv_at hl 2 rfl) ?_
    refine q_iald hx hb hA hW h1 (vp_in_nI (n := 1) (by decide) (by decide)) dX13_isSo_67 ?_
    rw [show gs (1 : Int32).toNatClampNeg = 2 from hgs1]
    refine lv_iconst (v := 1) hx hb dX13_isSo_68 (by decide) ?_
    refine lv_icmp_ne (tgt := 87) hx hb dX13_isSo_69 (by decide) (fun c_69 => ?_) (fun c_69 => absurd c_69 (by decide))
    refine lv_iload hx hb dX13_isSo_87 (lv_at hl 1 rfl) ?_
    refine lv_iload hx hb dX13_isSo_89 (lv_at hl 0 rfl) ?_
    refine lv_icmp_ne (tgt := 98) hx hb dX13_isSo_91 (by decide) (fun c_91 => ?_) (fun c_91 => ?_)
    · refine lv_iconst (v := 0) hx hb dX13_isSo_98 (by decide) ?_
      refine lv_iand hx hb dX13_isSo_99 ?_
      rw [show (w01 (c_cmp 32 (D0 hd v) (E0 hd v) && true) : Int32) &&& 0 = w01 (c_cmp 32 (D1 hd v) (E1 hd v) && (c_cmp 32 (D0 hd v) (E0 hd v) && true)) from w01_and2 rfl (w01_f (by show decide ((D1 hd v) = (E1 hd v)) = _; exact (decide_eq_false c_91)))]
      refine lv_istore_n (lv' := [(2, .int (w01 (c_cmp 32 (D1 hd v) (E1 hd v) && (c_cmp 32 (D0 hd v) (E0 hd v) && true)))), (5, .int (E1 hd v)), (4, .int (D1 hd v)), (3, .int 1), (0, .ref a), (1, .ref k)]) hx hb dX13_isSo_100 rfl hl (by decide) rfl (fun ls hl => ?_)
      refine lv_iinc (v := 2) (lv' := [(3, .int 2), (2, .int (w01 (c_cmp 32 (D1 hd v) (E1 hd v) && (c_cmp 32 (D0 hd v) (E0 hd v) && true)))), (5, .int (E1 hd v)), (4, .int (D1 hd v)), (0, .ref a), (1, .ref k)]) hx hb dX13_isSo_101 hl (k := 3) rfl (by decide) (by decide) rfl (fun ls hl => ?_)
      refine lv_goto (tgt := 4) hx hb dX13_isSo_104 (by decide) ?_
      refine lv_iload_n hx hb dX13_isSo_4 rfl (lv_at hl 0 rfl) ?_
      refine lv_aload_n hx hb dX13_isSo_5 rfl (lv_at hl 4 rfl) ?_
      refine q_get hx hb hts hown hA hW iX13 h0 rfl 3 (by decide) (hts (.fieldLink RX13 7 "HighRecipesLaw$Act" "signs" "[I") (by decide +kernel)) (fun _ h9 => h9) (v := .ref sg) rfl dX13_isSo_6 ?_
      refine q_alen hx hb hA hW 0 rfl h1 (v := 2) rfl dX13_isSo_9 ?_
      refine lv_icmp_ge (tgt := 107) hx hb dX13_isSo_10 (by decide) (fun c_10 => ?_) (fun c_10 => absurd c_10 (by decide))
      refine lv_iload_n hx hb dX13_isSo_107 rfl (lv_at hl 1 rfl) ?_
      exact q_zret hx hb hr hlocks hW hS (by unfold w01; split <;> rfl) ⟨rfl, rfl, rfl⟩ (Nat.le_of_ble_eq_true rfl) (Nat.le_of_ble_eq_true rfl) dX13_isSo_108
    · refine lv_iconst (v := 1) hx hb dX13_isSo_94 (by decide) ?_
      refine lv_goto (tgt := 99) hx hb dX13_isSo_95 (by decide) ?_
      refine lv_iand hx hb dX13_isSo_99 ?_
      rw [show (w01 (c_cmp 32 (D0 hd v) (E0 hd v) && true) : Int32) &&& 1 = w01 (c_cmp 32 (D1 hd v) (E1 hd v) && (c_cmp 32 (D0 hd v) (E0 hd v) && true)) from w01_and2 rfl (w01_t (by show decide ((D1 hd v) = (E1 hd v)) = _; exact (decide_eq_true c_91)))]
      refine lv_istore_n (lv' := [(2, .int (w01 (c_cmp 32 (D1 hd v) (E1 hd v) && (c_cmp 32 (D0 hd v) (E0 hd v) && true)))), (5, .int (E1 hd v)), (4, .int (D1 hd v)), (3, .int 1), (0, .ref a), (1, .ref k)]) hx hb dX13_isSo_100 rfl hl (by decide) rfl (fun ls hl => ?_)
      refine lv_iinc (v := 2) (lv' := [(3, .int 2), (2, .int (w01 (c_cmp 32 (D1 hd v) (E1 hd v) && (c_cmp 32 (D0 hd v) (E0 hd v) && true)))), (5, .int (E1 hd v)), (4, .int (D1 hd v)), (0, .ref a), (1, .ref k)]) hx hb dX13_isSo_101 hl (k := 3) rfl (by decide) (by decide) rfl (fun ls hl => ?_)
      refine lv_goto (tgt := 4) hx hb dX13_isSo_104 (by decide) ?_
      refine lv_iload_n hx hb dX13_isSo_4 rfl (lv_at hl 0 rfl) ?_
      refine lv_aload_n hx hb dX13_isSo_5 rfl (lv_at hl 4 rfl) ?_
      refine q_get hx hb hts hown hA hW iX13 h0 rfl 3 (by decide) (hts (.fieldLink RX13 7 "HighRecipesLaw$Act" "signs" "[I") (by decide +kernel)) (fun _ h9 => h9) (v := .ref sg) rfl dX13_isSo_6 ?_
      refine q_alen hx hb hA hW 0 rfl h1 (v := 2) rfl dX13_isSo_9 ?_
      refine lv_icmp_ge (tgt := 107) hx hb dX13_isSo_10 (by decide) (fun c_10 => ?_) (fun c_10 => absurd c_10 (by decide))
      refine lv_iload_n hx hb dX13_isSo_107 rfl (lv_at hl 1 rfl) ?_
      exact q_zret hx hb hr hlocks hW hS (by unfold w01; split <;> rfl) ⟨rfl, rfl, rfl⟩ (Nat.le_of_ble_eq_true rfl) (Nat.le_of_ble_eq_true rfl) dX13_isSo_108
  · refine lv_iconst (v := 1) hx hb dX13_isSo_94 (by decide) ?_
    refine lv_goto (tgt := 99) hx hb dX13_isSo_95 (by decide) ?_
    refine lv_iand hx hb dX13_isSo_99 ?_
    rw [show (1 : Int32) &&& 1 = w01 (c_cmp 32 (D0 hd v) (E0 hd v) && true) from w01_and2 rfl (w01_t (by show decide ((D0 hd v) = (E0 hd v)) = _; exact (decide_eq_true c_91)))]
    refine lv_istore_n (lv' := [(2, .int (w01 (c_cmp 32 (D0 hd v) (E0 hd v) && true))), (5, .int (E0 hd v)), (4, .int (D0 hd v)), (3, .int 0), (0, .ref a), (1, .ref k)]) hx hb dX13_isSo_100 rfl hl (by decide) rfl (fun ls hl => ?_)
    refine lv_iinc (v := 1) (lv' := [(3, .int 1), (2, .int (w01 (c_cmp 32 (D0 hd v) (E0 hd v) && true))), (5, .int (E0 hd v)), (4, .int (D0 hd v)), (0, .ref a), (1, .ref k)]) hx hb dX13_isSo_101 hl (k := 3) rfl (by decide) (by decide) rfl (fun ls hl => ?_)
    refine lv_goto (tgt := 4) hx hb dX13_isSo_104 (by decide) ?_
    refine lv_iload_n hx hb dX13_isSo_4 rfl (lv_at hl 0 rfl) ?_
    refine lv_aload_n hx hb dX13_isSo_5 rfl (lv_at hl 4 rfl) ?_
    refine q_get hx hb hts hown hA hW iX13 h0 rfl 3 (by decide) (hts (.fieldLink RX13 7 "HighRecipesLaw$Act" "signs" "[I") (by decide +kernel)) (fun _ h9 => h9) (v := .ref sg) rfl dX13_isSo_6 ?_
    refine q_alen hx hb hA hW 0 rfl h1 (v := 2) rfl dX13_isSo_9 ?_
    refine lv_icmp_ge (tgt := 107) hx hb dX13_isSo_10 (by decide) (fun c_10 => absurd c_10 (by decide)) (fun c_10 => ?_)
    refine lv_aload_n hx hb dX13_isSo_13 rfl (lv_at hl 4 rfl) ?_
    refine q_get hx hb hts hown hA hW iX13 h0 rfl 4 (by decide) (hts (.fieldLink RX13 15 "HighRecipesLaw$Act" "ones" "[LHighRecipesLaw$Node;") (by decide +kernel)) (fun _ h9 => h9) (v := .ref on) rfl dX13_isSo_14 ?_
    refine lv_iload_n hx hb dX13_isSo_17 rfl (lv_at hl 0 rfl) ?_
    refine q_aald hx hb hA hW 7 rfl h2 (vp_in_nI (n := 1) (by decide) (by decide)) dX13_isSo_18 ?_
    rw [show go (1 : Int32).toNatClampNeg = some a1 from hgo1]
    refine lv_aload_n hx hb dX13_isSo_19 rfl (lv_at hl 5 rfl) ?_
    refine q_ci (va_runV (As := [.ref k]) (rest := []) ⟨hx, hb, hml, hown, hts⟩ (kX16_value_0 l E f n k pa re ki wa no pn pr hd v b w a1 P D1 W1 hM1 hpn hK) (cwV 1 hts gX13_isSo_X16_value rfl rfl rfl (by decide +kernel) ⟨(Nat.le_of_ble_eq_true rfl), (Nat.le_of_ble_eq_true rfl)⟩) (q_pV hA hW hS (ci := 16) rfl hca1) rfl rfl hl.1 rfl (lv_room (Nat.le_of_ble_eq_true rfl)) dX13_isSo_20 ⟨(Nat.le_of_ble_eq_true rfl), (Nat.le_of_ble_eq_true rfl)⟩) hS (fun r_20x1 f_20x1 n_20x1 H locs hp hW hS => ?_)
    obtain ⟨rfl, rfl, rfl⟩ := hp
    have hW : q_W E (f) n H := hW
    refine lv_istore (lv' := [(4, .int (D1 hd v)), (3, .int 1), (2, .int (w01 (c_cmp 32 (D0 hd v) (E0 hd v) && true))), (5, .int (E0 hd v)), (0, .ref a), (1, .ref k)]) hx hb dX13_isSo_23 hl (by decide) rfl (fun ls hl => ?_)
    refine lv_aload_n hx hb dX13_isSo_25 rfl (lv_at hl 4 rfl) ?_
    refine q_get hx hb hts hown hA hW iX13 h0 rfl 5 (by decide) (hts (.fieldLink RX13 19 "HighRecipesLaw$Act" "others" "[LHighRecipesLaw$Node;") (by decide +kernel)) (fun _ h9 => h9) (v := .ref ot) rfl dX13_isSo_26 ?_
    refine lv_iload_n hx hb dX13_isSo_29 rfl (lv_at hl 1 rfl) ?_
    refine q_aald hx hb hA hW 7 rfl h3 (vp_in_nI (n := 1) (by decide) (by decide)) dX13_isSo_30 ?_
    rw [show gt (1 : Int32).toNatClampNeg = some c1 from hgt1]
    refine lv_aload_n hx hb dX13_isSo_31 rfl (lv_at hl 5 rfl) ?_
    refine q_ci (va_runV (As := [.ref k]) (rest := []) ⟨hx, hb, hml, hown, hts⟩ (kX16_value_0 l E f n k pa re ki wa no pn pr hd v b w c1 P E1 Y1 hQ1 hpn hK) (cwV 1 hts gX13_isSo_X16_value rfl rfl rfl (by decide +kernel) ⟨(Nat.le_of_ble_eq_true rfl), (Nat.le_of_ble_eq_true rfl)⟩) (q_pV hA hW hS (ci := 16) rfl hcc1) rfl rfl hl.1 rfl (lv_room (Nat.le_of_ble_eq_true rfl)) dX13_isSo_32 ⟨(Nat.le_of_ble_eq_true rfl), (Nat.le_of_ble_eq_true rfl)⟩) hS (fun r_32x1 f_32x1 n_32x1 H locs hp hW hS => ?_)
    obtain ⟨rfl, rfl, rfl⟩ := hp
    have hW : q_W E (f) n H := hW
    refine lv_istore (lv' := [(5, .int (E1 hd v)), (4, .int (D1 hd v)), (3, .int 1), (2, .int (w01 (c_cmp 32 (D0 hd v) (E0 hd v) && true))), (0, .ref a), (1, .ref k)]) hx hb dX13_isSo_35 hl (by decide) rfl (fun ls hl => ?_)
    refine lv_iload_n hx hb dX13_isSo_37 rfl (lv_at hl 3 rfl) ?_
    refine lv_aload_n hx hb dX13_isSo_38 rfl (lv_at hl 4 rfl) ?_
    refine q_get hx hb hts hown hA hW iX13 h0 rfl 3 (by decide) (hts (.fieldLink RX13 7 "HighRecipesLaw$Act" "signs" "[I") (by decide +kernel)) (fun _ h9 => h9) (v := .ref sg) rfl dX13_isSo_39 ?_
    refine lv_iload_n hx hb dX13_isSo_42 rfl (lv_at hl 2 rfl) ?_
    refine q_iald hx hb hA hW h1 (vp_in_nI (n := 1) (by decide) (by decide)) dX13_isSo_43 ?_
    rw [show gs (1 : Int32).toNatClampNeg = 2 from hgs1]
    refine lv_if_ne (tgt := 62) hx hb dX13_isSo_44 (by decide) (fun c_44 => ?_) (fun c_44 => absurd c_44 (by decide))
    refine lv_aload_n hx hb dX13_isSo_62 rfl (lv_at hl 4 rfl) ?_
    refine q_get hx hb hts hown hA hW iX13 h0 rfl 3 (by decide) (hts (.fieldLink RX13 7 "HighRecipesLaw$Act" "signs" "[I") (by decide +kernel)) (fun _ h9 => h9) (v := .ref sg) rfl dX13_isSo_63 ?_
    refine lv_iload_n hx hb dX13_isSo_66 rfl (lv_at hl 2 rfl) ?_
    refine q_iald hx hb hA hW h1 (vp_in_nI (n := 1) (by decide) (by decide)) dX13_isSo_67 ?_
    rw [show gs (1 : Int32).toNatClampNeg = 2 from hgs1]
    refine lv_iconst (v := 1) hx hb dX13_isSo_68 (by decide) ?_
    refine lv_icmp_ne (tgt := 87) hx hb dX13_isSo_69 (by decide) (fun c_69 => ?_) (fun c_69 => absurd c_69 (by decide))
    refine lv_iload hx hb dX13_isSo_87 (lv_at hl 1 rfl) ?_
    refine lv_iload hx hb dX13_isSo_89 (lv_at hl 0 rfl) ?_
    refine lv_icmp_ne (tgt := 98) hx hb dX13_isSo_91 (by decide) (fun c_91 => ?_) (fun c_91 => ?_)
    · refine lv_iconst (v := 0) hx hb dX13_isSo_98 (by decide) ?_
      refine lv_iand hx hb dX13_isSo_99 ?_
      rw [show (w01 (c_cmp 32 (D0 hd v) (E0 hd v) && true) : Int32) &&& 0 = w01 (c_cmp 32 (D1 hd v) (E1 hd v) && (c_cmp 32 (D0 hd v) (E0 hd v) && true)) from w01_and2 rfl (w01_f (by show decide ((D1 hd v) = (E1 hd v)) = _; exact (decide_eq_false c_91)))]
      refine lv_istore_n (lv' := [(2, .int (w01 (c_cmp 32 (D1 hd v) (E1 hd v) && (c_cmp 32 (D0 hd v) (E0 hd v) && true)))), (5, .int (E1 hd v)), (4, .int (D1 hd v)), (3, .int 1), (0, .ref a), (1, .ref k)]) hx hb dX13_isSo_100 rfl hl (by decide) rfl (fun ls hl => ?_)
      refine lv_iinc (v := 2) (lv' := [(3, .int 2), (2, .int (w01 (c_cmp 32 (D1 hd v) (E1 hd v) && (c_cmp 32 (D0 hd v) (E0 hd v) && true)))), (5, .int (E1 hd v)), (4, .int (D1 hd v)), (0, .ref a), (1, .ref k)]) hx hb dX13_isSo_101 hl (k := 3) rfl (by decide) (by decide) rfl (fun ls hl => ?_)
      refine lv_goto (tgt := 4) hx hb dX13_isSo_104 (by decide) ?_
      refine lv_iload_n hx hb dX13_isSo_4 rfl (lv_at hl 0 rfl) ?_
      refine lv_aload_n hx hb dX13_isSo_5 rfl (lv_at hl 4 rfl) ?_
      refine q_get hx hb hts hown hA hW iX13 h0 rfl 3 (by decide) (hts (.fieldLink RX13 7 "HighRecipesLaw$Act" "signs" "[I") (by decide +kernel)) (fun _ h9 => h9) (v := .ref sg) rfl dX13_isSo_6 ?_
      refine q_alen hx hb hA hW 0 rfl h1 (v := 2) rfl dX13_isSo_9 ?_
      refine lv_icmp_ge (tgt := 107) hx hb dX13_isSo_10 (by decide) (fun c_10 => ?_) (fun c_10 => absurd c_10 (by decide))
      refine lv_iload_n hx hb dX13_isSo_107 rfl (lv_at hl 1 rfl) ?_
      exact q_zret hx hb hr hlocks hW hS (by unfold w01; split <;> rfl) ⟨rfl, rfl, rfl⟩ (Nat.le_of_ble_eq_true rfl) (Nat.le_of_ble_eq_true rfl) dX13_isSo_108
    · refine lv_iconst (v := 1) hx hb dX13_isSo_94 (by decide) ?_
      refine lv_goto (tgt := 99) hx hb dX13_isSo_95 (by decide) ?_
      refine lv_iand hx hb dX13_isSo_99 ?_
      rw [show (w01 (c_cmp 32 (D0 hd v) (E0 hd v) && true) : Int32) &&& 1 = w01 (c_cmp 32 (D1 hd v) (E1 hd v) && (c_cmp 32 (D0 hd v) (E0 hd v) && true)) from w01_and2 rfl (w01_t (by show decide ((D1 hd v) = (E1 hd v)) = _; exact (decide_eq_true c_91)))]
      refine lv_istore_n (lv' := [(2, .int (w01 (c_cmp 32 (D1 hd v) (E1 hd v) && (c_cmp 32 (D0 hd v) (E0 hd v) && true)))), (5, .int (E1 hd v)), (4, .int (D1 hd v)), (3, .int 1), (0, .ref a), (1, .ref k)]) hx hb dX13_isSo_100 rfl hl (by decide) rfl (fun ls hl => ?_)
      refine lv_iinc (v := 2) (lv' := [(3, .int 2), (2, .int (w01 (c_cmp 32 (D1 hd v) (E1 hd v) && (c_cmp 32 (D0 hd v) (E0 hd v) && true)))), (5, .int (E1 hd v)), (4, .int (D1 hd v)), (0, .ref a), (1, .ref k)]) hx hb dX13_isSo_101 hl (k := 3) rfl (by decide) (by decide) rfl (fun ls hl => ?_)
      refine lv_goto (tgt := 4) hx hb dX13_isSo_104 (by decide) ?_
      refine lv_iload_n hx hb dX13_isSo_4 rfl (lv_at hl 0 rfl) ?_
      refine lv_aload_n hx hb dX13_isSo_5 rfl (lv_at hl 4 rfl) ?_
      refine q_get hx hb hts hown hA hW iX13 h0 rfl 3 (by decide) (hts (.fieldLink RX13 7 "HighRecipesLaw$Act" "signs" "[I") (by decide +kernel)) (fun _ h9 => h9) (v := .ref sg) rfl dX13_isSo_6 ?_
      refine q_alen hx hb hA hW 0 rfl h1 (v := 2) rfl dX13_isSo_9 ?_
      refine lv_icmp_ge (tgt := 107) hx hb dX13_isSo_10 (by decide) (fun c_10 => ?_) (fun c_10 => absurd c_10 (by decide))
      refine lv_iload_n hx hb dX13_isSo_107 rfl (lv_at hl 1 rfl) ?_
      exact q_zret hx hb hr hlocks hW hS (by unfold w01; split <;> rfl) ⟨rfl, rfl, rfl⟩ (Nat.le_of_ble_eq_true rfl) (Nat.le_of_ble_eq_true rfl) dX13_isSo_108

