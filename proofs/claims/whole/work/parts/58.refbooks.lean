/-! one book becomes another; tapes -/

theorem b_in_le {j L : Nat} (h : j ≤ L) (hL : L < 2 ^ 31) : b_in (nI j) 0 (nI L) = true := by
  unfold b_in
  rw [decide_eq_false (nI_pos (by omega)), decide_eq_false (show ¬ nI L < nI j from nI_nlt h hL)]
  rfl

set_option maxHeartbeats 4000000 in
set_option maxRecDepth 100000 in
theorem kX13_become (l : Launch) (E : q_E) (f : q_H) (n : Nat) (M : Nat) (r : q_R)  (hm : RM E f M r) : Met l yX13_become wsX13_become ({ frames := 2, cells := 0, slots := 0, locals := 81 }) (q_P E [.ref (M + 8), .ref (M + 25)] f n) (q_Qv E (fun f1 n1 => rO E f M (rp (rp (rp (rp (rp (rp (rp (rp (rp (rp (rp (rp (rp (rp (rp (rp (rp (rp (rp (rp (rp r 120 (fun _ => (r 130 0))) 121 (fun _ => (r 131 0))) 122 (fun _ => (r 132 0))) 123 (fun _ => (r 133 0))) 124 (fun _ => (r 134 0))) 9 (r 26)) 10 (r 27)) 11 (r 28)) 12 (r 29)) 13 (r 30)) 14 (r 31)) 15 (r 32)) 16 (r 33)) 17 (r 34)) 18 (r 35)) 19 (r 36)) 20 (r 37)) 21 (r 38)) 22 (r 39)) 23 (r 40)) 24 (r 41)) = f1 ∧ n = n1)) 0 0 (q_ge E) := by
  refine Met.ofW (cc := cX13_become) (maxL := 2) (ret := none) (by decide) rfl ?_
  intro p e s m args below meth c s₁ B hml hv
  obtain ⟨rfl, hA, hW⟩ := hv
  have hx := B.exec
  have hb := B.bytes
  have hr := B.returns
  have hts := atoms_spec (ws := wsX13_become) B.pre
  have hown : s.vm.findClass RX13 = some m.cls := findClass_of_methodNamed B.named
  have hlocks := B.notSynchronized
  have hS : va_S (q_ge E) s.heap s.heap [] := va_S.rf
  have iX13 : ∀ w ∈ wsX130, w ∈ wsX13_become := by decide +kernel
  have hl := lv_entry ([.ref (M + 8), .ref (M + 25)]) (n := 2) (Nat.le_of_ble_eq_true rfl)
  rw [lg_entry_eq]
  generalize (lg_sl ([.ref (M + 8), .ref (M + 25)]) ++ List.replicate (2 - (lg_sl ([.ref (M + 8), .ref (M + 25)])).length) Slot.unset).toArray = ls at hl ⊢
  have hl : lv_has ls 2 [(0, .ref (M + 8)), (1, .ref (M + 25))] := hl
  have hmE := hm.eq
  rw [hm.eq] at hW
  refine lv_aload_n hx hb dX13_become_0 rfl (lv_at hl 0 rfl) ?_
  refine lv_aload_n hx hb dX13_become_1 rfl (lv_at hl 1 rfl) ?_
  refine q_get hx hb hts hown hA hW iX13 rO_25 rfl 0 (by decide) (hts (.fieldLink RX13 60 "HighRecipesModel$Book" "pans" "I") (by decide +kernel)) (fun _ h9 => h9) (v := .int (r 130 0)) rfl dX13_become_2 ?_
  refine q_put hx hb hts hown hA hW hS iX13 tyX13 tyX13_ok nmX13 rO_8 rfl 0 (by decide) (hts (.fieldLink RX13 60 "HighRecipesModel$Book" "pans" "I") (by decide +kernel)) (fun _ h9 => h9) rfl rfl rfl (Nat.le_of_ble_eq_true rfl) dX13_become_5 (fun H locs hW hS => ?_)
  have hW := q_s8 120 (r 130 0) hW rfl (by decide)
  refine lv_aload_n hx hb dX13_become_8 rfl (lv_at hl 0 rfl) ?_
  refine lv_aload_n hx hb dX13_become_9 rfl (lv_at hl 1 rfl) ?_
  refine q_get hx hb hts hown hA hW iX13 rO_25 rfl 2 (by decide) (hts (.fieldLink RX13 64 "HighRecipesModel$Book" "recipes" "I") (by decide +kernel)) (fun _ h9 => h9) (v := .int (r 131 0)) rfl dX13_become_10 ?_
  refine q_put hx hb hts hown hA hW hS iX13 tyX13 tyX13_ok nmX13 rO_8 rfl 2 (by decide) (hts (.fieldLink RX13 64 "HighRecipesModel$Book" "recipes" "I") (by decide +kernel)) (fun _ h9 => h9) rfl rfl rfl (Nat.le_of_ble_eq_true rfl) dX13_become_13 (fun H locs hW hS => ?_)
  have hW := q_s8 121 (r 131 0) hW rfl (by decide)
  refine lv_aload_n hx hb dX13_become_16 rfl (lv_at hl 0 rfl) ?_
  refine lv_aload_n hx hb dX13_become_17 rfl (lv_at hl 1 rfl) ?_
  refine q_get hx hb hts hown hA hW iX13 rO_25 rfl 4 (by decide) (hts (.fieldLink RX13 67 "HighRecipesModel$Book" "acts" "I") (by decide +kernel)) (fun _ h9 => h9) (v := .int (r 132 0)) rfl dX13_become_18 ?_
  refine q_put hx hb hts hown hA hW hS iX13 tyX13 tyX13_ok nmX13 rO_8 rfl 4 (by decide) (hts (.fieldLink RX13 67 "HighRecipesModel$Book" "acts" "I") (by decide +kernel)) (fun _ h9 => h9) rfl rfl rfl (Nat.le_of_ble_eq_true rfl) dX13_become_21 (fun H locs hW hS => ?_)
  have hW := q_s8 122 (r 132 0) hW rfl (by decide)
  refine lv_aload_n hx hb dX13_become_24 rfl (lv_at hl 0 rfl) ?_
  refine lv_aload_n hx hb dX13_become_25 rfl (lv_at hl 1 rfl) ?_
  refine q_get hx hb hts hown hA hW iX13 rO_25 rfl 13 (by decide) (hts (.fieldLink RX13 70 "HighRecipesModel$Book" "compares" "I") (by decide +kernel)) (fun _ h9 => h9) (v := .int (r 133 0)) rfl dX13_become_26 ?_
  refine q_put hx hb hts hown hA hW hS iX13 tyX13 tyX13_ok nmX13 rO_8 rfl 13 (by decide) (hts (.fieldLink RX13 70 "HighRecipesModel$Book" "compares" "I") (by decide +kernel)) (fun _ h9 => h9) rfl rfl rfl (Nat.le_of_ble_eq_true rfl) dX13_become_29 (fun H locs hW hS => ?_)
  have hW := q_s8 123 (r 133 0) hW rfl (by decide)
  refine lv_aload_n hx hb dX13_become_32 rfl (lv_at hl 0 rfl) ?_
  refine lv_aload_n hx hb dX13_become_33 rfl (lv_at hl 1 rfl) ?_
  refine q_get hx hb hts hown hA hW iX13 rO_25 rfl 17 (by decide) (hts (.fieldLink RX13 73 "HighRecipesModel$Book" "nodes" "I") (by decide +kernel)) (fun _ h9 => h9) (v := .int (r 134 0)) rfl dX13_become_34 ?_
  refine q_put hx hb hts hown hA hW hS iX13 tyX13 tyX13_ok nmX13 rO_8 rfl 17 (by decide) (hts (.fieldLink RX13 73 "HighRecipesModel$Book" "nodes" "I") (by decide +kernel)) (fun _ h9 => h9) rfl rfl rfl (Nat.le_of_ble_eq_true rfl) dX13_become_37 (fun H locs hW hS => ?_)
  have hW := q_s8 124 (r 134 0) hW rfl (by decide)
  refine lv_aload_n hx hb dX13_become_40 rfl (lv_at hl 1 rfl) ?_
  refine q_get hx hb hts hown hA hW iX13 rO_25 rfl 1 (by decide) (hts (.fieldLink RX13 9 "HighRecipesModel$Book" "holds" "[I") (by decide +kernel)) (fun _ h9 => h9) (v := .ref (M + 26)) rfl dX13_become_41 ?_
  refine lv_aload_n hx hb dX13_become_44 rfl (lv_at hl 0 rfl) ?_
  refine q_get hx hb hts hown hA hW iX13 rO_8 rfl 1 (by decide) (hts (.fieldLink RX13 9 "HighRecipesModel$Book" "holds" "[I") (by decide +kernel)) (fun _ h9 => h9) (v := .ref (M + 9)) rfl dX13_become_45 ?_
  refine q_cv (va_runS (As := [.ref (M + 26), .ref (M + 9)]) (rest := []) ⟨hx, hb, hml, hown, hts⟩ (kX13_copy_1 l E (rO E f M (rp (rp (rp (rp (rp r 120 (fun _ => r 130 0)) 121 (fun _ => r 131 0)) 122 (fun _ => r 132 0)) 123 (fun _ => r 133 0)) 124 (fun _ => r 134 0))) n M (rp (rp (rp (rp (rp r 120 (fun _ => r 130 0)) 121 (fun _ => r 131 0)) 122 (fun _ => r 132 0)) 123 (fun _ => r 133 0)) 124 (fun _ => r 134 0)) rO_K) (va_cwS 2 hts gX13_become_X13_copy rfl rfl rfl (by decide +kernel) ⟨(Nat.le_of_ble_eq_true rfl), (Nat.le_of_ble_eq_true rfl)⟩) (q_pS hA hW hS) rfl rfl hl.1 rfl (lv_room (Nat.le_of_ble_eq_true rfl)) dX13_become_48 ⟨Nat.le_of_ble_eq_true rfl, Nat.le_of_ble_eq_true rfl⟩) hS (fun f_48 n_48 H locs hp hW hS => ?_)
  obtain ⟨rfl, rfl⟩ := hp
  have hW : q_W E (rO E f M (rp (rp (rp (rp (rp (rp r 120 (fun _ => r 130 0)) 121 (fun _ => r 131 0)) 122 (fun _ => r 132 0)) 123 (fun _ => r 133 0)) 124 (fun _ => r 134 0)) 9 (r 26))) n H := by rw [rO_rO] at hW; exact hW
  have hW : q_W E (rO E f M (rp (rp (rp (rp (rp (rp r 120 (fun _ => r 130 0)) 121 (fun _ => r 131 0)) 122 (fun _ => r 132 0)) 123 (fun _ => r 133 0)) 124 (fun _ => r 134 0)) 9 (r 26))) n H := hW
  refine lv_aload_n hx hb dX13_become_51 rfl (lv_at hl 1 rfl) ?_
  refine q_get hx hb hts hown hA hW iX13 rO_25 rfl 3 (by decide) (hts (.fieldLink RX13 15 "HighRecipesModel$Book" "recipe" "[I") (by decide +kernel)) (fun _ h9 => h9) (v := .ref (M + 27)) rfl dX13_become_52 ?_
  refine lv_aload_n hx hb dX13_become_55 rfl (lv_at hl 0 rfl) ?_
  refine q_get hx hb hts hown hA hW iX13 rO_8 rfl 3 (by decide) (hts (.fieldLink RX13 15 "HighRecipesModel$Book" "recipe" "[I") (by decide +kernel)) (fun _ h9 => h9) (v := .ref (M + 10)) rfl dX13_become_56 ?_
  refine q_cv (va_runS (As := [.ref (M + 27), .ref (M + 10)]) (rest := []) ⟨hx, hb, hml, hown, hts⟩ (kX13_copy_2 l E (rO E f M (rp (rp (rp (rp (rp (rp r 120 (fun _ => r 130 0)) 121 (fun _ => r 131 0)) 122 (fun _ => r 132 0)) 123 (fun _ => r 133 0)) 124 (fun _ => r 134 0)) 9 (r 26))) n M (rp (rp (rp (rp (rp (rp r 120 (fun _ => r 130 0)) 121 (fun _ => r 131 0)) 122 (fun _ => r 132 0)) 123 (fun _ => r 133 0)) 124 (fun _ => r 134 0)) 9 (r 26)) rO_K) (va_cwS 2 hts gX13_become_X13_copy rfl rfl rfl (by decide +kernel) ⟨(Nat.le_of_ble_eq_true rfl), (Nat.le_of_ble_eq_true rfl)⟩) (q_pS hA hW hS) rfl rfl hl.1 rfl (lv_room (Nat.le_of_ble_eq_true rfl)) dX13_become_59 ⟨Nat.le_of_ble_eq_true rfl, Nat.le_of_ble_eq_true rfl⟩) hS (fun f_59 n_59 H locs hp hW hS => ?_)
  obtain ⟨rfl, rfl⟩ := hp
  have hW : q_W E (rO E f M (rp (rp (rp (rp (rp (rp (rp r 120 (fun _ => r 130 0)) 121 (fun _ => r 131 0)) 122 (fun _ => r 132 0)) 123 (fun _ => r 133 0)) 124 (fun _ => r 134 0)) 9 (r 26)) 10 (r 27))) n H := by rw [rO_rO] at hW; exact hW
  have hW : q_W E (rO E f M (rp (rp (rp (rp (rp (rp (rp r 120 (fun _ => r 130 0)) 121 (fun _ => r 131 0)) 122 (fun _ => r 132 0)) 123 (fun _ => r 133 0)) 124 (fun _ => r 134 0)) 9 (r 26)) 10 (r 27))) n H := hW
  refine lv_aload_n hx hb dX13_become_62 rfl (lv_at hl 1 rfl) ?_
  refine q_get hx hb hts hown hA hW iX13 rO_25 rfl 5 (by decide) (hts (.fieldLink RX13 18 "HighRecipesModel$Book" "does" "[I") (by decide +kernel)) (fun _ h9 => h9) (v := .ref (M + 28)) rfl dX13_become_63 ?_
  refine lv_aload_n hx hb dX13_become_66 rfl (lv_at hl 0 rfl) ?_
  refine q_get hx hb hts hown hA hW iX13 rO_8 rfl 5 (by decide) (hts (.fieldLink RX13 18 "HighRecipesModel$Book" "does" "[I") (by decide +kernel)) (fun _ h9 => h9) (v := .ref (M + 11)) rfl dX13_become_67 ?_
  refine q_cv (va_runS (As := [.ref (M + 28), .ref (M + 11)]) (rest := []) ⟨hx, hb, hml, hown, hts⟩ (kX13_copy_3 l E (rO E f M (rp (rp (rp (rp (rp (rp (rp r 120 (fun _ => r 130 0)) 121 (fun _ => r 131 0)) 122 (fun _ => r 132 0)) 123 (fun _ => r 133 0)) 124 (fun _ => r 134 0)) 9 (r 26)) 10 (r 27))) n M (rp (rp (rp (rp (rp (rp (rp r 120 (fun _ => r 130 0)) 121 (fun _ => r 131 0)) 122 (fun _ => r 132 0)) 123 (fun _ => r 133 0)) 124 (fun _ => r 134 0)) 9 (r 26)) 10 (r 27)) rO_K) (va_cwS 2 hts gX13_become_X13_copy rfl rfl rfl (by decide +kernel) ⟨(Nat.le_of_ble_eq_true rfl), (Nat.le_of_ble_eq_true rfl)⟩) (q_pS hA hW hS) rfl rfl hl.1 rfl (lv_room (Nat.le_of_ble_eq_true rfl)) dX13_become_70 ⟨Nat.le_of_ble_eq_true rfl, Nat.le_of_ble_eq_true rfl⟩) hS (fun f_70 n_70 H locs hp hW hS => ?_)
  obtain ⟨rfl, rfl⟩ := hp
  have hW : q_W E (rO E f M (rp (rp (rp (rp (rp (rp (rp (rp r 120 (fun _ => r 130 0)) 121 (fun _ => r 131 0)) 122 (fun _ => r 132 0)) 123 (fun _ => r 133 0)) 124 (fun _ => r 134 0)) 9 (r 26)) 10 (r 27)) 11 (r 28))) n H := by rw [rO_rO] at hW; exact hW
  have hW : q_W E (rO E f M (rp (rp (rp (rp (rp (rp (rp (rp r 120 (fun _ => r 130 0)) 121 (fun _ => r 131 0)) 122 (fun _ => r 132 0)) 123 (fun _ => r 133 0)) 124 (fun _ => r 134 0)) 9 (r 26)) 10 (r 27)) 11 (r 28))) n H := hW
  refine lv_aload_n hx hb dX13_become_73 rfl (lv_at hl 1 rfl) ?_
  refine q_get hx hb hts hown hA hW iX13 rO_25 rfl 6 (by decide) (hts (.fieldLink RX13 21 "HighRecipesModel$Book" "whom" "[I") (by decide +kernel)) (fun _ h9 => h9) (v := .ref (M + 29)) rfl dX13_become_74 ?_
  refine lv_aload_n hx hb dX13_become_77 rfl (lv_at hl 0 rfl) ?_
  refine q_get hx hb hts hown hA hW iX13 rO_8 rfl 6 (by decide) (hts (.fieldLink RX13 21 "HighRecipesModel$Book" "whom" "[I") (by decide +kernel)) (fun _ h9 => h9) (v := .ref (M + 12)) rfl dX13_become_78 ?_
  refine q_cv (va_runS (As := [.ref (M + 29), .ref (M + 12)]) (rest := []) ⟨hx, hb, hml, hown, hts⟩ (kX13_copy_4 l E (rO E f M (rp (rp (rp (rp (rp (rp (rp (rp r 120 (fun _ => r 130 0)) 121 (fun _ => r 131 0)) 122 (fun _ => r 132 0)) 123 (fun _ => r 133 0)) 124 (fun _ => r 134 0)) 9 (r 26)) 10 (r 27)) 11 (r 28))) n M (rp (rp (rp (rp (rp (rp (rp (rp r 120 (fun _ => r 130 0)) 121 (fun _ => r 131 0)) 122 (fun _ => r 132 0)) 123 (fun _ => r 133 0)) 124 (fun _ => r 134 0)) 9 (r 26)) 10 (r 27)) 11 (r 28)) rO_K) (va_cwS 2 hts gX13_become_X13_copy rfl rfl rfl (by decide +kernel) ⟨(Nat.le_of_ble_eq_true rfl), (Nat.le_of_ble_eq_true rfl)⟩) (q_pS hA hW hS) rfl rfl hl.1 rfl (lv_room (Nat.le_of_ble_eq_true rfl)) dX13_become_81 ⟨Nat.le_of_ble_eq_true rfl, Nat.le_of_ble_eq_true rfl⟩) hS (fun f_81 n_81 H locs hp hW hS => ?_)
  obtain ⟨rfl, rfl⟩ := hp
  have hW : q_W E (rO E f M (rp (rp (rp (rp (rp (rp (rp (rp (rp r 120 (fun _ => r 130 0)) 121 (fun _ => r 131 0)) 122 (fun _ => r 132 0)) 123 (fun _ => r 133 0)) 124 (fun _ => r 134 0)) 9 (r 26)) 10 (r 27)) 11 (r 28)) 12 (r 29))) n H := by rw [rO_rO] at hW; exact hW
  have hW : q_W E (rO E f M (rp (rp (rp (rp (rp (rp (rp (rp (rp r 120 (fun _ => r 130 0)) 121 (fun _ => r 131 0)) 122 (fun _ => r 132 0)) 123 (fun _ => r 133 0)) 124 (fun _ => r 134 0)) 9 (r 26)) 10 (r 27)) 11 (r 28)) 12 (r 29))) n H := hW
  refine lv_aload_n hx hb dX13_become_84 rfl (lv_at hl 1 rfl) ?_
  refine q_get hx hb hts hown hA hW iX13 rO_25 rfl 7 (by decide) (hts (.fieldLink RX13 24 "HighRecipesModel$Book" "value" "[I") (by decide +kernel)) (fun _ h9 => h9) (v := .ref (M + 30)) rfl dX13_become_85 ?_
  refine lv_aload_n hx hb dX13_become_88 rfl (lv_at hl 0 rfl) ?_
  refine q_get hx hb hts hown hA hW iX13 rO_8 rfl 7 (by decide) (hts (.fieldLink RX13 24 "HighRecipesModel$Book" "value" "[I") (by decide +kernel)) (fun _ h9 => h9) (v := .ref (M + 13)) rfl dX13_become_89 ?_
  refine q_cv (va_runS (As := [.ref (M + 30), .ref (M + 13)]) (rest := []) ⟨hx, hb, hml, hown, hts⟩ (kX13_copy_5 l E (rO E f M (rp (rp (rp (rp (rp (rp (rp (rp (rp r 120 (fun _ => r 130 0)) 121 (fun _ => r 131 0)) 122 (fun _ => r 132 0)) 123 (fun _ => r 133 0)) 124 (fun _ => r 134 0)) 9 (r 26)) 10 (r 27)) 11 (r 28)) 12 (r 29))) n M (rp (rp (rp (rp (rp (rp (rp (rp (rp r 120 (fun _ => r 130 0)) 121 (fun _ => r 131 0)) 122 (fun _ => r 132 0)) 123 (fun _ => r 133 0)) 124 (fun _ => r 134 0)) 9 (r 26)) 10 (r 27)) 11 (r 28)) 12 (r 29)) rO_K) (va_cwS 2 hts gX13_become_X13_copy rfl rfl rfl (by decide +kernel) ⟨(Nat.le_of_ble_eq_true rfl), (Nat.le_of_ble_eq_true rfl)⟩) (q_pS hA hW hS) rfl rfl hl.1 rfl (lv_room (Nat.le_of_ble_eq_true rfl)) dX13_become_92 ⟨Nat.le_of_ble_eq_true rfl, Nat.le_of_ble_eq_true rfl⟩) hS (fun f_92 n_92 H locs hp hW hS => ?_)
  obtain ⟨rfl, rfl⟩ := hp
  have hW : q_W E (rO E f M (rp (rp (rp (rp (rp (rp (rp (rp (rp (rp r 120 (fun _ => r 130 0)) 121 (fun _ => r 131 0)) 122 (fun _ => r 132 0)) 123 (fun _ => r 133 0)) 124 (fun _ => r 134 0)) 9 (r 26)) 10 (r 27)) 11 (r 28)) 12 (r 29)) 13 (r 30))) n H := by rw [rO_rO] at hW; exact hW
  have hW : q_W E (rO E f M (rp (rp (rp (rp (rp (rp (rp (rp (rp (rp r 120 (fun _ => r 130 0)) 121 (fun _ => r 131 0)) 122 (fun _ => r 132 0)) 123 (fun _ => r 133 0)) 124 (fun _ => r 134 0)) 9 (r 26)) 10 (r 27)) 11 (r 28)) 12 (r 29)) 13 (r 30))) n H := hW
  refine lv_aload_n hx hb dX13_become_95 rfl (lv_at hl 1 rfl) ?_
  refine q_get hx hb hts hown hA hW iX13 rO_25 rfl 8 (by decide) (hts (.fieldLink RX13 27 "HighRecipesModel$Book" "from" "[I") (by decide +kernel)) (fun _ h9 => h9) (v := .ref (M + 31)) rfl dX13_become_96 ?_
  refine lv_aload_n hx hb dX13_become_99 rfl (lv_at hl 0 rfl) ?_
  refine q_get hx hb hts hown hA hW iX13 rO_8 rfl 8 (by decide) (hts (.fieldLink RX13 27 "HighRecipesModel$Book" "from" "[I") (by decide +kernel)) (fun _ h9 => h9) (v := .ref (M + 14)) rfl dX13_become_100 ?_
  refine q_cv (va_runS (As := [.ref (M + 31), .ref (M + 14)]) (rest := []) ⟨hx, hb, hml, hown, hts⟩ (kX13_copy_6 l E (rO E f M (rp (rp (rp (rp (rp (rp (rp (rp (rp (rp r 120 (fun _ => r 130 0)) 121 (fun _ => r 131 0)) 122 (fun _ => r 132 0)) 123 (fun _ => r 133 0)) 124 (fun _ => r 134 0)) 9 (r 26)) 10 (r 27)) 11 (r 28)) 12 (r 29)) 13 (r 30))) n M (rp (rp (rp (rp (rp (rp (rp (rp (rp (rp r 120 (fun _ => r 130 0)) 121 (fun _ => r 131 0)) 122 (fun _ => r 132 0)) 123 (fun _ => r 133 0)) 124 (fun _ => r 134 0)) 9 (r 26)) 10 (r 27)) 11 (r 28)) 12 (r 29)) 13 (r 30)) rO_K) (va_cwS 2 hts gX13_become_X13_copy rfl rfl rfl (by decide +kernel) ⟨(Nat.le_of_ble_eq_true rfl), (Nat.le_of_ble_eq_true rfl)⟩) (q_pS hA hW hS) rfl rfl hl.1 rfl (lv_room (Nat.le_of_ble_eq_true rfl)) dX13_become_103 ⟨Nat.le_of_ble_eq_true rfl, Nat.le_of_ble_eq_true rfl⟩) hS (fun f_103 n_103 H locs hp hW hS => ?_)
  obtain ⟨rfl, rfl⟩ := hp
  have hW : q_W E (rO E f M (rp (rp (rp (rp (rp (rp (rp (rp (rp (rp (rp r 120 (fun _ => r 130 0)) 121 (fun _ => r 131 0)) 122 (fun _ => r 132 0)) 123 (fun _ => r 133 0)) 124 (fun _ => r 134 0)) 9 (r 26)) 10 (r 27)) 11 (r 28)) 12 (r 29)) 13 (r 30)) 14 (r 31))) n H := by rw [rO_rO] at hW; exact hW
  have hW : q_W E (rO E f M (rp (rp (rp (rp (rp (rp (rp (rp (rp (rp (rp r 120 (fun _ => r 130 0)) 121 (fun _ => r 131 0)) 122 (fun _ => r 132 0)) 123 (fun _ => r 133 0)) 124 (fun _ => r 134 0)) 9 (r 26)) 10 (r 27)) 11 (r 28)) 12 (r 29)) 13 (r 30)) 14 (r 31))) n H := hW
  refine lv_aload_n hx hb dX13_become_106 rfl (lv_at hl 1 rfl) ?_
  refine q_get hx hb hts hown hA hW iX13 rO_25 rfl 9 (by decide) (hts (.fieldLink RX13 30 "HighRecipesModel$Book" "to" "[I") (by decide +kernel)) (fun _ h9 => h9) (v := .ref (M + 32)) rfl dX13_become_107 ?_
  refine lv_aload_n hx hb dX13_become_110 rfl (lv_at hl 0 rfl) ?_
  refine q_get hx hb hts hown hA hW iX13 rO_8 rfl 9 (by decide) (hts (.fieldLink RX13 30 "HighRecipesModel$Book" "to" "[I") (by decide +kernel)) (fun _ h9 => h9) (v := .ref (M + 15)) rfl dX13_become_111 ?_
  refine q_cv (va_runS (As := [.ref (M + 32), .ref (M + 15)]) (rest := []) ⟨hx, hb, hml, hown, hts⟩ (kX13_copy_7 l E (rO E f M (rp (rp (rp (rp (rp (rp (rp (rp (rp (rp (rp r 120 (fun _ => r 130 0)) 121 (fun _ => r 131 0)) 122 (fun _ => r 132 0)) 123 (fun _ => r 133 0)) 124 (fun _ => r 134 0)) 9 (r 26)) 10 (r 27)) 11 (r 28)) 12 (r 29)) 13 (r 30)) 14 (r 31))) n M (rp (rp (rp (rp (rp (rp (rp (rp (rp (rp (rp r 120 (fun _ => r 130 0)) 121 (fun _ => r 131 0)) 122 (fun _ => r 132 0)) 123 (fun _ => r 133 0)) 124 (fun _ => r 134 0)) 9 (r 26)) 10 (r 27)) 11 (r 28)) 12 (r 29)) 13 (r 30)) 14 (r 31)) rO_K) (va_cwS 2 hts gX13_become_X13_copy rfl rfl rfl (by decide +kernel) ⟨(Nat.le_of_ble_eq_true rfl), (Nat.le_of_ble_eq_true rfl)⟩) (q_pS hA hW hS) rfl rfl hl.1 rfl (lv_room (Nat.le_of_ble_eq_true rfl)) dX13_become_114 ⟨Nat.le_of_ble_eq_true rfl, Nat.le_of_ble_eq_true rfl⟩) hS (fun f_114 n_114 H locs hp hW hS => ?_)
  obtain ⟨rfl, rfl⟩ := hp
  have hW : q_W E (rO E f M (rp (rp (rp (rp (rp (rp (rp (rp (rp (rp (rp (rp r 120 (fun _ => r 130 0)) 121 (fun _ => r 131 0)) 122 (fun _ => r 132 0)) 123 (fun _ => r 133 0)) 124 (fun _ => r 134 0)) 9 (r 26)) 10 (r 27)) 11 (r 28)) 12 (r 29)) 13 (r 30)) 14 (r 31)) 15 (r 32))) n H := by rw [rO_rO] at hW; exact hW
  have hW : q_W E (rO E f M (rp (rp (rp (rp (rp (rp (rp (rp (rp (rp (rp (rp r 120 (fun _ => r 130 0)) 121 (fun _ => r 131 0)) 122 (fun _ => r 132 0)) 123 (fun _ => r 133 0)) 124 (fun _ => r 134 0)) 9 (r 26)) 10 (r 27)) 11 (r 28)) 12 (r 29)) 13 (r 30)) 14 (r 31)) 15 (r 32))) n H := hW
  refine lv_aload_n hx hb dX13_become_117 rfl (lv_at hl 1 rfl) ?_
  refine q_get hx hb hts hown hA hW iX13 rO_25 rfl 10 (by decide) (hts (.fieldLink RX13 33 "HighRecipesModel$Book" "block" "[I") (by decide +kernel)) (fun _ h9 => h9) (v := .ref (M + 33)) rfl dX13_become_118 ?_
  refine lv_aload_n hx hb dX13_become_121 rfl (lv_at hl 0 rfl) ?_
  refine q_get hx hb hts hown hA hW iX13 rO_8 rfl 10 (by decide) (hts (.fieldLink RX13 33 "HighRecipesModel$Book" "block" "[I") (by decide +kernel)) (fun _ h9 => h9) (v := .ref (M + 16)) rfl dX13_become_122 ?_
  refine q_cv (va_runS (As := [.ref (M + 33), .ref (M + 16)]) (rest := []) ⟨hx, hb, hml, hown, hts⟩ (kX13_copy_8 l E (rO E f M (rp (rp (rp (rp (rp (rp (rp (rp (rp (rp (rp (rp r 120 (fun _ => r 130 0)) 121 (fun _ => r 131 0)) 122 (fun _ => r 132 0)) 123 (fun _ => r 133 0)) 124 (fun _ => r 134 0)) 9 (r 26)) 10 (r 27)) 11 (r 28)) 12 (r 29)) 13 (r 30)) 14 (r 31)) 15 (r 32))) n M (rp (rp (rp (rp (rp (rp (rp (rp (rp (rp (rp (rp r 120 (fun _ => r 130 0)) 121 (fun _ => r 131 0)) 122 (fun _ => r 132 0)) 123 (fun _ => r 133 0)) 124 (fun _ => r 134 0)) 9 (r 26)) 10 (r 27)) 11 (r 28)) 12 (r 29)) 13 (r 30)) 14 (r 31)) 15 (r 32)) rO_K) (va_cwS 2 hts gX13_become_X13_copy rfl rfl rfl (by decide +kernel) ⟨(Nat.le_of_ble_eq_true rfl), (Nat.le_of_ble_eq_true rfl)⟩) (q_pS hA hW hS) rfl rfl hl.1 rfl (lv_room (Nat.le_of_ble_eq_true rfl)) dX13_become_125 ⟨Nat.le_of_ble_eq_true rfl, Nat.le_of_ble_eq_true rfl⟩) hS (fun f_125 n_125 H locs hp hW hS => ?_)
  obtain ⟨rfl, rfl⟩ := hp
  have hW : q_W E (rO E f M (rp (rp (rp (rp (rp (rp (rp (rp (rp (rp (rp (rp (rp r 120 (fun _ => r 130 0)) 121 (fun _ => r 131 0)) 122 (fun _ => r 132 0)) 123 (fun _ => r 133 0)) 124 (fun _ => r 134 0)) 9 (r 26)) 10 (r 27)) 11 (r 28)) 12 (r 29)) 13 (r 30)) 14 (r 31)) 15 (r 32)) 16 (r 33))) n H := by rw [rO_rO] at hW; exact hW
  have hW : q_W E (rO E f M (rp (rp (rp (rp (rp (rp (rp (rp (rp (rp (rp (rp (rp r 120 (fun _ => r 130 0)) 121 (fun _ => r 131 0)) 122 (fun _ => r 132 0)) 123 (fun _ => r 133 0)) 124 (fun _ => r 134 0)) 9 (r 26)) 10 (r 27)) 11 (r 28)) 12 (r 29)) 13 (r 30)) 14 (r 31)) 15 (r 32)) 16 (r 33))) n H := hW
  refine lv_aload_n hx hb dX13_become_128 rfl (lv_at hl 1 rfl) ?_
  refine q_get hx hb hts hown hA hW iX13 rO_25 rfl 11 (by decide) (hts (.fieldLink RX13 36 "HighRecipesModel$Book" "other" "[I") (by decide +kernel)) (fun _ h9 => h9) (v := .ref (M + 34)) rfl dX13_become_129 ?_
  refine lv_aload_n hx hb dX13_become_132 rfl (lv_at hl 0 rfl) ?_
  refine q_get hx hb hts hown hA hW iX13 rO_8 rfl 11 (by decide) (hts (.fieldLink RX13 36 "HighRecipesModel$Book" "other" "[I") (by decide +kernel)) (fun _ h9 => h9) (v := .ref (M + 17)) rfl dX13_become_133 ?_
  refine q_cv (va_runS (As := [.ref (M + 34), .ref (M + 17)]) (rest := []) ⟨hx, hb, hml, hown, hts⟩ (kX13_copy_9 l E (rO E f M (rp (rp (rp (rp (rp (rp (rp (rp (rp (rp (rp (rp (rp r 120 (fun _ => r 130 0)) 121 (fun _ => r 131 0)) 122 (fun _ => r 132 0)) 123 (fun _ => r 133 0)) 124 (fun _ => r 134 0)) 9 (r 26)) 10 (r 27)) 11 (r 28)) 12 (r 29)) 13 (r 30)) 14 (r 31)) 15 (r 32)) 16 (r 33))) n M (rp (rp (rp (rp (rp (rp (rp (rp (rp (rp (rp (rp (rp r 120 (fun _ => r 130 0)) 121 (fun _ => r 131 0)) 122 (fun _ => r 132 0)) 123 (fun _ => r 133 0)) 124 (fun _ => r 134 0)) 9 (r 26)) 10 (r 27)) 11 (r 28)) 12 (r 29)) 13 (r 30)) 14 (r 31)) 15 (r 32)) 16 (r 33)) rO_K) (va_cwS 2 hts gX13_become_X13_copy rfl rfl rfl (by decide +kernel) ⟨(Nat.le_of_ble_eq_true rfl), (Nat.le_of_ble_eq_true rfl)⟩) (q_pS hA hW hS) rfl rfl hl.1 rfl (lv_room (Nat.le_of_ble_eq_true rfl)) dX13_become_136 ⟨Nat.le_of_ble_eq_true rfl, Nat.le_of_ble_eq_true rfl⟩) hS (fun f_136 n_136 H locs hp hW hS => ?_)
  obtain ⟨rfl, rfl⟩ := hp
  have hW : q_W E (rO E f M (rp (rp (rp (rp (rp (rp (rp (rp (rp (rp (rp (rp (rp (rp r 120 (fun _ => r 130 0)) 121 (fun _ => r 131 0)) 122 (fun _ => r 132 0)) 123 (fun _ => r 133 0)) 124 (fun _ => r 134 0)) 9 (r 26)) 10 (r 27)) 11 (r 28)) 12 (r 29)) 13 (r 30)) 14 (r 31)) 15 (r 32)) 16 (r 33)) 17 (r 34))) n H := by rw [rO_rO] at hW; exact hW
  have hW : q_W E (rO E f M (rp (rp (rp (rp (rp (rp (rp (rp (rp (rp (rp (rp (rp (rp r 120 (fun _ => r 130 0)) 121 (fun _ => r 131 0)) 122 (fun _ => r 132 0)) 123 (fun _ => r 133 0)) 124 (fun _ => r 134 0)) 9 (r 26)) 10 (r 27)) 11 (r 28)) 12 (r 29)) 13 (r 30)) 14 (r 31)) 15 (r 32)) 16 (r 33)) 17 (r 34))) n H := hW
  refine lv_aload_n hx hb dX13_become_139 rfl (lv_at hl 1 rfl) ?_
  refine q_get hx hb hts hown hA hW iX13 rO_25 rfl 12 (by decide) (hts (.fieldLink RX13 39 "HighRecipesModel$Book" "next" "[I") (by decide +kernel)) (fun _ h9 => h9) (v := .ref (M + 35)) rfl dX13_become_140 ?_
  refine lv_aload_n hx hb dX13_become_143 rfl (lv_at hl 0 rfl) ?_
  refine q_get hx hb hts hown hA hW iX13 rO_8 rfl 12 (by decide) (hts (.fieldLink RX13 39 "HighRecipesModel$Book" "next" "[I") (by decide +kernel)) (fun _ h9 => h9) (v := .ref (M + 18)) rfl dX13_become_144 ?_
  refine q_cv (va_runS (As := [.ref (M + 35), .ref (M + 18)]) (rest := []) ⟨hx, hb, hml, hown, hts⟩ (kX13_copy_10 l E (rO E f M (rp (rp (rp (rp (rp (rp (rp (rp (rp (rp (rp (rp (rp (rp r 120 (fun _ => r 130 0)) 121 (fun _ => r 131 0)) 122 (fun _ => r 132 0)) 123 (fun _ => r 133 0)) 124 (fun _ => r 134 0)) 9 (r 26)) 10 (r 27)) 11 (r 28)) 12 (r 29)) 13 (r 30)) 14 (r 31)) 15 (r 32)) 16 (r 33)) 17 (r 34))) n M (rp (rp (rp (rp (rp (rp (rp (rp (rp (rp (rp (rp (rp (rp r 120 (fun _ => r 130 0)) 121 (fun _ => r 131 0)) 122 (fun _ => r 132 0)) 123 (fun _ => r 133 0)) 124 (fun _ => r 134 0)) 9 (r 26)) 10 (r 27)) 11 (r 28)) 12 (r 29)) 13 (r 30)) 14 (r 31)) 15 (r 32)) 16 (r 33)) 17 (r 34)) rO_K) (va_cwS 2 hts gX13_become_X13_copy rfl rfl rfl (by decide +kernel) ⟨(Nat.le_of_ble_eq_true rfl), (Nat.le_of_ble_eq_true rfl)⟩) (q_pS hA hW hS) rfl rfl hl.1 rfl (lv_room (Nat.le_of_ble_eq_true rfl)) dX13_become_147 ⟨Nat.le_of_ble_eq_true rfl, Nat.le_of_ble_eq_true rfl⟩) hS (fun f_147 n_147 H locs hp hW hS => ?_)
  obtain ⟨rfl, rfl⟩ := hp
  have hW : q_W E (rO E f M (rp (rp (rp (rp (rp (rp (rp (rp (rp (rp (rp (rp (rp (rp (rp r 120 (fun _ => r 130 0)) 121 (fun _ => r 131 0)) 122 (fun _ => r 132 0)) 123 (fun _ => r 133 0)) 124 (fun _ => r 134 0)) 9 (r 26)) 10 (r 27)) 11 (r 28)) 12 (r 29)) 13 (r 30)) 14 (r 31)) 15 (r 32)) 16 (r 33)) 17 (r 34)) 18 (r 35))) n H := by rw [rO_rO] at hW; exact hW
  have hW : q_W E (rO E f M (rp (rp (rp (rp (rp (rp (rp (rp (rp (rp (rp (rp (rp (rp (rp r 120 (fun _ => r 130 0)) 121 (fun _ => r 131 0)) 122 (fun _ => r 132 0)) 123 (fun _ => r 133 0)) 124 (fun _ => r 134 0)) 9 (r 26)) 10 (r 27)) 11 (r 28)) 12 (r 29)) 13 (r 30)) 14 (r 31)) 15 (r 32)) 16 (r 33)) 17 (r 34)) 18 (r 35))) n H := hW
  refine lv_aload_n hx hb dX13_become_150 rfl (lv_at hl 1 rfl) ?_
  refine q_get hx hb hts hown hA hW iX13 rO_25 rfl 14 (by decide) (hts (.fieldLink RX13 42 "HighRecipesModel$Book" "sign" "[I") (by decide +kernel)) (fun _ h9 => h9) (v := .ref (M + 36)) rfl dX13_become_151 ?_
  refine lv_aload_n hx hb dX13_become_154 rfl (lv_at hl 0 rfl) ?_
  refine q_get hx hb hts hown hA hW iX13 rO_8 rfl 14 (by decide) (hts (.fieldLink RX13 42 "HighRecipesModel$Book" "sign" "[I") (by decide +kernel)) (fun _ h9 => h9) (v := .ref (M + 19)) rfl dX13_become_155 ?_
  refine q_cv (va_runS (As := [.ref (M + 36), .ref (M + 19)]) (rest := []) ⟨hx, hb, hml, hown, hts⟩ (kX13_copy_11 l E (rO E f M (rp (rp (rp (rp (rp (rp (rp (rp (rp (rp (rp (rp (rp (rp (rp r 120 (fun _ => r 130 0)) 121 (fun _ => r 131 0)) 122 (fun _ => r 132 0)) 123 (fun _ => r 133 0)) 124 (fun _ => r 134 0)) 9 (r 26)) 10 (r 27)) 11 (r 28)) 12 (r 29)) 13 (r 30)) 14 (r 31)) 15 (r 32)) 16 (r 33)) 17 (r 34)) 18 (r 35))) n M (rp (rp (rp (rp (rp (rp (rp (rp (rp (rp (rp (rp (rp (rp (rp r 120 (fun _ => r 130 0)) 121 (fun _ => r 131 0)) 122 (fun _ => r 132 0)) 123 (fun _ => r 133 0)) 124 (fun _ => r 134 0)) 9 (r 26)) 10 (r 27)) 11 (r 28)) 12 (r 29)) 13 (r 30)) 14 (r 31)) 15 (r 32)) 16 (r 33)) 17 (r 34)) 18 (r 35)) rO_K) (va_cwS 2 hts gX13_become_X13_copy rfl rfl rfl (by decide +kernel) ⟨(Nat.le_of_ble_eq_true rfl), (Nat.le_of_ble_eq_true rfl)⟩) (q_pS hA hW hS) rfl rfl hl.1 rfl (lv_room (Nat.le_of_ble_eq_true rfl)) dX13_become_158 ⟨Nat.le_of_ble_eq_true rfl, Nat.le_of_ble_eq_true rfl⟩) hS (fun f_158 n_158 H locs hp hW hS => ?_)
  obtain ⟨rfl, rfl⟩ := hp
  have hW : q_W E (rO E f M (rp (rp (rp (rp (rp (rp (rp (rp (rp (rp (rp (rp (rp (rp (rp (rp r 120 (fun _ => r 130 0)) 121 (fun _ => r 131 0)) 122 (fun _ => r 132 0)) 123 (fun _ => r 133 0)) 124 (fun _ => r 134 0)) 9 (r 26)) 10 (r 27)) 11 (r 28)) 12 (r 29)) 13 (r 30)) 14 (r 31)) 15 (r 32)) 16 (r 33)) 17 (r 34)) 18 (r 35)) 19 (r 36))) n H := by rw [rO_rO] at hW; exact hW
  have hW : q_W E (rO E f M (rp (rp (rp (rp (rp (rp (rp (rp (rp (rp (rp (rp (rp (rp (rp (rp r 120 (fun _ => r 130 0)) 121 (fun _ => r 131 0)) 122 (fun _ => r 132 0)) 123 (fun _ => r 133 0)) 124 (fun _ => r 134 0)) 9 (r 26)) 10 (r 27)) 11 (r 28)) 12 (r 29)) 13 (r 30)) 14 (r 31)) 15 (r 32)) 16 (r 33)) 17 (r 34)) 18 (r 35)) 19 (r 36))) n H := hW
  refine lv_aload_n hx hb dX13_become_161 rfl (lv_at hl 1 rfl) ?_
  refine q_get hx hb hts hown hA hW iX13 rO_25 rfl 15 (by decide) (hts (.fieldLink RX13 45 "HighRecipesModel$Book" "one" "[I") (by decide +kernel)) (fun _ h9 => h9) (v := .ref (M + 37)) rfl dX13_become_162 ?_
  refine lv_aload_n hx hb dX13_become_165 rfl (lv_at hl 0 rfl) ?_
  refine q_get hx hb hts hown hA hW iX13 rO_8 rfl 15 (by decide) (hts (.fieldLink RX13 45 "HighRecipesModel$Book" "one" "[I") (by decide +kernel)) (fun _ h9 => h9) (v := .ref (M + 20)) rfl dX13_become_166 ?_
  refine q_cv (va_runS (As := [.ref (M + 37), .ref (M + 20)]) (rest := []) ⟨hx, hb, hml, hown, hts⟩ (kX13_copy_12 l E (rO E f M (rp (rp (rp (rp (rp (rp (rp (rp (rp (rp (rp (rp (rp (rp (rp (rp r 120 (fun _ => r 130 0)) 121 (fun _ => r 131 0)) 122 (fun _ => r 132 0)) 123 (fun _ => r 133 0)) 124 (fun _ => r 134 0)) 9 (r 26)) 10 (r 27)) 11 (r 28)) 12 (r 29)) 13 (r 30)) 14 (r 31)) 15 (r 32)) 16 (r 33)) 17 (r 34)) 18 (r 35)) 19 (r 36))) n M (rp (rp (rp (rp (rp (rp (rp (rp (rp (rp (rp (rp (rp (rp (rp (rp r 120 (fun _ => r 130 0)) 121 (fun _ => r 131 0)) 122 (fun _ => r 132 0)) 123 (fun _ => r 133 0)) 124 (fun _ => r 134 0)) 9 (r 26)) 10 (r 27)) 11 (r 28)) 12 (r 29)) 13 (r 30)) 14 (r 31)) 15 (r 32)) 16 (r 33)) 17 (r 34)) 18 (r 35)) 19 (r 36)) rO_K) (va_cwS 2 hts gX13_become_X13_copy rfl rfl rfl (by decide +kernel) ⟨(Nat.le_of_ble_eq_true rfl), (Nat.le_of_ble_eq_true rfl)⟩) (q_pS hA hW hS) rfl rfl hl.1 rfl (lv_room (Nat.le_of_ble_eq_true rfl)) dX13_become_169 ⟨Nat.le_of_ble_eq_true rfl, Nat.le_of_ble_eq_true rfl⟩) hS (fun f_169 n_169 H locs hp hW hS => ?_)
  obtain ⟨rfl, rfl⟩ := hp
  have hW : q_W E (rO E f M (rp (rp (rp (rp (rp (rp (rp (rp (rp (rp (rp (rp (rp (rp (rp (rp (rp r 120 (fun _ => r 130 0)) 121 (fun _ => r 131 0)) 122 (fun _ => r 132 0)) 123 (fun _ => r 133 0)) 124 (fun _ => r 134 0)) 9 (r 26)) 10 (r 27)) 11 (r 28)) 12 (r 29)) 13 (r 30)) 14 (r 31)) 15 (r 32)) 16 (r 33)) 17 (r 34)) 18 (r 35)) 19 (r 36)) 20 (r 37))) n H := by rw [rO_rO] at hW; exact hW
  have hW : q_W E (rO E f M (rp (rp (rp (rp (rp (rp (rp (rp (rp (rp (rp (rp (rp (rp (rp (rp (rp r 120 (fun _ => r 130 0)) 121 (fun _ => r 131 0)) 122 (fun _ => r 132 0)) 123 (fun _ => r 133 0)) 124 (fun _ => r 134 0)) 9 (r 26)) 10 (r 27)) 11 (r 28)) 12 (r 29)) 13 (r 30)) 14 (r 31)) 15 (r 32)) 16 (r 33)) 17 (r 34)) 18 (r 35)) 19 (r 36)) 20 (r 37))) n H := hW
  refine lv_aload_n hx hb dX13_become_172 rfl (lv_at hl 1 rfl) ?_
  refine q_get hx hb hts hown hA hW iX13 rO_25 rfl 16 (by decide) (hts (.fieldLink RX13 48 "HighRecipesModel$Book" "two" "[I") (by decide +kernel)) (fun _ h9 => h9) (v := .ref (M + 38)) rfl dX13_become_173 ?_
  refine lv_aload_n hx hb dX13_become_176 rfl (lv_at hl 0 rfl) ?_
  refine q_get hx hb hts hown hA hW iX13 rO_8 rfl 16 (by decide) (hts (.fieldLink RX13 48 "HighRecipesModel$Book" "two" "[I") (by decide +kernel)) (fun _ h9 => h9) (v := .ref (M + 21)) rfl dX13_become_177 ?_
  refine q_cv (va_runS (As := [.ref (M + 38), .ref (M + 21)]) (rest := []) ⟨hx, hb, hml, hown, hts⟩ (kX13_copy_13 l E (rO E f M (rp (rp (rp (rp (rp (rp (rp (rp (rp (rp (rp (rp (rp (rp (rp (rp (rp r 120 (fun _ => r 130 0)) 121 (fun _ => r 131 0)) 122 (fun _ => r 132 0)) 123 (fun _ => r 133 0)) 124 (fun _ => r 134 0)) 9 (r 26)) 10 (r 27)) 11 (r 28)) 12 (r 29)) 13 (r 30)) 14 (r 31)) 15 (r 32)) 16 (r 33)) 17 (r 34)) 18 (r 35)) 19 (r 36)) 20 (r 37))) n M (rp (rp (rp (rp (rp (rp (rp (rp (rp (rp (rp (rp (rp (rp (rp (rp (rp r 120 (fun _ => r 130 0)) 121 (fun _ => r 131 0)) 122 (fun _ => r 132 0)) 123 (fun _ => r 133 0)) 124 (fun _ => r 134 0)) 9 (r 26)) 10 (r 27)) 11 (r 28)) 12 (r 29)) 13 (r 30)) 14 (r 31)) 15 (r 32)) 16 (r 33)) 17 (r 34)) 18 (r 35)) 19 (r 36)) 20 (r 37)) rO_K) (va_cwS 2 hts gX13_become_X13_copy rfl rfl rfl (by decide +kernel) ⟨(Nat.le_of_ble_eq_true rfl), (Nat.le_of_ble_eq_true rfl)⟩) (q_pS hA hW hS) rfl rfl hl.1 rfl (lv_room (Nat.le_of_ble_eq_true rfl)) dX13_become_180 ⟨Nat.le_of_ble_eq_true rfl, Nat.le_of_ble_eq_true rfl⟩) hS (fun f_180 n_180 H locs hp hW hS => ?_)
  obtain ⟨rfl, rfl⟩ := hp
  have hW : q_W E (rO E f M (rp (rp (rp (rp (rp (rp (rp (rp (rp (rp (rp (rp (rp (rp (rp (rp (rp (rp r 120 (fun _ => r 130 0)) 121 (fun _ => r 131 0)) 122 (fun _ => r 132 0)) 123 (fun _ => r 133 0)) 124 (fun _ => r 134 0)) 9 (r 26)) 10 (r 27)) 11 (r 28)) 12 (r 29)) 13 (r 30)) 14 (r 31)) 15 (r 32)) 16 (r 33)) 17 (r 34)) 18 (r 35)) 19 (r 36)) 20 (r 37)) 21 (r 38))) n H := by rw [rO_rO] at hW; exact hW
  have hW : q_W E (rO E f M (rp (rp (rp (rp (rp (rp (rp (rp (rp (rp (rp (rp (rp (rp (rp (rp (rp (rp r 120 (fun _ => r 130 0)) 121 (fun _ => r 131 0)) 122 (fun _ => r 132 0)) 123 (fun _ => r 133 0)) 124 (fun _ => r 134 0)) 9 (r 26)) 10 (r 27)) 11 (r 28)) 12 (r 29)) 13 (r 30)) 14 (r 31)) 15 (r 32)) 16 (r 33)) 17 (r 34)) 18 (r 35)) 19 (r 36)) 20 (r 37)) 21 (r 38))) n H := hW
  refine lv_aload_n hx hb dX13_become_183 rfl (lv_at hl 1 rfl) ?_
  refine q_get hx hb hts hown hA hW iX13 rO_25 rfl 18 (by decide) (hts (.fieldLink RX13 51 "HighRecipesModel$Book" "sort" "[I") (by decide +kernel)) (fun _ h9 => h9) (v := .ref (M + 39)) rfl dX13_become_184 ?_
  refine lv_aload_n hx hb dX13_become_187 rfl (lv_at hl 0 rfl) ?_
  refine q_get hx hb hts hown hA hW iX13 rO_8 rfl 18 (by decide) (hts (.fieldLink RX13 51 "HighRecipesModel$Book" "sort" "[I") (by decide +kernel)) (fun _ h9 => h9) (v := .ref (M + 22)) rfl dX13_become_188 ?_
  refine q_cv (va_runS (As := [.ref (M + 39), .ref (M + 22)]) (rest := []) ⟨hx, hb, hml, hown, hts⟩ (kX13_copy_14 l E (rO E f M (rp (rp (rp (rp (rp (rp (rp (rp (rp (rp (rp (rp (rp (rp (rp (rp (rp (rp r 120 (fun _ => r 130 0)) 121 (fun _ => r 131 0)) 122 (fun _ => r 132 0)) 123 (fun _ => r 133 0)) 124 (fun _ => r 134 0)) 9 (r 26)) 10 (r 27)) 11 (r 28)) 12 (r 29)) 13 (r 30)) 14 (r 31)) 15 (r 32)) 16 (r 33)) 17 (r 34)) 18 (r 35)) 19 (r 36)) 20 (r 37)) 21 (r 38))) n M (rp (rp (rp (rp (rp (rp (rp (rp (rp (rp (rp (rp (rp (rp (rp (rp (rp (rp r 120 (fun _ => r 130 0)) 121 (fun _ => r 131 0)) 122 (fun _ => r 132 0)) 123 (fun _ => r 133 0)) 124 (fun _ => r 134 0)) 9 (r 26)) 10 (r 27)) 11 (r 28)) 12 (r 29)) 13 (r 30)) 14 (r 31)) 15 (r 32)) 16 (r 33)) 17 (r 34)) 18 (r 35)) 19 (r 36)) 20 (r 37)) 21 (r 38)) rO_K) (va_cwS 2 hts gX13_become_X13_copy rfl rfl rfl (by decide +kernel) ⟨(Nat.le_of_ble_eq_true rfl), (Nat.le_of_ble_eq_true rfl)⟩) (q_pS hA hW hS) rfl rfl hl.1 rfl (lv_room (Nat.le_of_ble_eq_true rfl)) dX13_become_191 ⟨Nat.le_of_ble_eq_true rfl, Nat.le_of_ble_eq_true rfl⟩) hS (fun f_191 n_191 H locs hp hW hS => ?_)
  obtain ⟨rfl, rfl⟩ := hp
  have hW : q_W E (rO E f M (rp (rp (rp (rp (rp (rp (rp (rp (rp (rp (rp (rp (rp (rp (rp (rp (rp (rp (rp r 120 (fun _ => r 130 0)) 121 (fun _ => r 131 0)) 122 (fun _ => r 132 0)) 123 (fun _ => r 133 0)) 124 (fun _ => r 134 0)) 9 (r 26)) 10 (r 27)) 11 (r 28)) 12 (r 29)) 13 (r 30)) 14 (r 31)) 15 (r 32)) 16 (r 33)) 17 (r 34)) 18 (r 35)) 19 (r 36)) 20 (r 37)) 21 (r 38)) 22 (r 39))) n H := by rw [rO_rO] at hW; exact hW
  have hW : q_W E (rO E f M (rp (rp (rp (rp (rp (rp (rp (rp (rp (rp (rp (rp (rp (rp (rp (rp (rp (rp (rp r 120 (fun _ => r 130 0)) 121 (fun _ => r 131 0)) 122 (fun _ => r 132 0)) 123 (fun _ => r 133 0)) 124 (fun _ => r 134 0)) 9 (r 26)) 10 (r 27)) 11 (r 28)) 12 (r 29)) 13 (r 30)) 14 (r 31)) 15 (r 32)) 16 (r 33)) 17 (r 34)) 18 (r 35)) 19 (r 36)) 20 (r 37)) 21 (r 38)) 22 (r 39))) n H := hW
  refine lv_aload_n hx hb dX13_become_194 rfl (lv_at hl 1 rfl) ?_
  refine q_get hx hb hts hown hA hW iX13 rO_25 rfl 19 (by decide) (hts (.fieldLink RX13 54 "HighRecipesModel$Book" "left" "[I") (by decide +kernel)) (fun _ h9 => h9) (v := .ref (M + 40)) rfl dX13_become_195 ?_
  refine lv_aload_n hx hb dX13_become_198 rfl (lv_at hl 0 rfl) ?_
  refine q_get hx hb hts hown hA hW iX13 rO_8 rfl 19 (by decide) (hts (.fieldLink RX13 54 "HighRecipesModel$Book" "left" "[I") (by decide +kernel)) (fun _ h9 => h9) (v := .ref (M + 23)) rfl dX13_become_199 ?_
  refine q_cv (va_runS (As := [.ref (M + 40), .ref (M + 23)]) (rest := []) ⟨hx, hb, hml, hown, hts⟩ (kX13_copy_15 l E (rO E f M (rp (rp (rp (rp (rp (rp (rp (rp (rp (rp (rp (rp (rp (rp (rp (rp (rp (rp (rp r 120 (fun _ => r 130 0)) 121 (fun _ => r 131 0)) 122 (fun _ => r 132 0)) 123 (fun _ => r 133 0)) 124 (fun _ => r 134 0)) 9 (r 26)) 10 (r 27)) 11 (r 28)) 12 (r 29)) 13 (r 30)) 14 (r 31)) 15 (r 32)) 16 (r 33)) 17 (r 34)) 18 (r 35)) 19 (r 36)) 20 (r 37)) 21 (r 38)) 22 (r 39))) n M (rp (rp (rp (rp (rp (rp (rp (rp (rp (rp (rp (rp (rp (rp (rp (rp (rp (rp (rp r 120 (fun _ => r 130 0)) 121 (fun _ => r 131 0)) 122 (fun _ => r 132 0)) 123 (fun _ => r 133 0)) 124 (fun _ => r 134 0)) 9 (r 26)) 10 (r 27)) 11 (r 28)) 12 (r 29)) 13 (r 30)) 14 (r 31)) 15 (r 32)) 16 (r 33)) 17 (r 34)) 18 (r 35)) 19 (r 36)) 20 (r 37)) 21 (r 38)) 22 (r 39)) rO_K) (va_cwS 2 hts gX13_become_X13_copy rfl rfl rfl (by decide +kernel) ⟨(Nat.le_of_ble_eq_true rfl), (Nat.le_of_ble_eq_true rfl)⟩) (q_pS hA hW hS) rfl rfl hl.1 rfl (lv_room (Nat.le_of_ble_eq_true rfl)) dX13_become_202 ⟨Nat.le_of_ble_eq_true rfl, Nat.le_of_ble_eq_true rfl⟩) hS (fun f_202 n_202 H locs hp hW hS => ?_)
  obtain ⟨rfl, rfl⟩ := hp
  have hW : q_W E (rO E f M (rp (rp (rp (rp (rp (rp (rp (rp (rp (rp (rp (rp (rp (rp (rp (rp (rp (rp (rp (rp r 120 (fun _ => r 130 0)) 121 (fun _ => r 131 0)) 122 (fun _ => r 132 0)) 123 (fun _ => r 133 0)) 124 (fun _ => r 134 0)) 9 (r 26)) 10 (r 27)) 11 (r 28)) 12 (r 29)) 13 (r 30)) 14 (r 31)) 15 (r 32)) 16 (r 33)) 17 (r 34)) 18 (r 35)) 19 (r 36)) 20 (r 37)) 21 (r 38)) 22 (r 39)) 23 (r 40))) n H := by rw [rO_rO] at hW; exact hW
  have hW : q_W E (rO E f M (rp (rp (rp (rp (rp (rp (rp (rp (rp (rp (rp (rp (rp (rp (rp (rp (rp (rp (rp (rp r 120 (fun _ => r 130 0)) 121 (fun _ => r 131 0)) 122 (fun _ => r 132 0)) 123 (fun _ => r 133 0)) 124 (fun _ => r 134 0)) 9 (r 26)) 10 (r 27)) 11 (r 28)) 12 (r 29)) 13 (r 30)) 14 (r 31)) 15 (r 32)) 16 (r 33)) 17 (r 34)) 18 (r 35)) 19 (r 36)) 20 (r 37)) 21 (r 38)) 22 (r 39)) 23 (r 40))) n H := hW
  refine lv_aload_n hx hb dX13_become_205 rfl (lv_at hl 1 rfl) ?_
  refine q_get hx hb hts hown hA hW iX13 rO_25 rfl 20 (by decide) (hts (.fieldLink RX13 57 "HighRecipesModel$Book" "right" "[I") (by decide +kernel)) (fun _ h9 => h9) (v := .ref (M + 41)) rfl dX13_become_206 ?_
  refine lv_aload_n hx hb dX13_become_209 rfl (lv_at hl 0 rfl) ?_
  refine q_get hx hb hts hown hA hW iX13 rO_8 rfl 20 (by decide) (hts (.fieldLink RX13 57 "HighRecipesModel$Book" "right" "[I") (by decide +kernel)) (fun _ h9 => h9) (v := .ref (M + 24)) rfl dX13_become_210 ?_
  refine q_cv (va_runS (As := [.ref (M + 41), .ref (M + 24)]) (rest := []) ⟨hx, hb, hml, hown, hts⟩ (kX13_copy_16 l E (rO E f M (rp (rp (rp (rp (rp (rp (rp (rp (rp (rp (rp (rp (rp (rp (rp (rp (rp (rp (rp (rp r 120 (fun _ => r 130 0)) 121 (fun _ => r 131 0)) 122 (fun _ => r 132 0)) 123 (fun _ => r 133 0)) 124 (fun _ => r 134 0)) 9 (r 26)) 10 (r 27)) 11 (r 28)) 12 (r 29)) 13 (r 30)) 14 (r 31)) 15 (r 32)) 16 (r 33)) 17 (r 34)) 18 (r 35)) 19 (r 36)) 20 (r 37)) 21 (r 38)) 22 (r 39)) 23 (r 40))) n M (rp (rp (rp (rp (rp (rp (rp (rp (rp (rp (rp (rp (rp (rp (rp (rp (rp (rp (rp (rp r 120 (fun _ => r 130 0)) 121 (fun _ => r 131 0)) 122 (fun _ => r 132 0)) 123 (fun _ => r 133 0)) 124 (fun _ => r 134 0)) 9 (r 26)) 10 (r 27)) 11 (r 28)) 12 (r 29)) 13 (r 30)) 14 (r 31)) 15 (r 32)) 16 (r 33)) 17 (r 34)) 18 (r 35)) 19 (r 36)) 20 (r 37)) 21 (r 38)) 22 (r 39)) 23 (r 40)) rO_K) (va_cwS 2 hts gX13_become_X13_copy rfl rfl rfl (by decide +kernel) ⟨(Nat.le_of_ble_eq_true rfl), (Nat.le_of_ble_eq_true rfl)⟩) (q_pS hA hW hS) rfl rfl hl.1 rfl (lv_room (Nat.le_of_ble_eq_true rfl)) dX13_become_213 ⟨Nat.le_of_ble_eq_true rfl, Nat.le_of_ble_eq_true rfl⟩) hS (fun f_213 n_213 H locs hp hW hS => ?_)
  obtain ⟨rfl, rfl⟩ := hp
  have hW : q_W E (rO E f M (rp (rp (rp (rp (rp (rp (rp (rp (rp (rp (rp (rp (rp (rp (rp (rp (rp (rp (rp (rp (rp r 120 (fun _ => r 130 0)) 121 (fun _ => r 131 0)) 122 (fun _ => r 132 0)) 123 (fun _ => r 133 0)) 124 (fun _ => r 134 0)) 9 (r 26)) 10 (r 27)) 11 (r 28)) 12 (r 29)) 13 (r 30)) 14 (r 31)) 15 (r 32)) 16 (r 33)) 17 (r 34)) 18 (r 35)) 19 (r 36)) 20 (r 37)) 21 (r 38)) 22 (r 39)) 23 (r 40)) 24 (r 41))) n H := by rw [rO_rO] at hW; exact hW
  have hW : q_W E (rO E f M (rp (rp (rp (rp (rp (rp (rp (rp (rp (rp (rp (rp (rp (rp (rp (rp (rp (rp (rp (rp (rp r 120 (fun _ => r 130 0)) 121 (fun _ => r 131 0)) 122 (fun _ => r 132 0)) 123 (fun _ => r 133 0)) 124 (fun _ => r 134 0)) 9 (r 26)) 10 (r 27)) 11 (r 28)) 12 (r 29)) 13 (r 30)) 14 (r 31)) 15 (r 32)) 16 (r 33)) 17 (r 34)) 18 (r 35)) 19 (r 36)) 20 (r 37)) 21 (r 38)) 22 (r 39)) 23 (r 40)) 24 (r 41))) n H := hW
  exact q_vret hx hb hr hlocks hW hS ⟨rfl, rfl⟩ (Nat.le_of_ble_eq_true rfl) (Nat.le_of_ble_eq_true rfl) dX13_become_216

set_option maxHeartbeats 4000000 in
set_option maxRecDepth 100000 in
theorem kX14_trim (l : Launch) (E : q_E) (f : q_H) (n : Nat) (M : Nat) (r : q_R) (L j : Nat)  (hm : RM E f M r) (hL : (r 101 0) = nI L) (hL16 : L ≤ 1600) (hj : j ≤ L) : Met l yX14_trim wsX14_trim ({ frames := 1, cells := 0, slots := 0, locals := 22 }) (q_P E [.ref M, .int (nI j)] f n) (q_Qi E (fun r0 f1 n1 => nI j = r0 ∧ rO E f M (rp (rp r 100 (fun _ => 0)) 101 (fun _ => nI j)) = f1 ∧ n = n1)) 0 0 (q_ge E) := by
  refine Met.ofW (cc := cX14_trim) (maxL := 2) (ret := (some .int)) (by decide) rfl ?_
  intro p e s m args below meth c s₁ B hml hv
  obtain ⟨rfl, hA, hW⟩ := hv
  have hx := B.exec
  have hb := B.bytes
  have hr := B.returns
  have hts := atoms_spec (ws := wsX14_trim) B.pre
  have hown : s.vm.findClass RX14 = some m.cls := findClass_of_methodNamed B.named
  have hlocks := B.notSynchronized
  have hS : va_S (q_ge E) s.heap s.heap [] := va_S.rf
  have iX14 : ∀ w ∈ wsX140, w ∈ wsX14_trim := by decide +kernel
  have hl := lv_entry ([.ref M, .int (nI j)]) (n := 2) (Nat.le_of_ble_eq_true rfl)
  rw [lg_entry_eq]
  generalize (lg_sl ([.ref M, .int (nI j)]) ++ List.replicate (2 - (lg_sl ([.ref M, .int (nI j)])).length) Slot.unset).toArray = ls at hl ⊢
  have hl : lv_has ls 2 [(0, .ref M), (1, .int (nI j))] := hl
  have hmE := hm.eq
  rw [hm.eq] at hW
  refine lv_aload_n hx hb dX14_trim_0 rfl (lv_at hl 0 rfl) ?_
  refine lv_iconst (v := 0) hx hb dX14_trim_1 (by decide) ?_
  refine q_put hx hb hts hown hA hW hS iX14 tyX14 tyX14_ok nmX14 rO_0 rfl 0 (by decide) (hts (.fieldLink RX14 54 "HighRecipesModel" "thrown" "I") (by decide +kernel)) (fun _ h9 => h9) rfl rfl rfl (Nat.le_of_ble_eq_true rfl) dX14_trim_2 (fun H locs hW hS => ?_)
  have hW := q_s0 100 (0) hW rfl (by decide)
  refine lv_iload_n hx hb dX14_trim_5 rfl (lv_at hl 1 rfl) ?_
  refine lv_iconst (v := 0) hx hb dX14_trim_6 (by decide) ?_
  refine lv_aload_n hx hb dX14_trim_7 rfl (lv_at hl 0 rfl) ?_
  refine q_get hx hb hts hown hA hW iX14 rO_0 rfl 2 (by decide) (hts (.fieldLink RX14 73 "HighRecipesModel" "bytes" "I") (by decide +kernel)) (fun _ h9 => h9) (v := .int (nI L)) (congrArg (fun z => some (Value.int z)) hL) dX14_trim_8 ?_
  refine q_ci (va_runS (As := [.int (nI j), .int 0, .int (nI L)]) (rest := []) ⟨hx, hb, hml, hown, hts⟩ (kX14_isIn l E (rO E f M (rp r 100 (fun _ => 0))) n (nI j) 0 (nI L)) (va_cwS 3 hts gX14_trim_X14_isIn rfl rfl rfl (by decide +kernel) ⟨(Nat.le_of_ble_eq_true rfl), (Nat.le_of_ble_eq_true rfl)⟩) (q_pS hA hW hS) rfl rfl hl.1 rfl (lv_room (Nat.le_of_ble_eq_true rfl)) dX14_trim_11 ⟨Nat.le_of_ble_eq_true rfl, Nat.le_of_ble_eq_true rfl⟩) hS (fun r_11 f_11 n_11 H locs hp hW hS => ?_)
  obtain ⟨rfl, rfl, rfl⟩ := hp
  have hW : q_W E (rO E f M (rp r 100 (fun _ => 0))) n H := hW
  refine lv_if_ne (tgt := 23) hx hb dX14_trim_14 (by decide) (fun c_14 => ?_) (fun c_14 => False.elim ((fun h9 => absurd h9 (b01_T (b_in_le hj (by omega)))) c_14))
  refine lv_aload_n hx hb dX14_trim_23 rfl (lv_at hl 0 rfl) ?_
  refine lv_iload_n hx hb dX14_trim_24 rfl (lv_at hl 1 rfl) ?_
  refine q_put hx hb hts hown hA hW hS iX14 tyX14 tyX14_ok nmX14 rO_0 rfl 2 (by decide) (hts (.fieldLink RX14 73 "HighRecipesModel" "bytes" "I") (by decide +kernel)) (fun _ h9 => h9) rfl rfl rfl (Nat.le_of_ble_eq_true rfl) dX14_trim_25 (fun H locs hW hS => ?_)
  have hW := q_s0 101 (nI j) hW rfl (by decide)
  refine lv_iload_n hx hb dX14_trim_28 rfl (lv_at hl 1 rfl) ?_
  exact q_iret hx hb hr hlocks hW hS ⟨rfl, rfl, rfl⟩ (Nat.le_of_ble_eq_true rfl) (Nat.le_of_ble_eq_true rfl) dX14_trim_29

set_option maxHeartbeats 4000000 in
set_option maxRecDepth 100000 in
theorem kX14_trim_F (l : Launch) (E : q_E) (f : q_H) (n : Nat) (M : Nat) (r : q_R) (L : Nat) (x : Int32)  (hm : RM E f M r) (hL : (r 101 0) = nI L) (hL16 : L ≤ 1600) (hno : b_in x 0 (nI L) = false) : Met l yX14_trim wsX14_trim ({ frames := 1, cells := 0, slots := 0, locals := 22 }) (q_P E [.ref M, .int x] f n) (q_Qi E (fun r0 f1 n1 => 0 = r0 ∧ rO E f M (rp r 100 (fun _ => 1)) = f1 ∧ n = n1)) 0 0 (q_ge E) := by
  refine Met.ofW (cc := cX14_trim) (maxL := 2) (ret := (some .int)) (by decide) rfl ?_
  intro p e s m args below meth c s₁ B hml hv
  obtain ⟨rfl, hA, hW⟩ := hv
  have hx := B.exec
  have hb := B.bytes
  have hr := B.returns
  have hts := atoms_spec (ws := wsX14_trim) B.pre
  have hown : s.vm.findClass RX14 = some m.cls := findClass_of_methodNamed B.named
  have hlocks := B.notSynchronized
  have hS : va_S (q_ge E) s.heap s.heap [] := va_S.rf
  have iX14 : ∀ w ∈ wsX140, w ∈ wsX14_trim := by decide +kernel
  have hl := lv_entry ([.ref M, .int x]) (n := 2) (Nat.le_of_ble_eq_true rfl)
  rw [lg_entry_eq]
  generalize (lg_sl ([.ref M, .int x]) ++ List.replicate (2 - (lg_sl ([.ref M, .int x])).length) Slot.unset).toArray = ls at hl ⊢
  have hl : lv_has ls 2 [(0, .ref M), (1, .int x)] := hl
  have hmE := hm.eq
  rw [hm.eq] at hW
  refine lv_aload_n hx hb dX14_trim_0 rfl (lv_at hl 0 rfl) ?_
  refine lv_iconst (v := 0) hx hb dX14_trim_1 (by decide) ?_
  refine q_put hx hb hts hown hA hW hS iX14 tyX14 tyX14_ok nmX14 rO_0 rfl 0 (by decide) (hts (.fieldLink RX14 54 "HighRecipesModel" "thrown" "I") (by decide +kernel)) (fun _ h9 => h9) rfl rfl rfl (Nat.le_of_ble_eq_true rfl) dX14_trim_2 (fun H locs hW hS => ?_)
  have hW := q_s0 100 (0) hW rfl (by decide)
  refine lv_iload_n hx hb dX14_trim_5 rfl (lv_at hl 1 rfl) ?_
  refine lv_iconst (v := 0) hx hb dX14_trim_6 (by decide) ?_
  refine lv_aload_n hx hb dX14_trim_7 rfl (lv_at hl 0 rfl) ?_
  refine q_get hx hb hts hown hA hW iX14 rO_0 rfl 2 (by decide) (hts (.fieldLink RX14 73 "HighRecipesModel" "bytes" "I") (by decide +kernel)) (fun _ h9 => h9) (v := .int (nI L)) (congrArg (fun z => some (Value.int z)) hL) dX14_trim_8 ?_
  refine q_ci (va_runS (As := [.int x, .int 0, .int (nI L)]) (rest := []) ⟨hx, hb, hml, hown, hts⟩ (kX14_isIn l E (rO E f M (rp r 100 (fun _ => 0))) n x 0 (nI L)) (va_cwS 3 hts gX14_trim_X14_isIn rfl rfl rfl (by decide +kernel) ⟨(Nat.le_of_ble_eq_true rfl), (Nat.le_of_ble_eq_true rfl)⟩) (q_pS hA hW hS) rfl rfl hl.1 rfl (lv_room (Nat.le_of_ble_eq_true rfl)) dX14_trim_11 ⟨Nat.le_of_ble_eq_true rfl, Nat.le_of_ble_eq_true rfl⟩) hS (fun r_11 f_11 n_11 H locs hp hW hS => ?_)
  obtain ⟨rfl, rfl, rfl⟩ := hp
  have hW : q_W E (rO E f M (rp r 100 (fun _ => 0))) n H := hW
  refine lv_if_ne (tgt := 23) hx hb dX14_trim_14 (by decide) (fun c_14 => False.elim ((fun h9 => h9 (b01_F hno)) c_14)) (fun c_14 => ?_)
  refine lv_aload_n hx hb dX14_trim_17 rfl (lv_at hl 0 rfl) ?_
  refine lv_iconst (v := 1) hx hb dX14_trim_18 (by decide) ?_
  refine q_ci (va_runV (As := [.int 1]) (rest := []) ⟨hx, hb, hml, hown, hts⟩ (kX14_no l E (rO E f M (rp r 100 (fun _ => 0))) n M (rp r 100 (fun _ => 0)) 1 rO_K) (cwV 1 hts gX14_trim_X14_no rfl rfl rfl (by decide +kernel) ⟨(Nat.le_of_ble_eq_true rfl), (Nat.le_of_ble_eq_true rfl)⟩) (q_pV hA hW hS (ci := 12) rfl rO_0) rfl rfl hl.1 rfl (lv_room (Nat.le_of_ble_eq_true rfl)) dX14_trim_19 ⟨Nat.le_of_ble_eq_true rfl, Nat.le_of_ble_eq_true rfl⟩) hS (fun r_19 f_19 n_19 H locs hp hW hS => ?_)
  obtain ⟨rfl, rfl, rfl⟩ := hp
  have hW : q_W E (rO E f M (rp (rp r 100 (fun _ => 0)) 100 (fun _ => 1))) n H := by rw [rO_rO] at hW; exact hW
  rw [rp_d0] at hW
  have hW : q_W E (rO E f M (rp r 100 (fun _ => 1))) n H := hW
  exact q_iret hx hb hr hlocks hW hS ⟨rfl, rfl, rfl⟩ (Nat.le_of_ble_eq_true rfl) (Nat.le_of_ble_eq_true rfl) dX14_trim_22
