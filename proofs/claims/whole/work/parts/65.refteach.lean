/-! the reference is taught -/
theorem mRS_B {B G : q_R} {pn hn hc hi R : Nat} {RS : Nat → q_S} (h : ∀ j, 1 ≤ j → j ≤ 16 → G j = B j) (hm : mRS B pn hn hc hi RS R) : mRS G pn hn hc hi RS R := by
  have e := fun j h1 h2 (q : Nat) => congrFun (h j h1 h2) q
  intro i hi
  obtain ⟨a, m, z⟩ := hm i hi
  refine ⟨a, m, ?_⟩
  rw [e 2 (by decide) (by decide) i]
  exact mL_frame (fun q _ _ => e 10 (by decide) (by decide) q) (Nat.le_refl _) (Nat.le_refl _) (fun a S _ y => mA_frame (fun q _ => e 14 (by decide) (by decide) q) (fun q _ => e 15 (by decide) (by decide) q) (fun q _ => e 16 (by decide) (by decide) q) (Nat.le_refl _) (fun q _ => ⟨e 11 (by decide) (by decide) q, e 12 (by decide) (by decide) q, e 13 (by decide) (by decide) q⟩) (Nat.le_refl _) (Nat.le_refl _) (Nat.le_refl _) (fun _ _ => rfl) 6 a S (fun q _ _ j h3 h9 => e j (by omega) (by omega) q) (fun q _ _ => e 10 (by decide) (by decide) q) y) m _ _ z

set_option maxHeartbeats 4000000 in
set_option maxRecDepth 100000 in
theorem kX14_teach (l : Launch) (E : q_E) (f : q_H) (n : Nat) (M : Nat) (r : q_R) (g : Nat → Int32) (L : Nat) (et n0 : Nat)  (hm : RM E f M r) (htp : r_tp r g L) : Met l yX14_teach wsX14_teach ({ frames := 66, cells := 0, slots := 0, locals := 1644 }) (q_P E [.ref M] f n) (q_Qi E (fun r0 f1 n1 => nI (BKp (t_K g L) (t_W g L) et n0).2.2.1 = r0 ∧ ∃ (r1 : q_R), r1 100 0 = 0 ∧ r1 101 0 = 0 ∧ r1 102 0 = (if (BKp (t_K g L) (t_W g L) et n0).2.2.1 = 0 then -1 else nI (t_P g L (BKp (t_K g L) (t_W g L) et n0).2.2.2.1)) ∧ ((BKp (t_K g L) (t_W g L) et n0).2.2.1 ≠ 0 → ∀ j, ((8 ≤ j ∧ j ≤ 24) ∨ j = 42 ∨ (120 ≤ j ∧ j ≤ 124)) → r1 j = r j) ∧ r1 43 = r 43 ∧ r1 110 = r 110 ∧ r1 111 = r 111 ∧ ((BKp (t_K g L) (t_W g L) et n0).2.2.1 = 0 → r1 120 0 = nI (b_P (t_K g L) (t_W g L) et n0).2.1 ∧ (b_P (t_K g L) (t_W g L) et n0).2.1 ≤ 8 ∧ r1 121 0 = nI (b_R (t_K g L) (t_W g L) et n0).2.1 ∧ (b_R (t_K g L) (t_W g L) et n0).2.1 ≤ 6 ∧ r1 122 0 = nI (min 80 (BKp (t_K g L) (t_W g L) et n0).2.2.2.2.1) ∧ (∀ i, i < (b_P (t_K g L) (t_W g L) et n0).2.1 → r1 9 i = (b_P (t_K g L) (t_W g L) et n0).2.2.2 i) ∧ mRS (bR r1 8) (b_P (t_K g L) (t_W g L) et n0).2.1 400 400 80 (b_R (t_K g L) (t_W g L) et n0).2.2.2 (b_R (t_K g L) (t_W g L) et n0).2.1 ∧ r1 42 = z_ini) ∧ rO E f M r1 = f1 ∧ n = n1)) 0 0 (q_ge E) := by
  refine Met.ofW (cc := cX14_teach) (maxL := 1) (ret := (some .int)) (by decide) rfl ?_
  intro p e s m args below meth c s₁ B hml hv
  obtain ⟨rfl, hA, hW⟩ := hv
  have hx := B.exec
  have hb := B.bytes
  have hr := B.returns
  have hts := atoms_spec (ws := wsX14_teach) B.pre
  have hown : s.vm.findClass RX14 = some m.cls := findClass_of_methodNamed B.named
  have hlocks := B.notSynchronized
  have hS : va_S (q_ge E) s.heap s.heap [] := va_S.rf
  have iX14 : ∀ w ∈ wsX140, w ∈ wsX14_teach := by decide +kernel
  have hl := lv_entry ([.ref M]) (n := 1) (Nat.le_of_ble_eq_true rfl)
  rw [lg_entry_eq]
  generalize (lg_sl ([.ref M]) ++ List.replicate (1 - (lg_sl ([.ref M])).length) Slot.unset).toArray = ls at hl ⊢
  have hl : lv_has ls 1 [(0, .ref M)] := hl
  have hmE := hm.eq
  rw [hm.eq] at hW
  refine lv_aload_n hx hb dX14_teach_0 rfl (lv_at hl 0 rfl) ?_
  refine lv_iconst (v := 0) hx hb dX14_teach_1 (by decide) ?_
  refine q_put hx hb hts hown hA hW hS iX14 tyX14 tyX14_ok nmX14 rO_0 rfl 0 (by decide) (hts (.fieldLink RX14 54 "HighRecipesModel" "thrown" "I") (by decide +kernel)) (fun _ h9 => h9) rfl rfl rfl (Nat.le_of_ble_eq_true rfl) dX14_teach_2 (fun H locs hW hS => ?_)
  have hW := q_s0 100 (0) hW rfl (by decide)
  refine lv_aload_n hx hb dX14_teach_5 rfl (lv_at hl 0 rfl) ?_
  refine lv_iconst (v := 0) hx hb dX14_teach_6 (by decide) ?_
  refine q_put hx hb hts hown hA hW hS iX14 tyX14 tyX14_ok nmX14 rO_0 rfl 8 (by decide) (hts (.fieldLink RX14 120 "HighRecipesModel" "token" "I") (by decide +kernel)) (fun _ h9 => h9) rfl rfl rfl (Nat.le_of_ble_eq_true rfl) dX14_teach_7 (fun H locs hW hS => ?_)
  have hW := q_s0 103 (0) hW rfl (by decide)
  refine lv_aload_n hx hb dX14_teach_10 rfl (lv_at hl 0 rfl) ?_
  refine lv_iconst (v := 0) hx hb dX14_teach_11 (by decide) ?_
  refine q_put hx hb hts hown hA hW hS iX14 tyX14 tyX14_ok nmX14 rO_0 rfl 9 (by decide) (hts (.fieldLink RX14 116 "HighRecipesModel" "isWrong" "Z") (by decide +kernel)) (fun _ h9 => h9) rfl rfl rfl (Nat.le_of_ble_eq_true rfl) dX14_teach_12 (fun H locs hW hS => ?_)
  have hW := q_s0 104 (0) hW rfl (by decide)
  refine lv_aload_n hx hb dX14_teach_15 rfl (lv_at hl 0 rfl) ?_
  refine lv_iconst (v := 0) hx hb dX14_teach_16 (by decide) ?_
  refine q_put hx hb hts hown hA hW hS iX14 tyX14 tyX14_ok nmX14 rO_0 rfl 10 (by decide) (hts (.fieldLink RX14 123 "HighRecipesModel" "error" "I") (by decide +kernel)) (fun _ h9 => h9) rfl rfl rfl (Nat.le_of_ble_eq_true rfl) dX14_teach_17 (fun H locs hW hS => ?_)
  have hW := q_s0 105 (0) hW rfl (by decide)
  refine lv_aload_n hx hb dX14_teach_20 rfl (lv_at hl 0 rfl) ?_
  refine lv_iconst (v := 0) hx hb dX14_teach_21 (by decide) ?_
  refine q_put hx hb hts hown hA hW hS iX14 tyX14 tyX14_ok nmX14 rO_0 rfl 12 (by decide) (hts (.fieldLink RX14 206 "HighRecipesModel" "blocksOpen" "I") (by decide +kernel)) (fun _ h9 => h9) rfl rfl rfl (Nat.le_of_ble_eq_true rfl) dX14_teach_22 (fun H locs hW hS => ?_)
  have hW := q_s0 107 (0) hW rfl (by decide)
  refine lv_aload_n hx hb dX14_teach_25 rfl (lv_at hl 0 rfl) ?_
  refine lv_iconst (v := 0) hx hb dX14_teach_26 (by decide) ?_
  refine q_put hx hb hts hown hA hW hS iX14 tyX14 tyX14_ok nmX14 rO_0 rfl 13 (by decide) (hts (.fieldLink RX14 171 "HighRecipesModel" "valuesOpen" "I") (by decide +kernel)) (fun _ h9 => h9) rfl rfl rfl (Nat.le_of_ble_eq_true rfl) dX14_teach_27 (fun H locs hW hS => ?_)
  have hW := q_s0 108 (0) hW rfl (by decide)
  refine lv_aload_n hx hb dX14_teach_30 rfl (lv_at hl 0 rfl) ?_
  refine lv_iconst (v := 0) hx hb dX14_teach_31 (by decide) ?_
  refine q_put hx hb hts hown hA hW hS iX14 tyX14 tyX14_ok nmX14 rO_0 rfl 16 (by decide) (hts (.fieldLink RX14 253 "HighRecipesModel" "ended" "I") (by decide +kernel)) (fun _ h9 => h9) rfl rfl rfl (Nat.le_of_ble_eq_true rfl) dX14_teach_32 (fun H locs hW hS => ?_)
  have hW := q_s0 109 (0) hW rfl (by decide)
  refine lv_aload_n hx hb dX14_teach_35 rfl (lv_at hl 0 rfl) ?_
  refine q_get hx hb hts hown hA hW iX14 rO_0 rfl 18 (by decide) (hts (.fieldLink RX14 42 "HighRecipesModel" "fresh" "LHighRecipesModel$Book;") (by decide +kernel)) (fun _ h9 => h9) (v := .ref (M + 25)) rfl dX14_teach_36 ?_
  refine q_cv (va_runV (As := []) (rest := []) ⟨hx, hb, hml, hown, hts⟩ (kX13_begin l E (rO E f M (rp (rp (rp (rp (rp (rp (rp r 100 (fun _ => 0)) 103 (fun _ => 0)) 104 (fun _ => 0)) 105 (fun _ => 0)) 107 (fun _ => 0)) 108 (fun _ => 0)) 109 (fun _ => 0))) n M (rp (rp (rp (rp (rp (rp (rp r 100 (fun _ => 0)) 103 (fun _ => 0)) 104 (fun _ => 0)) 105 (fun _ => 0)) 107 (fun _ => 0)) 108 (fun _ => 0)) 109 (fun _ => 0)) rO_K) (cwV 0 hts gX14_teach_X13_begin rfl rfl rfl (by decide +kernel) ⟨(Nat.le_of_ble_eq_true rfl), (Nat.le_of_ble_eq_true rfl)⟩) (q_pV hA hW hS (ci := 11) rfl rO_25) rfl rfl hl.1 rfl (lv_room (Nat.le_of_ble_eq_true rfl)) dX14_teach_39 ⟨Nat.le_of_ble_eq_true rfl, Nat.le_of_ble_eq_true rfl⟩) hS (fun f_39 n_39 H locs hp hW hS => ?_)
  obtain ⟨rfl, rfl⟩ := hp
  have hW : q_W E (rO E f M (rp (rp (rp (rp (rp (rp (rp (rp (rp (rp (rp (rp r 100 (fun _ => 0)) 103 (fun _ => 0)) 104 (fun _ => 0)) 105 (fun _ => 0)) 107 (fun _ => 0)) 108 (fun _ => 0)) 109 (fun _ => 0)) 130 (fun _ => 0)) 131 (fun _ => 0)) 132 (fun _ => 0)) 133 (fun _ => 0)) 134 (fun _ => 0))) n H := by rw [rO_rO] at hW; exact hW
  have hW : q_W E (rO E f M (rp (rp (rp (rp (rp (rp (rp (rp (rp (rp (rp (rp r 100 (fun _ => 0)) 103 (fun _ => 0)) 104 (fun _ => 0)) 105 (fun _ => 0)) 107 (fun _ => 0)) 108 (fun _ => 0)) 109 (fun _ => 0)) 130 (fun _ => 0)) 131 (fun _ => 0)) 132 (fun _ => 0)) 133 (fun _ => 0)) 134 (fun _ => 0))) n H := hW
  obtain ⟨R_42, hR_42⟩ : ∃ z, z = rp (rp (rp (rp (rp (rp (rp (rp (rp (rp (rp (rp r 100 (fun _ => 0)) 103 (fun _ => 0)) 104 (fun _ => 0)) 105 (fun _ => 0)) 107 (fun _ => 0)) 108 (fun _ => 0)) 109 (fun _ => 0)) 130 (fun _ => 0)) 131 (fun _ => 0)) 132 (fun _ => 0)) 133 (fun _ => 0)) 134 (fun _ => 0) := ⟨_, rfl⟩
  rw [← hR_42] at hW
  have htp42 : r_tp R_42 g L := by rw [hR_42]; exact htp
  have f42 : ∀ j, (j ≤ 5 ∨ (8 ≤ j ∧ j ≤ 24) ∨ (42 ≤ j ∧ j ≤ 43) ∨ (101 ≤ j ∧ j ≤ 102) ∨ (110 ≤ j ∧ j ≤ 124)) → R_42 j = r j := fun j hj => by rw [hR_42]; exact (rp_n (by omega)).trans ((rp_n (by omega)).trans ((rp_n (by omega)).trans ((rp_n (by omega)).trans ((rp_n (by omega)).trans ((rp_n (by omega)).trans ((rp_n (by omega)).trans ((rp_n (by omega)).trans ((rp_n (by omega)).trans ((rp_n (by omega)).trans ((rp_n (by omega)).trans ((rp_n (by omega)).trans (rfl))))))))))))
  have k103 : R_42 103 0 = 0 := by rw [hR_42]; rfl
  have k104 : R_42 104 0 = 0 := by rw [hR_42]; rfl
  have k105 : R_42 105 0 = 0 := by rw [hR_42]; rfl
  have k107 : R_42 107 0 = 0 := by rw [hR_42]; rfl
  have k108 : R_42 108 0 = 0 := by rw [hR_42]; rfl
  have k109 : R_42 109 0 = 0 := by rw [hR_42]; rfl
  have k130 : R_42 130 0 = 0 := by rw [hR_42]; rfl
  have k131 : R_42 131 0 = 0 := by rw [hR_42]; rfl
  have k132 : R_42 132 0 = 0 := by rw [hR_42]; rfl
  have k133 : R_42 133 0 = 0 := by rw [hR_42]; rfl
  have k134 : R_42 134 0 = 0 := by rw [hR_42]; rfl
  have k100 : R_42 100 0 = 0 := by rw [hR_42]; rfl
  refine lv_aload_n hx hb dX14_teach_42 rfl (lv_at hl 0 rfl) ?_
  refine q_cv (va_runV (As := []) (rest := []) ⟨hx, hb, hml, hown, hts⟩ (kX14_readAll l E (rO E f M R_42) n M R_42 g L rO_K htp42) (cwV 0 hts gX14_teach_X14_readAll rfl rfl rfl (by decide +kernel) ⟨(Nat.le_of_ble_eq_true rfl), (Nat.le_of_ble_eq_true rfl)⟩) (q_pV hA hW hS (ci := 12) rfl rO_0) rfl rfl hl.1 rfl (lv_room (Nat.le_of_ble_eq_true rfl)) dX14_teach_43 ⟨Nat.le_of_ble_eq_true rfl, Nat.le_of_ble_eq_true rfl⟩) hS (fun f_43 n_43 H locs hp hW hS => ?_)
  obtain ⟨R_43, T9, hT9, hK9, hne9, hTK9, hP9, xo, rfl, rfl⟩ := hp
  rw [rO_rO] at hW
  have hW : q_W E (rO E f M R_43) n H := hW
  have m43 : ∀ j, 5 < j → R_43 j 0 = R_42 j 0 := fun j hj => congrFun (xo j (Or.inr hj)) 0
  have hPP : r_P R_43 (t_K g L) T9 (0, t_K g L 0, 0, et, 0, n0) 0 0 0 0 := ⟨⟨(m43 103 (by decide)).trans k103, Nat.zero_le _, (m43 134 (by decide)).trans k134, Nat.le_refl _, (m43 133 (by decide)).trans k133, Nat.le_refl _, (m43 132 (by decide)).trans k132, Nat.zero_le _⟩, Or.inr ⟨(m43 104 (by decide)).trans k104, rfl, rfl, (m43 105 (by decide)).trans k105, fun h9 => absurd rfl h9, rfl⟩⟩
  have hok9 : p_ok (t_K g L) T9 (0, t_K g L 0, 0, et, 0, n0) := ⟨Nat.zero_le _, Or.inr rfl, Nat.zero_le _, fun h9 => absurd rfl h9, Nat.le_refl _⟩
  refine lv_aload_n hx hb dX14_teach_46 rfl (lv_at hl 0 rfl) ?_
  refine q_cv (va_runV (As := []) (rest := []) ⟨hx, hb, hml, hown, hts⟩ (kX14_book l E (rO E f M R_43) n M R_43 (t_K g L) (t_W g L) T9 (0, t_K g L 0, 0, et, 0, n0) 0 0 0 0 et n0 rO_K hTK9 hT9 (by omega) (fun _ => t_K_lt) hPP hok9 rfl ((m43 109 (by decide)).trans k109) ((m43 130 (by decide)).trans k130) ((m43 131 (by decide)).trans k131) ((m43 107 (by decide)).trans k107) ((m43 108 (by decide)).trans k108)) (cwV 0 hts gX14_teach_X14_book rfl rfl rfl (by decide +kernel) ⟨(Nat.le_of_ble_eq_true rfl), (Nat.le_of_ble_eq_true rfl)⟩) (q_pV hA hW hS (ci := 12) rfl rO_0) rfl rfl hl.1 rfl (lv_room (Nat.le_of_ble_eq_true rfl)) dX14_teach_47 ⟨Nat.le_of_ble_eq_true rfl, Nat.le_of_ble_eq_true rfl⟩) hS (fun f_47 n_47 H locs hp hW hS => ?_)
  obtain ⟨R_47, xb, e105, e106, okB, gd, rfl, rfl⟩ := hp
  rw [rO_rO] at hW
  have hW : q_W E (rO E f M R_47) n H := hW
  have h5 := okB.2.2.1
  have f47 : ∀ j, ((8 ≤ j ∧ j ≤ 24) ∨ (42 ≤ j ∧ j ≤ 43) ∨ (101 ≤ j ∧ j ≤ 102) ∨ (110 ≤ j ∧ j ≤ 124)) → R_47 j = r j := fun j hj => (xb j (by omega)).trans ((xo j (by omega)).trans (f42 j (by omega)))
  refine lv_aload_n hx hb dX14_teach_50 rfl (lv_at hl 0 rfl) ?_
  refine lv_iconst (v := 0) hx hb dX14_teach_51 (by decide) ?_
  refine q_put hx hb hts hown hA hW hS iX14 tyX14 tyX14_ok nmX14 rO_0 rfl 2 (by decide) (hts (.fieldLink RX14 73 "HighRecipesModel" "bytes" "I") (by decide +kernel)) (fun _ h9 => h9) rfl rfl rfl (Nat.le_of_ble_eq_true rfl) dX14_teach_52 (fun H locs hW hS => ?_)
  have hW := q_s0 101 (0) hW rfl (by decide)
  refine lv_aload_n hx hb dX14_teach_55 rfl (lv_at hl 0 rfl) ?_
  refine lv_aload_n hx hb dX14_teach_56 rfl (lv_at hl 0 rfl) ?_
  refine q_get hx hb hts hown hA hW iX14 rO_0 rfl 10 (by decide) (hts (.fieldLink RX14 123 "HighRecipesModel" "error" "I") (by decide +kernel)) (fun _ h9 => h9) (v := .int (nI (BKp (t_K g L) (t_W g L) et n0).2.2.1)) (congrArg (fun z => some (Value.int z)) e105) dX14_teach_57 ?_
  refine lv_if_ne (tgt := 67) hx hb dX14_teach_60 (by decide) (fun c_60 => ?_) (fun c_60 => ?_)
  · have er : ¬ (BKp (t_K g L) (t_W g L) et n0).2.2.1 = 0 := fun h9 => c_60 (by rw [h9]; rfl)
    refine lv_aload_n hx hb dX14_teach_67 rfl (lv_at hl 0 rfl) ?_
    refine q_get hx hb hts hown hA hW iX14 rO_0 rfl 6 (by decide) (hts (.fieldLink RX14 23 "HighRecipesModel" "position" "[I") (by decide +kernel)) (fun _ h9 => h9) (v := .ref (M + 4)) rfl dX14_teach_68 ?_
    refine lv_aload_n hx hb dX14_teach_71 rfl (lv_at hl 0 rfl) ?_
    refine q_get hx hb hts hown hA hW iX14 rO_0 rfl 11 (by decide) (hts (.fieldLink RX14 126 "HighRecipesModel" "errorToken" "I") (by decide +kernel)) (fun _ h9 => h9) (v := .int (nI (BKp (t_K g L) (t_W g L) et n0).2.2.2.1)) (congrArg (fun z => some (Value.int z)) (e106 er)) dX14_teach_72 ?_
    refine q_ald hx hb hA hW (rO_4 (g := R_47 4) rfl) ((BKp (t_K g L) (t_W g L) et n0).2.2.2.1) rfl (by have z := okB.2.2.2.1 er; omega) (by decide) (x := nI (t_P g L (BKp (t_K g L) (t_W g L) et n0).2.2.2.1)) (by rw [xb 4 (by omega)]; exact hP9 _ (okB.2.2.2.1 er)) dX14_teach_75 ?_
    refine q_put hx hb hts hown hA hW hS iX14 tyX14 tyX14_ok nmX14 rO_0 rfl 3 (by decide) (hts (.fieldLink RX14 13 "HighRecipesModel" "errorAt" "I") (by decide +kernel)) (fun _ h9 => h9) rfl rfl rfl (Nat.le_of_ble_eq_true rfl) dX14_teach_76 (fun H locs hW hS => ?_)
    have hW := q_s0 102 (nI (t_P g L (BKp (t_K g L) (t_W g L) et n0).2.2.2.1)) hW rfl (by decide)
    refine lv_aload_n hx hb dX14_teach_79 rfl (lv_at hl 0 rfl) ?_
    refine q_get hx hb hts hown hA hW iX14 rO_0 rfl 10 (by decide) (hts (.fieldLink RX14 123 "HighRecipesModel" "error" "I") (by decide +kernel)) (fun _ h9 => h9) (v := .int (nI (BKp (t_K g L) (t_W g L) et n0).2.2.1)) (congrArg (fun z => some (Value.int z)) e105) dX14_teach_80 ?_
    refine lv_if_eq (tgt := 91) hx hb dX14_teach_83 (by decide) (fun c_83 => False.elim ((fun h9 => er ((nI_eq (b := 0) (by omega) (by decide)).1 h9)) c_83)) (fun c_83 => ?_)
    refine lv_aload_n hx hb dX14_teach_86 rfl (lv_at hl 0 rfl) ?_
    refine q_get hx hb hts hown hA hW iX14 rO_0 rfl 10 (by decide) (hts (.fieldLink RX14 123 "HighRecipesModel" "error" "I") (by decide +kernel)) (fun _ h9 => h9) (v := .int (nI (BKp (t_K g L) (t_W g L) et n0).2.2.1)) (congrArg (fun z => some (Value.int z)) e105) dX14_teach_87 ?_
    exact q_iret hx hb hr hlocks hW hS ⟨rfl, (rp (rp R_47 101 (fun _ => 0)) 102 (fun _ => nI (t_P g L (BKp (t_K g L) (t_W g L) et n0).2.2.2.1))), ((congrFun (xb 100 (by omega)) 0).trans ((m43 100 (by decide)).trans k100)), rfl, (if_neg er).symm, (fun _ j hj => (rp_n (by omega)).trans ((rp_n (by omega)).trans (f47 j (by omega)))), (f47 43 (by decide)), (f47 110 (by decide)), (f47 111 (by decide)), (fun h9 => absurd h9 er), rfl, rfl⟩ (Nat.le_of_ble_eq_true rfl) (Nat.le_of_ble_eq_true rfl) dX14_teach_90
  · have er : (BKp (t_K g L) (t_W g L) et n0).2.2.1 = 0 := (nI_eq (b := 0) (by omega) (by decide)).1 c_60
    refine lv_iconst (v := (-1)) hx hb dX14_teach_63 (by decide) ?_
    refine lv_goto (tgt := 76) hx hb dX14_teach_64 (by decide) ?_
    refine q_put hx hb hts hown hA hW hS iX14 tyX14 tyX14_ok nmX14 rO_0 rfl 3 (by decide) (hts (.fieldLink RX14 13 "HighRecipesModel" "errorAt" "I") (by decide +kernel)) (fun _ h9 => h9) rfl rfl rfl (Nat.le_of_ble_eq_true rfl) dX14_teach_76 (fun H locs hW hS => ?_)
    have hW := q_s0 102 ((-1)) hW rfl (by decide)
    refine lv_aload_n hx hb dX14_teach_79 rfl (lv_at hl 0 rfl) ?_
    refine q_get hx hb hts hown hA hW iX14 rO_0 rfl 10 (by decide) (hts (.fieldLink RX14 123 "HighRecipesModel" "error" "I") (by decide +kernel)) (fun _ h9 => h9) (v := .int (nI (BKp (t_K g L) (t_W g L) et n0).2.2.1)) (congrArg (fun z => some (Value.int z)) e105) dX14_teach_80 ?_
    refine lv_if_eq (tgt := 91) hx hb dX14_teach_83 (by decide) (fun c_83 => ?_) (fun c_83 => False.elim ((fun h9 => h9 (by rw [er]; rfl)) c_83))
    refine lv_aload_n hx hb dX14_teach_91 rfl (lv_at hl 0 rfl) ?_
    refine q_get hx hb hts hown hA hW iX14 rO_0 rfl 17 (by decide) (hts (.fieldLink RX14 38 "HighRecipesModel" "told" "LHighRecipesModel$Book;") (by decide +kernel)) (fun _ h9 => h9) (v := .ref (M + 8)) rfl dX14_teach_92 ?_
    refine lv_aload_n hx hb dX14_teach_95 rfl (lv_at hl 0 rfl) ?_
    refine q_get hx hb hts hown hA hW iX14 rO_0 rfl 18 (by decide) (hts (.fieldLink RX14 42 "HighRecipesModel" "fresh" "LHighRecipesModel$Book;") (by decide +kernel)) (fun _ h9 => h9) (v := .ref (M + 25)) rfl dX14_teach_96 ?_
    refine q_cv (va_runV (As := [.ref (M + 25)]) (rest := []) ⟨hx, hb, hml, hown, hts⟩ (kX13_become l E (rO E f M (rp (rp R_47 101 (fun _ => 0)) 102 (fun _ => (-1)))) n M (rp (rp R_47 101 (fun _ => 0)) 102 (fun _ => (-1))) rO_K) (cwV 1 hts gX14_teach_X13_become rfl rfl rfl (by decide +kernel) ⟨(Nat.le_of_ble_eq_true rfl), (Nat.le_of_ble_eq_true rfl)⟩) (q_pV hA hW hS (ci := 11) rfl rO_8) rfl rfl hl.1 rfl (lv_room (Nat.le_of_ble_eq_true rfl)) dX14_teach_99 ⟨Nat.le_of_ble_eq_true rfl, Nat.le_of_ble_eq_true rfl⟩) hS (fun f_99 n_99 H locs hp hW hS => ?_)
    obtain ⟨rfl, rfl⟩ := hp
    have hW : q_W E (rO E f M (rp (rp (rp (rp (rp (rp (rp (rp (rp (rp (rp (rp (rp (rp (rp (rp (rp (rp (rp (rp (rp (rp (rp R_47 101 (fun _ => 0)) 102 (fun _ => (-1))) 120 (fun _ => (R_47 130 0))) 121 (fun _ => (R_47 131 0))) 122 (fun _ => (R_47 132 0))) 123 (fun _ => (R_47 133 0))) 124 (fun _ => (R_47 134 0))) 9 (R_47 26)) 10 (R_47 27)) 11 (R_47 28)) 12 (R_47 29)) 13 (R_47 30)) 14 (R_47 31)) 15 (R_47 32)) 16 (R_47 33)) 17 (R_47 34)) 18 (R_47 35)) 19 (R_47 36)) 20 (R_47 37)) 21 (R_47 38)) 22 (R_47 39)) 23 (R_47 40)) 24 (R_47 41))) n H := by rw [rO_rO] at hW; exact hW
    have hW : q_W E (rO E f M (rp (rp (rp (rp (rp (rp (rp (rp (rp (rp (rp (rp (rp (rp (rp (rp (rp (rp (rp (rp (rp (rp (rp R_47 101 (fun _ => 0)) 102 (fun _ => (-1))) 120 (fun _ => (R_47 130 0))) 121 (fun _ => (R_47 131 0))) 122 (fun _ => (R_47 132 0))) 123 (fun _ => (R_47 133 0))) 124 (fun _ => (R_47 134 0))) 9 (R_47 26)) 10 (R_47 27)) 11 (R_47 28)) 12 (R_47 29)) 13 (R_47 30)) 14 (R_47 31)) 15 (R_47 32)) 16 (R_47 33)) 17 (R_47 34)) 18 (R_47 35)) 19 (R_47 36)) 20 (R_47 37)) 21 (R_47 38)) 22 (R_47 39)) 23 (R_47 40)) 24 (R_47 41))) n H := hW
    refine lv_aload_n hx hb dX14_teach_102 rfl (lv_at hl 0 rfl) ?_
    refine q_cv (va_runV (As := []) (rest := []) ⟨hx, hb, hml, hown, hts⟩ (kX14_anew l E (rO E f M (rp (rp (rp (rp (rp (rp (rp (rp (rp (rp (rp (rp (rp (rp (rp (rp (rp (rp (rp (rp (rp (rp (rp R_47 101 (fun _ => 0)) 102 (fun _ => (-1))) 120 (fun _ => (R_47 130 0))) 121 (fun _ => (R_47 131 0))) 122 (fun _ => (R_47 132 0))) 123 (fun _ => (R_47 133 0))) 124 (fun _ => (R_47 134 0))) 9 (R_47 26)) 10 (R_47 27)) 11 (R_47 28)) 12 (R_47 29)) 13 (R_47 30)) 14 (R_47 31)) 15 (R_47 32)) 16 (R_47 33)) 17 (R_47 34)) 18 (R_47 35)) 19 (R_47 36)) 20 (R_47 37)) 21 (R_47 38)) 22 (R_47 39)) 23 (R_47 40)) 24 (R_47 41))) n M (rp (rp (rp (rp (rp (rp (rp (rp (rp (rp (rp (rp (rp (rp (rp (rp (rp (rp (rp (rp (rp (rp (rp R_47 101 (fun _ => 0)) 102 (fun _ => (-1))) 120 (fun _ => (R_47 130 0))) 121 (fun _ => (R_47 131 0))) 122 (fun _ => (R_47 132 0))) 123 (fun _ => (R_47 133 0))) 124 (fun _ => (R_47 134 0))) 9 (R_47 26)) 10 (R_47 27)) 11 (R_47 28)) 12 (R_47 29)) 13 (R_47 30)) 14 (R_47 31)) 15 (R_47 32)) 16 (R_47 33)) 17 (R_47 34)) 18 (R_47 35)) 19 (R_47 36)) 20 (R_47 37)) 21 (R_47 38)) 22 (R_47 39)) 23 (R_47 40)) 24 (R_47 41)) rO_K) (cwV 0 hts gX14_teach_X14_anew rfl rfl rfl (by decide +kernel) ⟨(Nat.le_of_ble_eq_true rfl), (Nat.le_of_ble_eq_true rfl)⟩) (q_pV hA hW hS (ci := 12) rfl rO_0) rfl rfl hl.1 rfl (lv_room (Nat.le_of_ble_eq_true rfl)) dX14_teach_103 ⟨Nat.le_of_ble_eq_true rfl, Nat.le_of_ble_eq_true rfl⟩) hS (fun f_103 n_103 H locs hp hW hS => ?_)
    obtain ⟨rfl, rfl⟩ := hp
    have hW : q_W E (rO E f M (rp (rp (rp (rp (rp (rp (rp (rp (rp (rp (rp (rp (rp (rp (rp (rp (rp (rp (rp (rp (rp (rp (rp (rp R_47 101 (fun _ => 0)) 102 (fun _ => (-1))) 120 (fun _ => (R_47 130 0))) 121 (fun _ => (R_47 131 0))) 122 (fun _ => (R_47 132 0))) 123 (fun _ => (R_47 133 0))) 124 (fun _ => (R_47 134 0))) 9 (R_47 26)) 10 (R_47 27)) 11 (R_47 28)) 12 (R_47 29)) 13 (R_47 30)) 14 (R_47 31)) 15 (R_47 32)) 16 (R_47 33)) 17 (R_47 34)) 18 (R_47 35)) 19 (R_47 36)) 20 (R_47 37)) 21 (R_47 38)) 22 (R_47 39)) 23 (R_47 40)) 24 (R_47 41)) 42 z_ini)) n H := by rw [rO_rO] at hW; exact hW
    have hW : q_W E (rO E f M (rp (rp (rp (rp (rp (rp (rp (rp (rp (rp (rp (rp (rp (rp (rp (rp (rp (rp (rp (rp (rp (rp (rp (rp R_47 101 (fun _ => 0)) 102 (fun _ => (-1))) 120 (fun _ => (R_47 130 0))) 121 (fun _ => (R_47 131 0))) 122 (fun _ => (R_47 132 0))) 123 (fun _ => (R_47 133 0))) 124 (fun _ => (R_47 134 0))) 9 (R_47 26)) 10 (R_47 27)) 11 (R_47 28)) 12 (R_47 29)) 13 (R_47 30)) 14 (R_47 31)) 15 (R_47 32)) 16 (R_47 33)) 17 (R_47 34)) 18 (R_47 35)) 19 (R_47 36)) 20 (R_47 37)) 21 (R_47 38)) 22 (R_47 39)) 23 (R_47 40)) 24 (R_47 41)) 42 z_ini)) n H := hW
    refine lv_iconst (v := 0) hx hb dX14_teach_106 (by decide) ?_
    exact q_iret hx hb hr hlocks hW hS ⟨by rw [er]; rfl, (rp (rp (rp (rp (rp (rp (rp (rp (rp (rp (rp (rp (rp (rp (rp (rp (rp (rp (rp (rp (rp (rp (rp (rp R_47 101 (fun _ => 0)) 102 (fun _ => (-1))) 120 (fun _ => (R_47 130 0))) 121 (fun _ => (R_47 131 0))) 122 (fun _ => (R_47 132 0))) 123 (fun _ => (R_47 133 0))) 124 (fun _ => (R_47 134 0))) 9 (R_47 26)) 10 (R_47 27)) 11 (R_47 28)) 12 (R_47 29)) 13 (R_47 30)) 14 (R_47 31)) 15 (R_47 32)) 16 (R_47 33)) 17 (R_47 34)) 18 (R_47 35)) 19 (R_47 36)) 20 (R_47 37)) 21 (R_47 38)) 22 (R_47 39)) 23 (R_47 40)) 24 (R_47 41)) 42 z_ini), ((congrFun (xb 100 (by omega)) 0).trans ((m43 100 (by decide)).trans k100)), rfl, (if_pos er).symm, (fun h9 => absurd er h9), (f47 43 (by decide)), (f47 110 (by decide)), (f47 111 (by decide)), (fun _ => by obtain ⟨y1, y2, y3, y4, y5, y6, y7⟩ := gd er; refine ⟨y1, y2, y3, y4, y5, y6, ?_, rfl⟩; refine mRS_B ?_ y7; intro j h1 h2; unfold bR; rw [if_pos h2, if_pos h2]; rcases (by omega : j = 1 ∨ j = 2 ∨ j = 3 ∨ j = 4 ∨ j = 5 ∨ j = 6 ∨ j = 7 ∨ j = 8 ∨ j = 9 ∨ j = 10 ∨ j = 11 ∨ j = 12 ∨ j = 13 ∨ j = 14 ∨ j = 15 ∨ j = 16) with rfl | rfl | rfl | rfl | rfl | rfl | rfl | rfl | rfl | rfl | rfl | rfl | rfl | rfl | rfl | rfl <;> rfl), rfl, rfl⟩ (Nat.le_of_ble_eq_true rfl) (Nat.le_of_ble_eq_true rfl) dX14_teach_107
