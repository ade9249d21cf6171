/-! the law's dice and values -/
theorem and31 (x : Int32) : ∃ t, t < 2 ^ 31 ∧ x &&& 2147483647 = nI t := by
  refine ⟨x.toBitVec.toNat % 2 ^ 31, Nat.mod_lt _ (by decide), ?_⟩
  apply Int32.toBitVec_inj.1
  show x.toBitVec &&& (2147483647 : Int32).toBitVec = BitVec.ofNat 32 (x.toBitVec.toNat % 2 ^ 31)
  apply BitVec.eq_of_toNat_eq
  rw [BitVec.toNat_and, BitVec.toNat_ofNat, show (2147483647 : Int32).toBitVec.toNat = 2 ^ 31 - 1 from by decide, Nat.and_two_pow_sub_one_eq_mod]
  exact (Nat.mod_eq_of_lt (Nat.lt_trans (Nat.mod_lt _ (by decide)) (by decide))).symm
theorem ch97 : ∀ k, k < 26 → ((97 + nI k).toUInt32 % 65536).toInt32 = nI (97 + k) := by decide +kernel

set_option maxHeartbeats 4000000 in
set_option maxRecDepth 100000 in
theorem kL_below (l : Launch) (E : q_E) (f : q_H) (n : Nat) (x : Int32) (N : Nat)  (hN : 0 < N) (hN2 : N < 2 ^ 31) : Met l yL_below wsL_below ({ frames := 0, cells := 0, slots := 0, locals := 0 }) (q_P E [.int x, .int (nI N)] f n) (q_Qi E (fun r0 f1 n1 => ∃ (j : Nat), nI j = r0 ∧ j < N ∧ n1 = n ∧ f1 = f)) 0 0 (q_ge E) := by
  refine Met.ofW (cc := cL_below) (maxL := 2) (ret := (some .int)) (by decide) rfl ?_
  intro p0_ e0_ s0_ m0_ args0_ below0_ meth0_ c0_ s1_ B hml hv
  obtain ⟨rfl, hA, hW⟩ := hv
  have hx := B.exec
  have hb := B.bytes
  have hr := B.returns
  have hts := atoms_spec (ws := wsL_below) B.pre
  have hown : s0_.vm.findClass RL = some m0_.cls := findClass_of_methodNamed B.named
  have hlocks := B.notSynchronized
  have hS : va_S (q_ge E) s0_.heap s0_.heap [] := va_S.rf
  have hl := lv_entry ([.int x, .int (nI N)]) (n := 2) (Nat.le_of_ble_eq_true rfl)
  rw [lg_entry_eq]
  generalize (lg_sl ([.int x, .int (nI N)]) ++ List.replicate (2 - (lg_sl ([.int x, .int (nI N)])).length) Slot.unset).toArray = ls at hl ⊢
  have hl : lv_has ls 2 [(0, .int x), (1, .int (nI N))] := hl
  obtain ⟨t, ht, et⟩ := and31 x
  refine lv_iload_n hx hb dL_below_0 rfl (lv_at hl 0 rfl) ?_
  refine lv_ldc hx hb hown (hts (.constant RL 7 (2147483647)) (by decide +kernel)) dL_below_1 ?_
  refine lv_iand hx hb dL_below_3 ?_
  rw [et]
  refine lv_iload_n hx hb dL_below_4 rfl (lv_at hl 1 rfl) ?_
  refine lv_irem hx hb dL_below_5 (nI_ne (b := 0) (by omega) (by decide) (by omega)) ?_
  rw [pk_rem ht hN (by omega)]
  exact q_iret hx hb hr hlocks hW hS ⟨t % N, rfl, Nat.mod_lt _ hN, rfl, rfl⟩ (Nat.le_of_ble_eq_true rfl) (Nat.le_of_ble_eq_true rfl) dL_below_6

set_option maxHeartbeats 4000000 in
set_option maxRecDepth 100000 in
theorem kX14_init (l : Launch) (E : q_E) (f : q_H) (n : Nat) (a : Nat) (x s0 : Int32) (h0 : f a = some (cDice s0)) : Met l yX14_init wsX14_init ({ frames := 1, cells := 0, slots := 0, locals := 20 }) (q_P E [.ref a, .int x] f n) (q_Qv E (fun f1 n1 => va_up f a (some (cDice x)) = f1 ∧ n = n1)) 0 0 (q_ge E) := by
  refine Met.ofW (cc := cX14_init) (maxL := 2) (ret := none) (by decide) rfl ?_
  intro p0_ e0_ s0_ m0_ args0_ below0_ meth0_ c0_ s1_ B hml hv
  obtain ⟨rfl, hA, hW⟩ := hv
  have hx := B.exec
  have hb := B.bytes
  have hr := B.returns
  have hts := atoms_spec (ws := wsX14_init) B.pre
  have hown : s0_.vm.findClass RX14 = some m0_.cls := findClass_of_methodNamed B.named
  have hlocks := B.notSynchronized
  have hin : meth0_.name = "<init>" := (name_of_methodNamed B.named B.method).1
  have hS : va_S (q_ge E) s0_.heap s0_.heap [] := va_S.rf
  have iX14 : ∀ w ∈ wsX140, w ∈ wsX14_init := by decide +kernel
  have hl := lv_entry ([.ref a, .int x]) (n := 2) (Nat.le_of_ble_eq_true rfl)
  rw [lg_entry_eq]
  generalize (lg_sl ([.ref a, .int x]) ++ List.replicate (2 - (lg_sl ([.ref a, .int x])).length) Slot.unset).toArray = ls at hl ⊢
  have hl : lv_has ls 2 [(0, .ref a), (1, .int x)] := hl
  have l_h0 := hW.lt h0
  refine lv_aload_n hx hb dX14_init_0 rfl (lv_at hl 0 rfl) ?_
  refine w_objInit hx hb hown (hts (.methodLink RX14 1 objectInit) (by decide +kernel)) (hts (.instanceMethod objectInit) (by decide +kernel)) (hts (.code objectInit ⟨#[0xb1]⟩ 1 none) (by decide +kernel)) rfl (hl.1.trans hml.symm) rfl dX14_init_1 (Nat.le_of_ble_eq_true rfl) (Nat.le_of_ble_eq_true rfl) ?_
  refine lv_aload_n hx hb dX14_init_4 rfl (lv_at hl 0 rfl) ?_
  refine lv_iload_n hx hb dX14_init_5 rfl (lv_at hl 1 rfl) ?_
  refine q_put hx hb hts hown hA hW hS iX14 tyX14 tyX14_ok nmX14 h0 rfl 0 (by decide) (hts (.fieldLink RX14 7 "HighRecipesLaw$Dice" "state" "I") (by decide +kernel)) (fun _ h9 => h9) rfl rfl rfl (Nat.le_of_ble_eq_true rfl) dX14_init_6 (fun H locs hW hS => ?_)
  have hW : q_W E (va_up f a (some (cDice x))) n H := hW
  exact q_vret hx hb hr hlocks hW hS ⟨rfl, rfl⟩ (Nat.le_of_ble_eq_true rfl) (Nat.le_of_ble_eq_true rfl) dX14_init_9

set_option maxHeartbeats 4000000 in
set_option maxRecDepth 100000 in
theorem kX14_next (l : Launch) (E : q_E) (f : q_H) (n : Nat) (d N : Nat) (s : Int32) (h0 : f d = some (cDice s)) (hN : 0 < N) (hN2 : N < 2 ^ 31) : Met l yX14_next wsX14_next ({ frames := 1, cells := 0, slots := 0, locals := 21 }) (q_P E [.ref d, .int (nI N)] f n) (q_Qi E (fun r0 f1 n1 => ∃ (j : Nat) (s1 : Int32), nI j = r0 ∧ f1 d = some (cDice s1) ∧ j < N ∧ n1 = n ∧ ∀ z9, z9 ≠ d → f1 z9 = f z9)) 0 0 (q_ge E) := by
  refine Met.ofW (cc := cX14_next) (maxL := 2) (ret := (some .int)) (by decide) rfl ?_
  intro p0_ e0_ s0_ m0_ args0_ below0_ meth0_ c0_ s1_ B hml hv
  obtain ⟨rfl, hA, hW⟩ := hv
  have hx := B.exec
  have hb := B.bytes
  have hr := B.returns
  have hts := atoms_spec (ws := wsX14_next) B.pre
  have hown : s0_.vm.findClass RX14 = some m0_.cls := findClass_of_methodNamed B.named
  have hlocks := B.notSynchronized
  have hS : va_S (q_ge E) s0_.heap s0_.heap [] := va_S.rf
  have iX14 : ∀ w ∈ wsX140, w ∈ wsX14_next := by decide +kernel
  have hl := lv_entry ([.ref d, .int (nI N)]) (n := 2) (Nat.le_of_ble_eq_true rfl)
  rw [lg_entry_eq]
  generalize (lg_sl ([.ref d, .int (nI N)]) ++ List.replicate (2 - (lg_sl ([.ref d, .int (nI N)])).length) Slot.unset).toArray = ls at hl ⊢
  have hl : lv_has ls 2 [(0, .ref d), (1, .int (nI N))] := hl
  refine lv_aload_n hx hb dX14_next_0 rfl (lv_at hl 0 rfl) ?_
  refine lv_aload_n hx hb dX14_next_1 rfl (lv_at hl 0 rfl) ?_
  refine q_get hx hb hts hown hA hW iX14 h0 rfl 0 (by decide) (hts (.fieldLink RX14 7 "HighRecipesLaw$Dice" "state" "I") (by decide +kernel)) (fun _ h9 => h9) (v := .int s) rfl dX14_next_2 ?_
  refine lv_ldc hx hb hown (hts (.constant RX14 13 (1103515245)) (by decide +kernel)) dX14_next_5 ?_
  refine lv_imul hx hb dX14_next_7 ?_
  refine lv_sipush (v := 12345) hx hb dX14_next_8 (by decide) ?_
  refine lv_iadd hx hb dX14_next_11 ?_
  refine q_put hx hb hts hown hA hW hS iX14 tyX14 tyX14_ok nmX14 h0 rfl 0 (by decide) (hts (.fieldLink RX14 7 "HighRecipesLaw$Dice" "state" "I") (by decide +kernel)) (fun _ h9 => h9) rfl rfl rfl (Nat.le_of_ble_eq_true rfl) dX14_next_12 (fun H locs hW hS => ?_)
  have hW : q_W E (va_up f d (some (cDice ((s * 1103515245) + 12345)))) n H := hW
  refine lv_aload_n hx hb dX14_next_15 rfl (lv_at hl 0 rfl) ?_
  refine q_get hx hb hts hown hA hW iX14 q_eq rfl 0 (by decide) (hts (.fieldLink RX14 7 "HighRecipesLaw$Dice" "state" "I") (by decide +kernel)) (fun _ h9 => h9) (v := .int ((s * 1103515245) + 12345)) rfl dX14_next_16 ?_
  refine lv_bipush (v := 9) hx hb dX14_next_19 (by decide) ?_
  refine lv_ishr hx hb dX14_next_21 ?_
  refine lv_iload_n hx hb dX14_next_22 rfl (lv_at hl 1 rfl) ?_
  refine q_ci (va_runSN (As := [.int (((s * 1103515245) + 12345) >>> (9 &&& 31)), .int (nI N)]) (rest := []) ⟨hx, hb, hml, hown, hts⟩ (kL_below l E (va_up f d (some (cDice ((s * 1103515245) + 12345)))) n (((s * 1103515245) + 12345) >>> (9 &&& 31)) N (by assumption) (by assumption)) ⟨va_cnB 2 hts gX14_next_L_below_n14 rfl rfl rfl (hA.2.2.2.2.1 ("HighRecipesLaw$Dice", 14, ⟨"HighRecipesLaw", "below", "(II)I"⟩, "HighRecipesLaw") (by decide +kernel)) (hts (.initialized RL) (by decide +kernel)) (by decide +kernel) ⟨(Nat.le_of_ble_eq_true rfl), (Nat.le_of_ble_eq_true rfl)⟩, hts (.static yL_below) (by decide +kernel), trivial⟩ (q_pS hA hW hS) rfl rfl hl.1 rfl (lv_room (Nat.le_of_ble_eq_true rfl)) dX14_next_23 ⟨(Nat.le_of_ble_eq_true rfl), (Nat.le_of_ble_eq_true rfl)⟩) hS (fun r_23 f_23 n_23 H locs hp hW hS => ?_)
  obtain ⟨j, rfl, ej, rfl, rfl⟩ := hp
  exact q_iret hx hb hr hlocks hW hS ⟨j, _, rfl, q_eq, ej, rfl, (fun z9 g0 => q_ne g0 rfl)⟩ (Nat.le_of_ble_eq_true rfl) (Nat.le_of_ble_eq_true rfl) dX14_next_26

set_option maxHeartbeats 4000000 in
set_option maxRecDepth 100000 in
theorem kL_cell (l : Launch) (E : q_E) (f : q_H) (n : Nat) (k : Nat)  (hk : k < 100) : Met l yL_cell wsL_cell ({ frames := 0, cells := 0, slots := 0, locals := 0 }) (q_P E [.ref (E.2.2.2 108), .int (nI k)] f n) (q_Qi E (fun r0 f1 n1 => f1 = f ∧ n1 = n)) 0 0 (q_ge E) := by
  refine Met.ofW (cc := cL_cell) (maxL := 2) (ret := (some .int)) (by decide) rfl ?_
  intro p0_ e0_ s0_ m0_ args0_ below0_ meth0_ c0_ s1_ B hml hv
  obtain ⟨rfl, hA, hW⟩ := hv
  have hx := B.exec
  have hb := B.bytes
  have hr := B.returns
  have hts := atoms_spec (ws := wsL_cell) B.pre
  have hown : s0_.vm.findClass RL = some m0_.cls := findClass_of_methodNamed B.named
  have hlocks := B.notSynchronized
  have hS : va_S (q_ge E) s0_.heap s0_.heap [] := va_S.rf
  have hl := lv_entry ([.ref (E.2.2.2 108), .int (nI k)]) (n := 2) (Nat.le_of_ble_eq_true rfl)
  rw [lg_entry_eq]
  generalize (lg_sl ([.ref (E.2.2.2 108), .int (nI k)]) ++ List.replicate (2 - (lg_sl ([.ref (E.2.2.2 108), .int (nI k)])).length) Slot.unset).toArray = ls at hl ⊢
  have hl : lv_has ls 2 [(0, .ref (E.2.2.2 108)), (1, .int (nI k))] := hl
  obtain ⟨hN9, g9, hg9⟩ := hA.2.2.1.2.2.2.2.2.2.2.2.2.2.2
  refine lv_iload_n hx hb dL_cell_0 rfl (lv_at hl 1 rfl) ?_
  refine lv_aload_n hx hb dL_cell_1 rfl (lv_at hl 0 rfl) ?_
  refine va_tlen hx hb hg9 hS (v := nI (E.2.2.2 109)) rfl dL_cell_2 ?_
  refine lv_icmp_ge (tgt := 12) hx hb dL_cell_3 (by decide) (fun c_3 => ?_) (fun c_3 => ?_)
  · refine lv_ldc hx hb hown (hts (.constant RL 8 (790386105)) (by decide +kernel)) dL_cell_12 ?_
    refine lv_iload_n hx hb dL_cell_14 rfl (lv_at hl 1 rfl) ?_
    refine lv_iconst (v := 3) hx hb dL_cell_15 (by decide) ?_
    refine lv_iadd hx hb dL_cell_16 ?_
    refine lv_imul hx hb dL_cell_17 ?_
    exact q_iret hx hb hr hlocks hW hS ⟨rfl, rfl⟩ (Nat.le_of_ble_eq_true rfl) (Nat.le_of_ble_eq_true rfl) dL_cell_18
  · refine lv_aload_n hx hb dL_cell_6 rfl (lv_at hl 0 rfl) ?_
    refine lv_iload_n hx hb dL_cell_7 rfl (lv_at hl 1 rfl) ?_
    refine va_ti hx hb hg9 hS (q_in (nI_pos (by omega)) c_3 (by omega)) (v := .int (g9 (nI k).toNatClampNeg)) rfl dL_cell_8 ?_
    refine lv_goto (tgt := 18) hx hb dL_cell_9 (by decide) ?_
    exact q_iret hx hb hr hlocks hW hS ⟨rfl, rfl⟩ (Nat.le_of_ble_eq_true rfl) (Nat.le_of_ble_eq_true rfl) dL_cell_18

set_option maxHeartbeats 4000000 in
set_option maxRecDepth 100000 in
theorem kL_pan (l : Launch) (E : q_E) (f : q_H) (n : Nat) (p : Nat)  (hp26 : p < 26) : Met l yL_pan wsL_pan ({ frames := 6, cells := 6, slots := 200, locals := 321 }) (q_P E [.int (nI p)] f n) (q_Qq E (fun r0 f1 n1 => ∃ (r : Nat), some r = r0 ∧ f1 r = some (cStr (r + 1)) ∧ f1 (r + 1) = some (aB E ((pT p).length) (tx (pT p))) ∧ n ≤ r ∧ n ≤ n1 ∧ ∀ z9, z9 < n → f1 z9 = f z9)) 6 200 (q_ge E) := by
  refine Met.ofW (cc := cL_pan) (maxL := 1) (ret := (some (.object "java/lang/String"))) (by decide) rfl ?_
  intro p0_ e0_ s0_ m0_ args0_ below0_ meth0_ c0_ s1_ B hml hv
  obtain ⟨rfl, hA, hW⟩ := hv
  have hx := B.exec
  have hb := B.bytes
  have hr := B.returns
  have hts := atoms_spec (ws := wsL_pan) B.pre
  have hown : s0_.vm.findClass RL = some m0_.cls := findClass_of_methodNamed B.named
  have hlocks := B.notSynchronized
  have hS : va_S (q_ge E) s0_.heap s0_.heap [] := va_S.rf
  have iJ4 : ∀ w ∈ wsJ40, w ∈ wsL_pan := by decide +kernel
  have hl := lv_entry ([.int (nI p)]) (n := 1) (Nat.le_of_ble_eq_true rfl)
  rw [lg_entry_eq]
  generalize (lg_sl ([.int (nI p)]) ++ List.replicate (1 - (lg_sl ([.int (nI p)])).length) Slot.unset).toArray = ls at hl ⊢
  have hl : lv_has ls 1 [(0, .int (nI p))] := hl
  refine q_new (ci := 1) hx hb hts hown hA hW hS iJ4 tyJ4 tyJ4_ok (hts (.classLink RL 32 RJ4) (by decide +kernel)) (hts (.instantiable RJ4 4) (by decide +kernel)) (hts (.initialized RJ4) (by decide +kernel)) rfl (fs := [.null, .int 0, .int 0, .int 0]) (by decide) (by show _ ≤ 6; omega) (by show _ ≤ 200; omega) dL_pan_0 (fun H hW hS => ?_)
  have hW : q_W E (va_up f n (some (rSB none 0 0 0))) (n + 1) H := hW
  refine lv_dup hx hb dL_pan_3 rfl ?_
  refine q_cv (va_runI (As := []) (rest := [.ref n]) ⟨hx, hb, hml, hown, hts⟩ (kJ4_init_da8c8 l E (va_up f n (some (rSB none 0 0 0))) (n + 1) n q_eq) (cwI 0 hts gL_pan_J4_init_da8c8 rfl rfl rfl (hts (.initialized RJ4) (by decide +kernel)) (hts (.methodLink RL 34 yJ4_init_da8c8) (by decide +kernel)) (hts (.instanceMethod yJ4_init_da8c8) (by decide +kernel)) rfl (by decide +kernel) ⟨(Nat.le_of_ble_eq_true rfl), (Nat.le_of_ble_eq_true rfl)⟩) (q_pS hA hW hS) rfl rfl hl.1 rfl (lv_room (Nat.le_of_ble_eq_true rfl)) dL_pan_4 ⟨(Nat.le_of_ble_eq_true rfl), (Nat.le_of_ble_eq_true rfl)⟩) hS (fun f_4 n_4 H locs hp hW hS => ?_)
  obtain ⟨e0_4, e1_4, en_4, hfr_4⟩ := hp
  have l_e0_4 := hW.lt e0_4
  have l_e1_4 := hW.lt e1_4
  refine va_ldcS (own := "HighRecipesLaw") hx hb hown (q_ldk hA (i := 1) (by decide)) dL_pan_7 ?_
  refine q_cq (va_runV (As := [.ref (E.2.2.2 (200 + 1))]) (rest := []) ⟨hx, hb, hml, hown, hts⟩ (kJ4_append_k l E f_4 n_4 n (n + 1) 16 1 30 ([] : List Int32) e0_4 e1_4 (by (try simp only [List.length_append, List.length_nil, List.length_cons, pT_len, ktl_0, ktl_1, ktl_2, ktl_3, ktl_4, ktl_5, ktl_6, ktl_7, ktl_8, ktl_9, ktl_10, ktl_11, ktl_12, ktl_13, ktl_14, ktl_15, ktl_16, ktl_17, ktl_18, ktl_19, ktl_20, ktl_21, ktl_22, ktl_23, ktl_24, ktl_25, ktl_26, ktl_27, ktl_28, ktl_29, ktl_30, ktl_31, ktl_32, ktl_33, ktl_34, ktl_35, ktl_36, ktl_37, ktl_38, ktl_39, ktl_40, ktl_41, ktl_42, ktl_43, ktl_44, ktl_45, ktl_46, ktl_47, ktl_48, ktl_49]); omega) (by omega) (by omega) (by first | assumption | decide) (by repeat (first | exact okb_nil | assumption | exact kt_okb (by omega) | exact okb_pT (by omega) | exact dg_ok _ (by omega) | exact okb_one (by omega) | apply okb_app)) (by omega)) (cwV 1 hts gL_pan_J4_append_15ec4 rfl rfl rfl (by decide +kernel) ⟨(Nat.le_of_ble_eq_true rfl), (Nat.le_of_ble_eq_true rfl)⟩) (q_pV hA hW hS (ci := 1) rfl e0_4) rfl rfl hl.1 rfl (lv_room (Nat.le_of_ble_eq_true rfl)) dL_pan_9 ⟨(by show _ ≤ 6; omega), (by show _ ≤ 200; omega)⟩) hS (fun r_9 f_9 n_9 H locs hp hW hS => ?_)
  obtain ⟨b1_9, m1_9, rfl, e0_9, e1_9, el_9, em4_9, eb_9, en_9, hfr_9⟩ := hp
  have l_e0_9 := hW.lt e0_9
  have l_e1_9 := hW.lt e1_9
  refine lv_bipush (v := 97) hx hb dL_pan_12 (by decide) ?_
  refine lv_iload_n hx hb dL_pan_14 rfl (lv_at hl 0 rfl) ?_
  refine lv_iadd hx hb dL_pan_15 ?_
  refine lv_i2c (v := nI (97 + p)) hx hb dL_pan_16 (ch97 p hp26) ?_
  refine q_cq (va_runV (As := [.int (nI (97 + p))]) (rest := []) ⟨hx, hb, hml, hown, hts⟩ (kJ4_append_cf468 l E f_9 n_9 n b1_9 m1_9 (97 + p) 30 (([] : List Int32) ++ kt 1) e0_9 e1_9 (by (try simp only [List.length_append, List.length_nil, List.length_cons, pT_len, ktl_0, ktl_1, ktl_2, ktl_3, ktl_4, ktl_5, ktl_6, ktl_7, ktl_8, ktl_9, ktl_10, ktl_11, ktl_12, ktl_13, ktl_14, ktl_15, ktl_16, ktl_17, ktl_18, ktl_19, ktl_20, ktl_21, ktl_22, ktl_23, ktl_24, ktl_25, ktl_26, ktl_27, ktl_28, ktl_29, ktl_30, ktl_31, ktl_32, ktl_33, ktl_34, ktl_35, ktl_36, ktl_37, ktl_38, ktl_39, ktl_40, ktl_41, ktl_42, ktl_43, ktl_44, ktl_45, ktl_46, ktl_47, ktl_48, ktl_49]); omega) (by omega) (by omega) (by first | assumption | decide) (by repeat (first | exact okb_nil | assumption | exact kt_okb (by omega) | exact okb_pT (by omega) | exact dg_ok _ (by omega) | exact okb_one (by omega) | apply okb_app)) (by omega)) (cwV 1 hts gL_pan_J4_append_cf468 rfl rfl rfl (by decide +kernel) ⟨(Nat.le_of_ble_eq_true rfl), (Nat.le_of_ble_eq_true rfl)⟩) (q_pV hA hW hS (ci := 1) rfl e0_9) rfl rfl hl.1 rfl (lv_room (Nat.le_of_ble_eq_true rfl)) dL_pan_17 ⟨(by show _ ≤ 6; omega), (by show _ ≤ 200; omega)⟩) hS (fun r_17 f_17 n_17 H locs hp hW hS => ?_)
  obtain ⟨b1_17, m1_17, rfl, e0_17, e1_17, el_17, em4_17, eb_17, en_17, hfr_17⟩ := hp
  have l_e0_17 := hW.lt e0_17
  have l_e1_17 := hW.lt e1_17
  refine q_cq (va_runV (As := []) (rest := []) ⟨hx, hb, hml, hown, hts⟩ (kJ4_toString_0e30d l E f_17 n_17 n b1_17 m1_17 30 ((([] : List Int32) ++ kt 1) ++ [nI (97 + p)]) e0_17 e1_17 (by assumption) (by omega) (by (try simp only [List.length_append, List.length_nil, List.length_cons, pT_len, ktl_0, ktl_1, ktl_2, ktl_3, ktl_4, ktl_5, ktl_6, ktl_7, ktl_8, ktl_9, ktl_10, ktl_11, ktl_12, ktl_13, ktl_14, ktl_15, ktl_16, ktl_17, ktl_18, ktl_19, ktl_20, ktl_21, ktl_22, ktl_23, ktl_24, ktl_25, ktl_26, ktl_27, ktl_28, ktl_29, ktl_30, ktl_31, ktl_32, ktl_33, ktl_34, ktl_35, ktl_36, ktl_37, ktl_38, ktl_39, ktl_40, ktl_41, ktl_42, ktl_43, ktl_44, ktl_45, ktl_46, ktl_47, ktl_48, ktl_49]); omega) (by omega) (by repeat (first | exact okb_nil | assumption | exact kt_okb (by omega) | exact okb_pT (by omega) | exact dg_ok _ (by omega) | exact okb_one (by omega) | apply okb_app))) (cwV 0 hts gL_pan_J4_toString_0e30d rfl rfl rfl (by decide +kernel) ⟨(Nat.le_of_ble_eq_true rfl), (Nat.le_of_ble_eq_true rfl)⟩) (q_pV hA hW hS (ci := 1) rfl e0_17) rfl rfl hl.1 rfl (lv_room (Nat.le_of_ble_eq_true rfl)) dL_pan_20 ⟨(by show _ ≤ 6; omega), (by show _ ≤ 200; omega)⟩) hS (fun r_20 f_20 n_20 H locs hp hW hS => ?_)
  obtain ⟨rfl, e0_20, e1_20, en_20, hfr_20⟩ := hp
  have l_e0_20 := hW.lt e0_20
  have l_e1_20 := hW.lt e1_20
  have hn_20 : f_20 n = some (cSB b1_17 (nI ((([] : List Int32) ++ kt 1) ++ [nI (97 + p)]).length)) := (hfr_20 _ (by omega)).trans e0_17
  have hb1_17_20 : f_20 b1_17 = some (aB E m1_17 (tx ((([] : List Int32) ++ kt 1) ++ [nI (97 + p)]))) := (hfr_20 _ (by omega)).trans e1_17
  exact q_aret (v := some n_17) hx hb hr (Or.inl ⟨_, rfl⟩) hlocks hW hS ⟨n_17, rfl, e0_20, e1_20, (by omega), (by omega), (fun q g0 => ((hfr_20 _ (by omega)).trans ((hfr_17 _ (by omega) (by omega) (by omega)).trans ((hfr_9 _ (by omega) (by omega) (by omega)).trans ((hfr_4 _ (by omega) (by omega)).trans (q_ne (by omega) rfl))))))⟩ (by show _ ≤ 6; omega) (by show _ ≤ 200; omega) dL_pan_23

