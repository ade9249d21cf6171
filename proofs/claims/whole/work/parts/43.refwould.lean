/-! the reference: a recipe run, and what would be -/
theorem rp_tr {r : q_R} {j : Nat} {g : Nat → Int32} (h : r j = g) : rp r j g = r := by
  funext k
  unfold rp
  split
  · next e => rw [e, h]
  · rfl
/-- the greatest below k of which it is so, -1 if none is -/
def z_best (P : Nat → Bool) : Nat → Int32
  | 0 => -1
  | k + 1 => if P k = true then nI k else z_best P k

set_option maxHeartbeats 4000000 in
set_option maxRecDepth 100000 in
theorem kX14_run (l : Launch) (E : q_E) (f : q_H) (n : Nat) (M : Nat) (r : q_R) (pn BB : Nat) (Bw : q_R) (RS : Nat → q_S) (r9 : Nat)  (hm : RM E f M r) (hpn9 : (r 120 0) = nI pn) (hpn : pn ≤ 8) (hB8 : bR r 8 = Bw) (hB29 : BB ≤ 2 ^ 29) (hinv : k_inv BB ((r 42), 0, (-1))) (hvo : v_ok pn (r 9) (r 42)) (hRS : mRS Bw pn 400 400 80 RS (r9 + 1)) (hr6 : r9 < 6) : Met l yX14_run wsX14_run ({ frames := 5 * (6 + 6 * r9) + 25, cells := 0, slots := 0, locals := 200 * (6 + 6 * r9) + 1100 }) (q_P E [.ref M, .int (nI r9)] f n) (q_Qv E (fun f1 n1 => rO E f M (r_ks r (RS r9 (r 9) ((r 42), 0, (-1)))) = f1 ∧ n = n1)) 0 0 (q_ge E) := by
  refine Met.ofW (cc := cX14_run) (maxL := 2) (ret := none) (by decide) rfl ?_
  intro p e s m args below meth c s₁ B hml hv
  obtain ⟨rfl, hA, hW⟩ := hv
  have hx := B.exec
  have hb := B.bytes
  have hr := B.returns
  have hts := atoms_spec (ws := wsX14_run) B.pre
  have hown : s.vm.findClass RX14 = some m.cls := findClass_of_methodNamed B.named
  have hlocks := B.notSynchronized
  have hS : va_S (q_ge E) s.heap s.heap [] := va_S.rf
  have iX13 : ∀ w ∈ wsX130, w ∈ wsX14_run := by decide +kernel
  have iX14 : ∀ w ∈ wsX140, w ∈ wsX14_run := by decide +kernel
  have hl := lv_entry ([.ref M, .int (nI r9)]) (n := 2) (Nat.le_of_ble_eq_true rfl)
  rw [lg_entry_eq]
  generalize (lg_sl ([.ref M, .int (nI r9)]) ++ List.replicate (2 - (lg_sl ([.ref M, .int (nI r9)])).length) Slot.unset).toArray = ls at hl ⊢
  have hl : lv_has ls 2 [(0, .ref M), (1, .int (nI r9))] := hl
  have hmE := hm.eq
  rw [hm.eq] at hW
  obtain ⟨-, m9, hL0⟩ := hRS r9 (Nat.lt_succ_self r9)
  have hL : mL Bw 0 80 (mA Bw pn 400 400 80 RS r9 6) m9 (r 10 r9) (RS r9) := by rw [show r 10 r9 = Bw 2 r9 from congrFun (congrFun hB8 2) r9]; exact hL0
  have ihB := fun (d1 R1 : Nat) (h9 : d1 + 6 * R1 ≤ 6 + 6 * r9) => kX14_block l E pn Bw RS (6 + 6 * r9) R1 d1 h9
  refine lv_aload_n hx hb dX14_run_0 rfl (lv_at hl 0 rfl) ?_
  refine lv_iconst (v := 0) hx hb dX14_run_1 (by decide) ?_
  refine q_put hx hb hts hown hA hW hS iX14 tyX14 tyX14_ok nmX14 rO_0 rfl 21 (by decide) (hts (.fieldLink RX14 306 "HighRecipesModel" "begun" "I") (by decide +kernel)) (fun _ h9 => h9) rfl rfl rfl (Nat.le_of_ble_eq_true rfl) dX14_run_2 (fun H locs hW hS => ?_)
  have hW := q_s0 110 (nI 0) hW rfl (by decide)
  refine lv_aload_n hx hb dX14_run_5 rfl (lv_at hl 0 rfl) ?_
  refine lv_iconst (v := (-1)) hx hb dX14_run_6 (by decide) ?_
  refine q_put hx hb hts hown hA hW hS iX14 tyX14 tyX14_ok nmX14 rO_0 rfl 22 (by decide) (hts (.fieldLink RX14 303 "HighRecipesModel" "firstWarned" "I") (by decide +kernel)) (fun _ h9 => h9) rfl rfl rfl (Nat.le_of_ble_eq_true rfl) dX14_run_7 (fun H locs hW hS => ?_)
  have hW := q_s0 111 ((-1)) hW rfl (by decide)
  refine lv_aload_n hx hb dX14_run_10 rfl (lv_at hl 0 rfl) ?_
  refine lv_aload_n hx hb dX14_run_11 rfl (lv_at hl 0 rfl) ?_
  refine q_get hx hb hts hown hA hW iX14 rO_0 rfl 17 (by decide) (hts (.fieldLink RX14 38 "HighRecipesModel" "told" "LHighRecipesModel$Book;") (by decide +kernel)) (fun _ h9 => h9) (v := .ref (M + 8)) rfl dX14_run_12 ?_
  refine q_getN hx hb hts hown hA hW iX13 rO_8 rfl 3 (by decide) (va_Nw.use rfl (hA.2.2.2.1 ("HighRecipesModel", 263, "HighRecipesModel$Book", "recipe", "[I", "HighRecipesModel") (by decide +kernel))) (fun _ h9 => h9) (v := .ref (M + 10)) rfl dX14_run_15 ?_
  refine lv_iload_n hx hb dX14_run_18 rfl (lv_at hl 1 rfl) ?_
  refine q_ald hx hb hA hW (rO_10 (g := r 10) rfl) r9 rfl (by omega) (by decide) (x := (r 10) r9) rfl dX14_run_19 ?_
  refine q_cv (va_runV (As := [.int ((r 10) r9)]) (rest := []) ⟨hx, hb, hml, hown, hts⟩ (ihB 6 r9 (by omega) (rO E f M (rp (rp r 110 (fun _ => nI 0)) 111 (fun _ => (-1)))) n M (rp (rp r 110 (fun _ => nI 0)) 111 (fun _ => (-1))) 0 BB 0 m9 (r 10 r9) (RS r9) rO_K (by rw [bR8 (by decide), bR8 (by decide)]; exact hB8) hpn9 hpn rfl (Or.inl rfl) hB29 hinv hvo (mRS_le hRS (Nat.le_succ _)) hL (by decide)) (cwV 1 hts gX14_run_X14_doBlock rfl rfl rfl (by decide +kernel) ⟨(by show (5 * (6 + 6 * r9) + 20) + 1 ≤ 5 * (6 + 6 * r9) + 25; omega), (by show 8 + (3 + 11) + (200 * (6 + 6 * r9) + 1000) ≤ 200 * (6 + 6 * r9) + 1100; omega)⟩) (q_pV hA hW hS (ci := 12) rfl rO_0) rfl rfl hl.1 rfl (lv_room (Nat.le_of_ble_eq_true rfl)) dX14_run_20 ⟨Nat.le_of_ble_eq_true rfl, Nat.le_of_ble_eq_true rfl⟩) hS (fun f_20 n_20 H locs hp hW hS => ?_)
  obtain ⟨rfl, rfl⟩ := hp
  have hW : q_W E (rO E f M (rp (rp (rp (rp (rp r 110 (fun _ => nI 0)) 111 (fun _ => (-1))) 42 (((RS r9) (r 9) ((r 42), 0, (-1))).1)) 110 (fun _ => nI ((RS r9) (r 9) ((r 42), 0, (-1))).2.1)) 111 (fun _ => ((RS r9) (r 9) ((r 42), 0, (-1))).2.2))) n H := by rw [rO_rO] at hW; exact hW
  rw [rp_d2] at hW
  rw [rp_d1] at hW
  have hW : q_W E (rO E f M (rp (rp (rp r 42 (((RS r9) (r 9) ((r 42), 0, (-1))).1)) 110 (fun _ => nI ((RS r9) (r 9) ((r 42), 0, (-1))).2.1)) 111 (fun _ => ((RS r9) (r 9) ((r 42), 0, (-1))).2.2))) n H := hW
  exact q_vret hx hb hr hlocks hW hS ⟨rfl, rfl⟩ (Nat.le_of_ble_eq_true rfl) (Nat.le_of_ble_eq_true rfl) dX14_run_23

set_option maxHeartbeats 4000000 in
set_option maxRecDepth 100000 in
theorem kX14_cook (l : Launch) (E : q_E) (f : q_H) (n : Nat) (M : Nat) (r : q_R) (pn BB : Nat) (Bw : q_R) (RS : Nat → q_S) (r9 : Nat) (rc : Nat)  (hm : RM E f M r) (hpn9 : (r 120 0) = nI pn) (hpn : pn ≤ 8) (hB8 : bR r 8 = Bw) (hB29 : BB ≤ 2 ^ 29) (hinv : k_inv BB ((r 42), 0, (-1))) (hvo : v_ok pn (r 9) (r 42)) (hRS : mRS Bw pn 400 400 80 RS (r9 + 1)) (hrc9 : (r 121 0) = nI rc) (hrc : rc ≤ 6) (hrl : r9 < rc) : Met l yX14_cook wsX14_cook ({ frames := 5 * (6 + 6 * r9) + 30, cells := 0, slots := 0, locals := 200 * (6 + 6 * r9) + 1200 }) (q_P E [.ref M, .int (nI r9)] f n) (q_Qi E (fun r0 f1 n1 => (RS r9 (r 9) ((r 42), 0, (-1))).1 3 - (r 42) 3 = r0 ∧ rO E f M (rp (rp (rp (rp r 100 (fun _ => 0)) 42 ((RS r9 (r 9) ((r 42), 0, (-1))).1)) 110 (fun _ => nI (RS r9 (r 9) ((r 42), 0, (-1))).2.1)) 111 (fun _ => (RS r9 (r 9) ((r 42), 0, (-1))).2.2)) = f1 ∧ n = n1)) 0 0 (q_ge E) := by
  refine Met.ofW (cc := cX14_cook) (maxL := 3) (ret := (some .int)) (by decide) rfl ?_
  intro p e s m args below meth c s₁ B hml hv
  obtain ⟨rfl, hA, hW⟩ := hv
  have hx := B.exec
  have hb := B.bytes
  have hr := B.returns
  have hts := atoms_spec (ws := wsX14_cook) B.pre
  have hown : s.vm.findClass RX14 = some m.cls := findClass_of_methodNamed B.named
  have hlocks := B.notSynchronized
  have hS : va_S (q_ge E) s.heap s.heap [] := va_S.rf
  have iX14 : ∀ w ∈ wsX140, w ∈ wsX14_cook := by decide +kernel
  have hl := lv_entry ([.ref M, .int (nI r9)]) (n := 3) (Nat.le_of_ble_eq_true rfl)
  rw [lg_entry_eq]
  generalize (lg_sl ([.ref M, .int (nI r9)]) ++ List.replicate (3 - (lg_sl ([.ref M, .int (nI r9)])).length) Slot.unset).toArray = ls at hl ⊢
  have hl : lv_has ls 3 [(0, .ref M), (1, .int (nI r9))] := hl
  have hmE := hm.eq
  rw [hm.eq] at hW
  refine lv_aload_n hx hb dX14_cook_0 rfl (lv_at hl 0 rfl) ?_
  refine lv_iconst (v := 0) hx hb dX14_cook_1 (by decide) ?_
  refine q_put hx hb hts hown hA hW hS iX14 tyX14 tyX14_ok nmX14 rO_0 rfl 0 (by decide) (hts (.fieldLink RX14 54 "HighRecipesModel" "thrown" "I") (by decide +kernel)) (fun _ h9 => h9) rfl rfl rfl (Nat.le_of_ble_eq_true rfl) dX14_cook_2 (fun H locs hW hS => ?_)
  have hW := q_s0 100 (0) hW rfl (by decide)
  refine lv_aload_n hx hb dX14_cook_5 rfl (lv_at hl 0 rfl) ?_
  refine lv_iload_n hx hb dX14_cook_6 rfl (lv_at hl 1 rfl) ?_
  refine q_ci (va_runV (As := [.int (nI r9)]) (rest := []) ⟨hx, hb, hml, hown, hts⟩ (kX14_isRecipe l E (rO E f M (rp r 100 (fun _ => 0))) n M (rp r 100 (fun _ => 0)) rc (nI r9) rO_K hrc9) (cwV 1 hts gX14_cook_X14_isRecipe rfl rfl rfl (by decide +kernel) ⟨(by show 1 + 1 ≤ 5 * (6 + 6 * r9) + 30; omega), (by show 8 + (2 + 11) + 22 ≤ 200 * (6 + 6 * r9) + 1200; omega)⟩) (q_pV hA hW hS (ci := 12) rfl rO_0) rfl rfl hl.1 rfl (lv_room (Nat.le_of_ble_eq_true rfl)) dX14_cook_7 ⟨Nat.le_of_ble_eq_true rfl, Nat.le_of_ble_eq_true rfl⟩) hS (fun r_7 f_7 n_7 H locs hp hW hS => ?_)
  obtain ⟨rfl, rfl, rfl⟩ := hp
  have hW : q_W E (rO E f M (rp r 100 (fun _ => 0))) n H := hW
  refine lv_if_ne (tgt := 19) hx hb dX14_cook_10 (by decide) (fun c_10 => ?_) (fun c_10 => False.elim ((fun h9 => absurd h9 (b01_T (b_in_ix hrl (by omega)))) c_10))
  refine lv_aload_n hx hb dX14_cook_19 rfl (lv_at hl 0 rfl) ?_
  refine q_get hx hb hts hown hA hW iX14 rO_0 rfl 19 (by decide) (hts (.fieldLink RX14 45 "HighRecipesModel" "now" "[I") (by decide +kernel)) (fun _ h9 => h9) (v := .ref (M + 42)) rfl dX14_cook_20 ?_
  refine lv_iconst (v := 3) hx hb dX14_cook_23 (by decide) ?_
  refine q_ald hx hb hA hW (rO_42 (g := r 42) rfl) 3 rfl (by decide) (by decide) (x := (r 42) 3) rfl dX14_cook_24 ?_
  refine lv_istore_n (lv' := [(2, .int ((r 42) 3)), (0, .ref M), (1, .int (nI r9))]) hx hb dX14_cook_25 rfl hl (by decide) rfl (fun ls hl => ?_)
  refine lv_aload_n hx hb dX14_cook_26 rfl (lv_at hl 1 rfl) ?_
  refine lv_iload_n hx hb dX14_cook_27 rfl (lv_at hl 2 rfl) ?_
  refine q_cv (va_runV (As := [.int (nI r9)]) (rest := []) ⟨hx, hb, hml, hown, hts⟩ (kX14_run l E (rO E f M (rp r 100 (fun _ => 0))) n M (rp r 100 (fun _ => 0)) pn BB Bw RS r9 rO_K hpn9 hpn (by rw [bR8 (by decide)]; exact hB8) hB29 hinv hvo hRS (by omega)) (cwV 1 hts gX14_cook_X14_run rfl rfl rfl (by decide +kernel) ⟨(by show (5 * (6 + 6 * r9) + 25) + 1 ≤ 5 * (6 + 6 * r9) + 30; omega), (by show 8 + (2 + 11) + (200 * (6 + 6 * r9) + 1100) ≤ 200 * (6 + 6 * r9) + 1200; omega)⟩) (q_pV hA hW hS (ci := 12) rfl rO_0) rfl rfl hl.1 rfl (lv_room (Nat.le_of_ble_eq_true rfl)) dX14_cook_28 ⟨Nat.le_of_ble_eq_true rfl, Nat.le_of_ble_eq_true rfl⟩) hS (fun f_28 n_28 H locs hp hW hS => ?_)
  obtain ⟨rfl, rfl⟩ := hp
  have hW : q_W E (rO E f M (rp (rp (rp (rp r 100 (fun _ => 0)) 42 ((RS r9 (r 9) ((r 42), 0, (-1))).1)) 110 (fun _ => nI (RS r9 (r 9) ((r 42), 0, (-1))).2.1)) 111 (fun _ => (RS r9 (r 9) ((r 42), 0, (-1))).2.2))) n H := by rw [rO_rO] at hW; exact hW
  have hW : q_W E (rO E f M (rp (rp (rp (rp r 100 (fun _ => 0)) 42 ((RS r9 (r 9) ((r 42), 0, (-1))).1)) 110 (fun _ => nI (RS r9 (r 9) ((r 42), 0, (-1))).2.1)) 111 (fun _ => (RS r9 (r 9) ((r 42), 0, (-1))).2.2))) n H := hW
  refine lv_aload_n hx hb dX14_cook_31 rfl (lv_at hl 1 rfl) ?_
  refine q_get hx hb hts hown hA hW iX14 rO_0 rfl 19 (by decide) (hts (.fieldLink RX14 45 "HighRecipesModel" "now" "[I") (by decide +kernel)) (fun _ h9 => h9) (v := .ref (M + 42)) rfl dX14_cook_32 ?_
  refine lv_iconst (v := 3) hx hb dX14_cook_35 (by decide) ?_
  refine q_ald hx hb hA hW (rO_42 (g := (RS r9 (r 9) ((r 42), 0, (-1))).1) rfl) 3 rfl (by decide) (by decide) (x := ((RS r9 (r 9) ((r 42), 0, (-1))).1) 3) rfl dX14_cook_36 ?_
  refine lv_iload_n hx hb dX14_cook_37 rfl (lv_at hl 0 rfl) ?_
  refine lv_isub hx hb dX14_cook_38 ?_
  exact q_iret hx hb hr hlocks hW hS ⟨rfl, rfl, rfl⟩ (Nat.le_of_ble_eq_true rfl) (Nat.le_of_ble_eq_true rfl) dX14_cook_39

set_option maxHeartbeats 4000000 in
set_option maxRecDepth 100000 in
theorem kX14_cook_F (l : Launch) (E : q_E) (f : q_H) (n : Nat) (M : Nat) (r : q_R) (rc : Nat) (x : Int32)  (hm : RM E f M r) (hrc9 : (r 121 0) = nI rc) (hrc : rc ≤ 6) (hno : x < 0 ∨ nI rc ≤ x) : Met l yX14_cook wsX14_cook ({ frames := 2, cells := 0, slots := 0, locals := 43 }) (q_P E [.ref M, .int x] f n) (q_Qi E (fun r0 f1 n1 => 0 = r0 ∧ rO E f M (rp r 100 (fun _ => 1)) = f1 ∧ n = n1)) 0 0 (q_ge E) := by
  refine Met.ofW (cc := cX14_cook) (maxL := 3) (ret := (some .int)) (by decide) rfl ?_
  intro p e s m args below meth c s₁ B hml hv
  obtain ⟨rfl, hA, hW⟩ := hv
  have hx := B.exec
  have hb := B.bytes
  have hr := B.returns
  have hts := atoms_spec (ws := wsX14_cook) B.pre
  have hown : s.vm.findClass RX14 = some m.cls := findClass_of_methodNamed B.named
  have hlocks := B.notSynchronized
  have hS : va_S (q_ge E) s.heap s.heap [] := va_S.rf
  have iX14 : ∀ w ∈ wsX140, w ∈ wsX14_cook := by decide +kernel
  have hl := lv_entry ([.ref M, .int x]) (n := 3) (Nat.le_of_ble_eq_true rfl)
  rw [lg_entry_eq]
  generalize (lg_sl ([.ref M, .int x]) ++ List.replicate (3 - (lg_sl ([.ref M, .int x])).length) Slot.unset).toArray = ls at hl ⊢
  have hl : lv_has ls 3 [(0, .ref M), (1, .int x)] := hl
  have hmE := hm.eq
  rw [hm.eq] at hW
  refine lv_aload_n hx hb dX14_cook_0 rfl (lv_at hl 0 rfl) ?_
  refine lv_iconst (v := 0) hx hb dX14_cook_1 (by decide) ?_
  refine q_put hx hb hts hown hA hW hS iX14 tyX14 tyX14_ok nmX14 rO_0 rfl 0 (by decide) (hts (.fieldLink RX14 54 "HighRecipesModel" "thrown" "I") (by decide +kernel)) (fun _ h9 => h9) rfl rfl rfl (Nat.le_of_ble_eq_true rfl) dX14_cook_2 (fun H locs hW hS => ?_)
  have hW := q_s0 100 (0) hW rfl (by decide)
  refine lv_aload_n hx hb dX14_cook_5 rfl (lv_at hl 0 rfl) ?_
  refine lv_iload_n hx hb dX14_cook_6 rfl (lv_at hl 1 rfl) ?_
  refine q_ci (va_runV (As := [.int x]) (rest := []) ⟨hx, hb, hml, hown, hts⟩ (kX14_isRecipe l E (rO E f M (rp r 100 (fun _ => 0))) n M (rp r 100 (fun _ => 0)) rc x rO_K hrc9) (cwV 1 hts gX14_cook_X14_isRecipe rfl rfl rfl (by decide +kernel) ⟨(Nat.le_of_ble_eq_true rfl), (Nat.le_of_ble_eq_true rfl)⟩) (q_pV hA hW hS (ci := 12) rfl rO_0) rfl rfl hl.1 rfl (lv_room (Nat.le_of_ble_eq_true rfl)) dX14_cook_7 ⟨Nat.le_of_ble_eq_true rfl, Nat.le_of_ble_eq_true rfl⟩) hS (fun r_7 f_7 n_7 H locs hp hW hS => ?_)
  obtain ⟨rfl, rfl, rfl⟩ := hp
  have hW : q_W E (rO E f M (rp r 100 (fun _ => 0))) n H := hW
  refine lv_if_ne (tgt := 19) hx hb dX14_cook_10 (by decide) (fun c_10 => False.elim ((fun h9 => h9 (b01_F (b_in_no hno (by omega)))) c_10)) (fun c_10 => ?_)
  refine lv_aload_n hx hb dX14_cook_13 rfl (lv_at hl 0 rfl) ?_
  refine lv_iconst (v := 1) hx hb dX14_cook_14 (by decide) ?_
  refine q_ci (va_runV (As := [.int 1]) (rest := []) ⟨hx, hb, hml, hown, hts⟩ (kX14_no l E (rO E f M (rp r 100 (fun _ => 0))) n M (rp r 100 (fun _ => 0)) 1 rO_K) (cwV 1 hts gX14_cook_X14_no rfl rfl rfl (by decide +kernel) ⟨(Nat.le_of_ble_eq_true rfl), (Nat.le_of_ble_eq_true rfl)⟩) (q_pV hA hW hS (ci := 12) rfl rO_0) rfl rfl hl.1 rfl (lv_room (Nat.le_of_ble_eq_true rfl)) dX14_cook_15 ⟨Nat.le_of_ble_eq_true rfl, Nat.le_of_ble_eq_true rfl⟩) hS (fun r_15 f_15 n_15 H locs hp hW hS => ?_)
  obtain ⟨rfl, rfl, rfl⟩ := hp
  have hW : q_W E (rO E f M (rp (rp r 100 (fun _ => 0)) 100 (fun _ => 1))) n H := by rw [rO_rO] at hW; exact hW
  rw [rp_d0] at hW
  have hW : q_W E (rO E f M (rp r 100 (fun _ => 1))) n H := hW
  exact q_iret hx hb hr hlocks hW hS ⟨rfl, rfl, rfl⟩ (Nat.le_of_ble_eq_true rfl) (Nat.le_of_ble_eq_true rfl) dX14_cook_18

set_option maxHeartbeats 4000000 in
set_option maxRecDepth 100000 in
theorem kX14_more (l : Launch) (E : q_E) (f : q_H) (n : Nat) (M : Nat) (r : q_R) (pn BB : Nat) (Bw : q_R) (RS : Nat → q_S) (r9 : Nat) (rc : Nat) (w : Nat)  (hm : RM E f M r) (hpn9 : (r 120 0) = nI pn) (hpn : pn ≤ 8) (hB8 : bR r 8 = Bw) (hB29 : BB ≤ 2 ^ 29) (hinv : k_inv BB ((r 42), 0, (-1))) (hvo : v_ok pn (r 9) (r 42)) (hRS : mRS Bw pn 400 400 80 RS (r9 + 1)) (hrc9 : (r 121 0) = nI rc) (hrc : rc ≤ 6) (hrl : r9 < rc) (hw : w < 84) : Met l yX14_more wsX14_more ({ frames := 5 * (6 + 6 * r9) + 30, cells := 0, slots := 0, locals := 200 * (6 + 6 * r9) + 1200 }) (q_P E [.ref M, .int (nI r9), .int (nI w)] f n) (q_Qi E (fun r0 f1 n1 => (RS r9 (r 9) ((r 42), 0, (-1))).1 w - (r 42) w = r0 ∧ rO E f M (rp (rp (rp (rp r 100 (fun _ => 0)) 43 (r 42)) 110 (fun _ => nI (RS r9 (r 9) ((r 42), 0, (-1))).2.1)) 111 (fun _ => (RS r9 (r 9) ((r 42), 0, (-1))).2.2)) = f1 ∧ n = n1)) 0 0 (q_ge E) := by
  refine Met.ofW (cc := cX14_more) (maxL := 4) (ret := (some .int)) (by decide) rfl ?_
  intro p e s m args below meth c s₁ B hml hv
  obtain ⟨rfl, hA, hW⟩ := hv
  have hx := B.exec
  have hb := B.bytes
  have hr := B.returns
  have hts := atoms_spec (ws := wsX14_more) B.pre
  have hown : s.vm.findClass RX14 = some m.cls := findClass_of_methodNamed B.named
  have hlocks := B.notSynchronized
  have hS : va_S (q_ge E) s.heap s.heap [] := va_S.rf
  have iX14 : ∀ w ∈ wsX140, w ∈ wsX14_more := by decide +kernel
  have hl := lv_entry ([.ref M, .int (nI r9), .int (nI w)]) (n := 4) (Nat.le_of_ble_eq_true rfl)
  rw [lg_entry_eq]
  generalize (lg_sl ([.ref M, .int (nI r9), .int (nI w)]) ++ List.replicate (4 - (lg_sl ([.ref M, .int (nI r9), .int (nI w)])).length) Slot.unset).toArray = ls at hl ⊢
  have hl : lv_has ls 4 [(0, .ref M), (1, .int (nI r9)), (2, .int (nI w))] := hl
  have hmE := hm.eq
  rw [hm.eq] at hW
  refine lv_aload_n hx hb dX14_more_0 rfl (lv_at hl 0 rfl) ?_
  refine lv_iconst (v := 0) hx hb dX14_more_1 (by decide) ?_
  refine q_put hx hb hts hown hA hW hS iX14 tyX14 tyX14_ok nmX14 rO_0 rfl 0 (by decide) (hts (.fieldLink RX14 54 "HighRecipesModel" "thrown" "I") (by decide +kernel)) (fun _ h9 => h9) rfl rfl rfl (Nat.le_of_ble_eq_true rfl) dX14_more_2 (fun H locs hW hS => ?_)
  have hW := q_s0 100 (0) hW rfl (by decide)
  refine lv_aload_n hx hb dX14_more_5 rfl (lv_at hl 0 rfl) ?_
  refine lv_iload_n hx hb dX14_more_6 rfl (lv_at hl 1 rfl) ?_
  refine q_ci (va_runV (As := [.int (nI r9)]) (rest := []) ⟨hx, hb, hml, hown, hts⟩ (kX14_isRecipe l E (rO E f M (rp r 100 (fun _ => 0))) n M (rp r 100 (fun _ => 0)) rc (nI r9) rO_K hrc9) (cwV 1 hts gX14_more_X14_isRecipe rfl rfl rfl (by decide +kernel) ⟨(by show 1 + 1 ≤ 5 * (6 + 6 * r9) + 30; omega), (by show 8 + (2 + 11) + 22 ≤ 200 * (6 + 6 * r9) + 1200; omega)⟩) (q_pV hA hW hS (ci := 12) rfl rO_0) rfl rfl hl.1 rfl (lv_room (Nat.le_of_ble_eq_true rfl)) dX14_more_7 ⟨Nat.le_of_ble_eq_true rfl, Nat.le_of_ble_eq_true rfl⟩) hS (fun r_7 f_7 n_7 H locs hp hW hS => ?_)
  obtain ⟨rfl, rfl, rfl⟩ := hp
  have hW : q_W E (rO E f M (rp r 100 (fun _ => 0))) n H := hW
  refine lv_if_ne (tgt := 19) hx hb dX14_more_10 (by decide) (fun c_10 => ?_) (fun c_10 => False.elim ((fun h9 => absurd h9 (b01_T (b_in_ix hrl (by omega)))) c_10))
  refine lv_aload_n hx hb dX14_more_19 rfl (lv_at hl 0 rfl) ?_
  refine q_cv (va_runV (As := []) (rest := []) ⟨hx, hb, hml, hown, hts⟩ (kX14_keep l E (rO E f M (rp r 100 (fun _ => 0))) n M (rp r 100 (fun _ => 0)) rO_K) (cwV 0 hts gX14_more_X14_keep rfl rfl rfl (by decide +kernel) ⟨(by show 1 + 1 ≤ 5 * (6 + 6 * r9) + 30; omega), (by show 8 + (1 + 11) + 60 ≤ 200 * (6 + 6 * r9) + 1200; omega)⟩) (q_pV hA hW hS (ci := 12) rfl rO_0) rfl rfl hl.1 rfl (lv_room (Nat.le_of_ble_eq_true rfl)) dX14_more_20 ⟨Nat.le_of_ble_eq_true rfl, Nat.le_of_ble_eq_true rfl⟩) hS (fun f_20 n_20 H locs hp hW hS => ?_)
  obtain ⟨rfl, rfl⟩ := hp
  have hW : q_W E (rO E f M (rp (rp r 100 (fun _ => 0)) 43 (r 42))) n H := by rw [rO_rO] at hW; exact hW
  have hW : q_W E (rO E f M (rp (rp r 100 (fun _ => 0)) 43 (r 42))) n H := hW
  refine lv_aload_n hx hb dX14_more_23 rfl (lv_at hl 0 rfl) ?_
  refine lv_iload_n hx hb dX14_more_24 rfl (lv_at hl 1 rfl) ?_
  refine q_cv (va_runV (As := [.int (nI r9)]) (rest := []) ⟨hx, hb, hml, hown, hts⟩ (kX14_run l E (rO E f M (rp (rp r 100 (fun _ => 0)) 43 (r 42))) n M (rp (rp r 100 (fun _ => 0)) 43 (r 42)) pn BB Bw RS r9 rO_K hpn9 hpn (by rw [bR8 (by decide), bR8 (by decide)]; exact hB8) hB29 hinv hvo hRS (by omega)) (cwV 1 hts gX14_more_X14_run rfl rfl rfl (by decide +kernel) ⟨(by show (5 * (6 + 6 * r9) + 25) + 1 ≤ 5 * (6 + 6 * r9) + 30; omega), (by show 8 + (2 + 11) + (200 * (6 + 6 * r9) + 1100) ≤ 200 * (6 + 6 * r9) + 1200; omega)⟩) (q_pV hA hW hS (ci := 12) rfl rO_0) rfl rfl hl.1 rfl (lv_room (Nat.le_of_ble_eq_true rfl)) dX14_more_25 ⟨Nat.le_of_ble_eq_true rfl, Nat.le_of_ble_eq_true rfl⟩) hS (fun f_25 n_25 H locs hp hW hS => ?_)
  obtain ⟨rfl, rfl⟩ := hp
  have hW : q_W E (rO E f M (rp (rp (rp (rp (rp r 100 (fun _ => 0)) 43 (r 42)) 42 ((RS r9 (r 9) ((r 42), 0, (-1))).1)) 110 (fun _ => nI (RS r9 (r 9) ((r 42), 0, (-1))).2.1)) 111 (fun _ => (RS r9 (r 9) ((r 42), 0, (-1))).2.2))) n H := by rw [rO_rO] at hW; exact hW
  have hW : q_W E (rO E f M (rp (rp (rp (rp (rp r 100 (fun _ => 0)) 43 (r 42)) 42 ((RS r9 (r 9) ((r 42), 0, (-1))).1)) 110 (fun _ => nI (RS r9 (r 9) ((r 42), 0, (-1))).2.1)) 111 (fun _ => (RS r9 (r 9) ((r 42), 0, (-1))).2.2))) n H := hW
  refine lv_aload_n hx hb dX14_more_28 rfl (lv_at hl 0 rfl) ?_
  refine q_get hx hb hts hown hA hW iX14 rO_0 rfl 19 (by decide) (hts (.fieldLink RX14 45 "HighRecipesModel" "now" "[I") (by decide +kernel)) (fun _ h9 => h9) (v := .ref (M + 42)) rfl dX14_more_29 ?_
  refine lv_iload_n hx hb dX14_more_32 rfl (lv_at hl 2 rfl) ?_
  refine q_ald hx hb hA hW (rO_42 (g := (RS r9 (r 9) ((r 42), 0, (-1))).1) rfl) w rfl hw (by decide) (x := ((RS r9 (r 9) ((r 42), 0, (-1))).1) w) rfl dX14_more_33 ?_
  refine lv_istore_n (lv' := [(3, .int (((RS r9 (r 9) ((r 42), 0, (-1))).1) w)), (0, .ref M), (1, .int (nI r9)), (2, .int (nI w))]) hx hb dX14_more_34 rfl hl (by decide) rfl (fun ls hl => ?_)
  refine lv_aload_n hx hb dX14_more_35 rfl (lv_at hl 1 rfl) ?_
  refine q_cv (va_runV (As := []) (rest := []) ⟨hx, hb, hml, hown, hts⟩ (kX14_bringBack l E (rO E f M (rp (rp (rp (rp (rp r 100 (fun _ => 0)) 43 (r 42)) 42 ((RS r9 (r 9) ((r 42), 0, (-1))).1)) 110 (fun _ => nI (RS r9 (r 9) ((r 42), 0, (-1))).2.1)) 111 (fun _ => (RS r9 (r 9) ((r 42), 0, (-1))).2.2))) n M (rp (rp (rp (rp (rp r 100 (fun _ => 0)) 43 (r 42)) 42 ((RS r9 (r 9) ((r 42), 0, (-1))).1)) 110 (fun _ => nI (RS r9 (r 9) ((r 42), 0, (-1))).2.1)) 111 (fun _ => (RS r9 (r 9) ((r 42), 0, (-1))).2.2)) rO_K) (cwV 0 hts gX14_more_X14_bringBack rfl rfl rfl (by decide +kernel) ⟨(by show 1 + 1 ≤ 5 * (6 + 6 * r9) + 30; omega), (by show 8 + (1 + 11) + 60 ≤ 200 * (6 + 6 * r9) + 1200; omega)⟩) (q_pV hA hW hS (ci := 12) rfl rO_0) rfl rfl hl.1 rfl (lv_room (Nat.le_of_ble_eq_true rfl)) dX14_more_36 ⟨Nat.le_of_ble_eq_true rfl, Nat.le_of_ble_eq_true rfl⟩) hS (fun f_36 n_36 H locs hp hW hS => ?_)
  obtain ⟨rfl, rfl⟩ := hp
  have hW : q_W E (rO E f M (rp (rp (rp (rp (rp (rp r 100 (fun _ => 0)) 43 (r 42)) 42 ((RS r9 (r 9) ((r 42), 0, (-1))).1)) 110 (fun _ => nI (RS r9 (r 9) ((r 42), 0, (-1))).2.1)) 111 (fun _ => (RS r9 (r 9) ((r 42), 0, (-1))).2.2)) 42 (r 42))) n H := by rw [rO_rO] at hW; exact hW
  rw [rp_d2] at hW
  have hW : q_W E (rO E f M (rp (rp (rp (rp (rp r 100 (fun _ => 0)) 43 (r 42)) 110 (fun _ => nI (RS r9 (r 9) ((r 42), 0, (-1))).2.1)) 111 (fun _ => (RS r9 (r 9) ((r 42), 0, (-1))).2.2)) 42 (r 42))) n H := hW
  refine lv_iload_n hx hb dX14_more_39 rfl (lv_at hl 0 rfl) ?_
  refine lv_aload_n hx hb dX14_more_40 rfl (lv_at hl 1 rfl) ?_
  refine q_get hx hb hts hown hA hW iX14 rO_0 rfl 19 (by decide) (hts (.fieldLink RX14 45 "HighRecipesModel" "now" "[I") (by decide +kernel)) (fun _ h9 => h9) (v := .ref (M + 42)) rfl dX14_more_41 ?_
  refine lv_iload_n hx hb dX14_more_44 rfl (lv_at hl 3 rfl) ?_
  refine q_ald hx hb hA hW (rO_42 (g := (r 42)) rfl) w rfl (by omega) (by decide) (x := (r 42) w) rfl dX14_more_45 ?_
  refine lv_isub hx hb dX14_more_46 ?_
  have hW := q_sc 110 (x := nI (RS r9 (r 9) ((r 42), 0, (-1))).2.1) hW rfl (by decide)
  rw [rp_d2] at hW
  have hW := q_sc 111 (x := (RS r9 (r 9) ((r 42), 0, (-1))).2.2) hW rfl (by decide)
  rw [rp_d2] at hW
  have hW := q_rr 42 (g := (r 42)) hW rfl
  rw [rp_d2] at hW
  rw [show rp (rp (rp (rp (rp r 100 (fun _ => 0)) 43 (r 42)) 110 (fun _ => nI (RS r9 (r 9) ((r 42), 0, (-1))).2.1)) 111 (fun _ => (RS r9 (r 9) ((r 42), 0, (-1))).2.2)) 42 (r 42) = rp (rp (rp (rp r 100 (fun _ => 0)) 43 (r 42)) 110 (fun _ => nI (RS r9 (r 9) ((r 42), 0, (-1))).2.1)) 111 (fun _ => (RS r9 (r 9) ((r 42), 0, (-1))).2.2) from rp_tr rfl] at hW
  exact q_iret hx hb hr hlocks hW hS ⟨rfl, rfl, rfl⟩ (Nat.le_of_ble_eq_true rfl) (Nat.le_of_ble_eq_true rfl) dX14_more_47

set_option maxHeartbeats 4000000 in
set_option maxRecDepth 100000 in
theorem kX14_more_F (l : Launch) (E : q_E) (f : q_H) (n : Nat) (M : Nat) (r : q_R) (rc : Nat) (x y : Int32)  (hm : RM E f M r) (hrc9 : (r 121 0) = nI rc) (hrc : rc ≤ 6) (hno : x < 0 ∨ nI rc ≤ x) : Met l yX14_more wsX14_more ({ frames := 2, cells := 0, slots := 0, locals := 43 }) (q_P E [.ref M, .int x, .int y] f n) (q_Qi E (fun r0 f1 n1 => 0 = r0 ∧ rO E f M (rp r 100 (fun _ => 1)) = f1 ∧ n = n1)) 0 0 (q_ge E) := by
  refine Met.ofW (cc := cX14_more) (maxL := 4) (ret := (some .int)) (by decide) rfl ?_
  intro p e s m args below meth c s₁ B hml hv
  obtain ⟨rfl, hA, hW⟩ := hv
  have hx := B.exec
  have hb := B.bytes
  have hr := B.returns
  have hts := atoms_spec (ws := wsX14_more) B.pre
  have hown : s.vm.findClass RX14 = some m.cls := findClass_of_methodNamed B.named
  have hlocks := B.notSynchronized
  have hS : va_S (q_ge E) s.heap s.heap [] := va_S.rf
  have iX14 : ∀ w ∈ wsX140, w ∈ wsX14_more := by decide +kernel
  have hl := lv_entry ([.ref M, .int x, .int y]) (n := 4) (Nat.le_of_ble_eq_true rfl)
  rw [lg_entry_eq]
  generalize (lg_sl ([.ref M, .int x, .int y]) ++ List.replicate (4 - (lg_sl ([.ref M, .int x, .int y])).length) Slot.unset).toArray = ls at hl ⊢
  have hl : lv_has ls 4 [(0, .ref M), (1, .int x), (2, .int y)] := hl
  have hmE := hm.eq
  rw [hm.eq] at hW
  refine lv_aload_n hx hb dX14_more_0 rfl (lv_at hl 0 rfl) ?_
  refine lv_iconst (v := 0) hx hb dX14_more_1 (by decide) ?_
  refine q_put hx hb hts hown hA hW hS iX14 tyX14 tyX14_ok nmX14 rO_0 rfl 0 (by decide) (hts (.fieldLink RX14 54 "HighRecipesModel" "thrown" "I") (by decide +kernel)) (fun _ h9 => h9) rfl rfl rfl (Nat.le_of_ble_eq_true rfl) dX14_more_2 (fun H locs hW hS => ?_)
  have hW := q_s0 100 (0) hW rfl (by decide)
  refine lv_aload_n hx hb dX14_more_5 rfl (lv_at hl 0 rfl) ?_
  refine lv_iload_n hx hb dX14_more_6 rfl (lv_at hl 1 rfl) ?_
  refine q_ci (va_runV (As := [.int x]) (rest := []) ⟨hx, hb, hml, hown, hts⟩ (kX14_isRecipe l E (rO E f M (rp r 100 (fun _ => 0))) n M (rp r 100 (fun _ => 0)) rc x rO_K hrc9) (cwV 1 hts gX14_more_X14_isRecipe rfl rfl rfl (by decide +kernel) ⟨(Nat.le_of_ble_eq_true rfl), (Nat.le_of_ble_eq_true rfl)⟩) (q_pV hA hW hS (ci := 12) rfl rO_0) rfl rfl hl.1 rfl (lv_room (Nat.le_of_ble_eq_true rfl)) dX14_more_7 ⟨Nat.le_of_ble_eq_true rfl, Nat.le_of_ble_eq_true rfl⟩) hS (fun r_7 f_7 n_7 H locs hp hW hS => ?_)
  obtain ⟨rfl, rfl, rfl⟩ := hp
  have hW : q_W E (rO E f M (rp r 100 (fun _ => 0))) n H := hW
  refine lv_if_ne (tgt := 19) hx hb dX14_more_10 (by decide) (fun c_10 => False.elim ((fun h9 => h9 (b01_F (b_in_no hno (by omega)))) c_10)) (fun c_10 => ?_)
  refine lv_aload_n hx hb dX14_more_13 rfl (lv_at hl 0 rfl) ?_
  refine lv_iconst (v := 1) hx hb dX14_more_14 (by decide) ?_
  refine q_ci (va_runV (As := [.int 1]) (rest := []) ⟨hx, hb, hml, hown, hts⟩ (kX14_no l E (rO E f M (rp r 100 (fun _ => 0))) n M (rp r 100 (fun _ => 0)) 1 rO_K) (cwV 1 hts gX14_more_X14_no rfl rfl rfl (by decide +kernel) ⟨(Nat.le_of_ble_eq_true rfl), (Nat.le_of_ble_eq_true rfl)⟩) (q_pV hA hW hS (ci := 12) rfl rO_0) rfl rfl hl.1 rfl (lv_room (Nat.le_of_ble_eq_true rfl)) dX14_more_15 ⟨Nat.le_of_ble_eq_true rfl, Nat.le_of_ble_eq_true rfl⟩) hS (fun r_15 f_15 n_15 H locs hp hW hS => ?_)
  obtain ⟨rfl, rfl, rfl⟩ := hp
  have hW : q_W E (rO E f M (rp (rp r 100 (fun _ => 0)) 100 (fun _ => 1))) n H := by rw [rO_rO] at hW; exact hW
  rw [rp_d0] at hW
  have hW : q_W E (rO E f M (rp r 100 (fun _ => 1))) n H := hW
  exact q_iret hx hb hr hlocks hW hS ⟨rfl, rfl, rfl⟩ (Nat.le_of_ble_eq_true rfl) (Nat.le_of_ble_eq_true rfl) dX14_more_18

set_option maxHeartbeats 4000000 in
set_option maxRecDepth 100000 in
theorem kX14_minutesOfRecipe (l : Launch) (E : q_E) (f : q_H) (n : Nat) (M : Nat) (r : q_R) (pn BB : Nat) (Bw : q_R) (RS : Nat → q_S) (r9 : Nat) (rc : Nat)  (hm : RM E f M r) (hpn9 : (r 120 0) = nI pn) (hpn : pn ≤ 8) (hB8 : bR r 8 = Bw) (hB29 : BB ≤ 2 ^ 29) (hinv : k_inv BB ((r 42), 0, (-1))) (hvo : v_ok pn (r 9) (r 42)) (hRS : mRS Bw pn 400 400 80 RS (r9 + 1)) (hrc9 : (r 121 0) = nI rc) (hrc : rc ≤ 6) (hrl : r9 < rc) : Met l yX14_minutesOfRecipe wsX14_minutesOfRecipe ({ frames := 5 * (6 + 6 * r9) + 31, cells := 0, slots := 0, locals := 200 * (6 + 6 * r9) + 1300 }) (q_P E [.ref M, .int (nI r9)] f n) (q_Qi E (fun r0 f1 n1 => (RS r9 (r 9) ((r 42), 0, (-1))).1 3 - (r 42) 3 = r0 ∧ rO E f M (rp (rp (rp (rp r 100 (fun _ => 0)) 43 (r 42)) 110 (fun _ => nI (RS r9 (r 9) ((r 42), 0, (-1))).2.1)) 111 (fun _ => (RS r9 (r 9) ((r 42), 0, (-1))).2.2)) = f1 ∧ n = n1)) 0 0 (q_ge E) := by
  refine Met.ofW (cc := cX14_minutesOfRecipe) (maxL := 2) (ret := (some .int)) (by decide) rfl ?_
  intro p e s m args below meth c s₁ B hml hv
  obtain ⟨rfl, hA, hW⟩ := hv
  have hx := B.exec
  have hb := B.bytes
  have hr := B.returns
  have hts := atoms_spec (ws := wsX14_minutesOfRecipe) B.pre
  have hown : s.vm.findClass RX14 = some m.cls := findClass_of_methodNamed B.named
  have hlocks := B.notSynchronized
  have hS : va_S (q_ge E) s.heap s.heap [] := va_S.rf
  have hl := lv_entry ([.ref M, .int (nI r9)]) (n := 2) (Nat.le_of_ble_eq_true rfl)
  rw [lg_entry_eq]
  generalize (lg_sl ([.ref M, .int (nI r9)]) ++ List.replicate (2 - (lg_sl ([.ref M, .int (nI r9)])).length) Slot.unset).toArray = ls at hl ⊢
  have hl : lv_has ls 2 [(0, .ref M), (1, .int (nI r9))] := hl
  have hmE := hm.eq
  rw [hm.eq] at hW
  refine lv_aload_n hx hb dX14_minutesOfRecipe_0 rfl (lv_at hl 0 rfl) ?_
  refine lv_iload_n hx hb dX14_minutesOfRecipe_1 rfl (lv_at hl 1 rfl) ?_
  refine lv_iconst (v := 3) hx hb dX14_minutesOfRecipe_2 (by decide) ?_
  refine q_ci (va_runV (As := [.int (nI r9), .int 3]) (rest := []) ⟨hx, hb, hml, hown, hts⟩ (kX14_more l E (rO E f M r) n M r pn BB Bw RS r9 rc 3 rO_K hpn9 hpn hB8 hB29 hinv hvo hRS hrc9 hrc hrl (by decide)) (cwV 2 hts gX14_minutesOfRecipe_X14_more rfl rfl rfl (by decide +kernel) ⟨(by show (5 * (6 + 6 * r9) + 30) + 1 ≤ 5 * (6 + 6 * r9) + 31; omega), (by show 8 + (4 + 11) + (200 * (6 + 6 * r9) + 1200) ≤ 200 * (6 + 6 * r9) + 1300; omega)⟩) (q_pV hA hW hS (ci := 12) rfl rO_0) rfl rfl hl.1 rfl (lv_room (Nat.le_of_ble_eq_true rfl)) dX14_minutesOfRecipe_3 ⟨Nat.le_of_ble_eq_true rfl, Nat.le_of_ble_eq_true rfl⟩) hS (fun r_3 f_3 n_3 H locs hp hW hS => ?_)
  obtain ⟨rfl, rfl, rfl⟩ := hp
  have hW : q_W E (rO E f M (rp (rp (rp (rp r 100 (fun _ => 0)) 43 (r 42)) 110 (fun _ => nI (RS r9 (r 9) ((r 42), 0, (-1))).2.1)) 111 (fun _ => (RS r9 (r 9) ((r 42), 0, (-1))).2.2))) n H := by rw [rO_rO] at hW; exact hW
  have hW : q_W E (rO E f M (rp (rp (rp (rp r 100 (fun _ => 0)) 43 (r 42)) 110 (fun _ => nI (RS r9 (r 9) ((r 42), 0, (-1))).2.1)) 111 (fun _ => (RS r9 (r 9) ((r 42), 0, (-1))).2.2))) n H := hW
  exact q_iret hx hb hr hlocks hW hS ⟨rfl, rfl, rfl⟩ (Nat.le_of_ble_eq_true rfl) (Nat.le_of_ble_eq_true rfl) dX14_minutesOfRecipe_6

set_option maxHeartbeats 4000000 in
set_option maxRecDepth 100000 in
theorem kX14_minutesOfRecipe_F (l : Launch) (E : q_E) (f : q_H) (n : Nat) (M : Nat) (r : q_R) (rc : Nat) (x : Int32)  (hm : RM E f M r) (hrc9 : (r 121 0) = nI rc) (hrc : rc ≤ 6) (hno : x < 0 ∨ nI rc ≤ x) : Met l yX14_minutesOfRecipe wsX14_minutesOfRecipe ({ frames := 3, cells := 0, slots := 0, locals := 66 }) (q_P E [.ref M, .int x] f n) (q_Qi E (fun r0 f1 n1 => 0 = r0 ∧ rO E f M (rp r 100 (fun _ => 1)) = f1 ∧ n = n1)) 0 0 (q_ge E) := by
  refine Met.ofW (cc := cX14_minutesOfRecipe) (maxL := 2) (ret := (some .int)) (by decide) rfl ?_
  intro p e s m args below meth c s₁ B hml hv
  obtain ⟨rfl, hA, hW⟩ := hv
  have hx := B.exec
  have hb := B.bytes
  have hr := B.returns
  have hts := atoms_spec (ws := wsX14_minutesOfRecipe) B.pre
  have hown : s.vm.findClass RX14 = some m.cls := findClass_of_methodNamed B.named
  have hlocks := B.notSynchronized
  have hS : va_S (q_ge E) s.heap s.heap [] := va_S.rf
  have hl := lv_entry ([.ref M, .int x]) (n := 2) (Nat.le_of_ble_eq_true rfl)
  rw [lg_entry_eq]
  generalize (lg_sl ([.ref M, .int x]) ++ List.replicate (2 - (lg_sl ([.ref M, .int x])).length) Slot.unset).toArray = ls at hl ⊢
  have hl : lv_has ls 2 [(0, .ref M), (1, .int x)] := hl
  have hmE := hm.eq
  rw [hm.eq] at hW
  refine lv_aload_n hx hb dX14_minutesOfRecipe_0 rfl (lv_at hl 0 rfl) ?_
  refine lv_iload_n hx hb dX14_minutesOfRecipe_1 rfl (lv_at hl 1 rfl) ?_
  refine lv_iconst (v := 3) hx hb dX14_minutesOfRecipe_2 (by decide) ?_
  refine q_ci (va_runV (As := [.int x, .int 3]) (rest := []) ⟨hx, hb, hml, hown, hts⟩ (kX14_more_F l E (rO E f M r) n M r rc x 3 rO_K hrc9 (by assumption) (by assumption)) (cwV 2 hts gX14_minutesOfRecipe_X14_more rfl rfl rfl (by decide +kernel) ⟨(Nat.le_of_ble_eq_true rfl), (Nat.le_of_ble_eq_true rfl)⟩) (q_pV hA hW hS (ci := 12) rfl rO_0) rfl rfl hl.1 rfl (lv_room (Nat.le_of_ble_eq_true rfl)) dX14_minutesOfRecipe_3 ⟨Nat.le_of_ble_eq_true rfl, Nat.le_of_ble_eq_true rfl⟩) hS (fun r_3 f_3 n_3 H locs hp hW hS => ?_)
  obtain ⟨rfl, rfl, rfl⟩ := hp
  have hW : q_W E (rO E f M (rp r 100 (fun _ => 1))) n H := by rw [rO_rO] at hW; exact hW
  have hW : q_W E (rO E f M (rp r 100 (fun _ => 1))) n H := hW
  exact q_iret hx hb hr hlocks hW hS ⟨rfl, rfl, rfl⟩ (Nat.le_of_ble_eq_true rfl) (Nat.le_of_ble_eq_true rfl) dX14_minutesOfRecipe_6

set_option maxHeartbeats 4000000 in
set_option maxRecDepth 100000 in
theorem kX14_warningsOfRecipe (l : Launch) (E : q_E) (f : q_H) (n : Nat) (M : Nat) (r : q_R) (pn BB : Nat) (Bw : q_R) (RS : Nat → q_S) (r9 : Nat) (rc : Nat)  (hm : RM E f M r) (hpn9 : (r 120 0) = nI pn) (hpn : pn ≤ 8) (hB8 : bR r 8 = Bw) (hB29 : BB ≤ 2 ^ 29) (hinv : k_inv BB ((r 42), 0, (-1))) (hvo : v_ok pn (r 9) (r 42)) (hRS : mRS Bw pn 400 400 80 RS (r9 + 1)) (hrc9 : (r 121 0) = nI rc) (hrc : rc ≤ 6) (hrl : r9 < rc) : Met l yX14_warningsOfRecipe wsX14_warningsOfRecipe ({ frames := 5 * (6 + 6 * r9) + 31, cells := 0, slots := 0, locals := 200 * (6 + 6 * r9) + 1300 }) (q_P E [.ref M, .int (nI r9)] f n) (q_Qi E (fun r0 f1 n1 => (RS r9 (r 9) ((r 42), 0, (-1))).1 4 - (r 42) 4 = r0 ∧ rO E f M (rp (rp (rp (rp r 100 (fun _ => 0)) 43 (r 42)) 110 (fun _ => nI (RS r9 (r 9) ((r 42), 0, (-1))).2.1)) 111 (fun _ => (RS r9 (r 9) ((r 42), 0, (-1))).2.2)) = f1 ∧ n = n1)) 0 0 (q_ge E) := by
  refine Met.ofW (cc := cX14_warningsOfRecipe) (maxL := 2) (ret := (some .int)) (by decide) rfl ?_
  intro p e s m args below meth c s₁ B hml hv
  obtain ⟨rfl, hA, hW⟩ := hv
  have hx := B.exec
  have hb := B.bytes
  have hr := B.returns
  have hts := atoms_spec (ws := wsX14_warningsOfRecipe) B.pre
  have hown : s.vm.findClass RX14 = some m.cls := findClass_of_methodNamed B.named
  have hlocks := B.notSynchronized
  have hS : va_S (q_ge E) s.heap s.heap [] := va_S.rf
  have hl := lv_entry ([.ref M, .int (nI r9)]) (n := 2) (Nat.le_of_ble_eq_true rfl)
  rw [lg_entry_eq]
  generalize (lg_sl ([.ref M, .int (nI r9)]) ++ List.replicate (2 - (lg_sl ([.ref M, .int (nI r9)])).length) Slot.unset).toArray = ls at hl ⊢
  have hl : lv_has ls 2 [(0, .ref M), (1, .int (nI r9))] := hl
  have hmE := hm.eq
  rw [hm.eq] at hW
  refine lv_aload_n hx hb dX14_warningsOfRecipe_0 rfl (lv_at hl 0 rfl) ?_
  refine lv_iload_n hx hb dX14_warningsOfRecipe_1 rfl (lv_at hl 1 rfl) ?_
  refine lv_iconst (v := 4) hx hb dX14_warningsOfRecipe_2 (by decide) ?_
  refine q_ci (va_runV (As := [.int (nI r9), .int 4]) (rest := []) ⟨hx, hb, hml, hown, hts⟩ (kX14_more l E (rO E f M r) n M r pn BB Bw RS r9 rc 4 rO_K hpn9 hpn hB8 hB29 hinv hvo hRS hrc9 hrc hrl (by decide)) (cwV 2 hts gX14_warningsOfRecipe_X14_more rfl rfl rfl (by decide +kernel) ⟨(by show (5 * (6 + 6 * r9) + 30) + 1 ≤ 5 * (6 + 6 * r9) + 31; omega), (by show 8 + (4 + 11) + (200 * (6 + 6 * r9) + 1200) ≤ 200 * (6 + 6 * r9) + 1300; omega)⟩) (q_pV hA hW hS (ci := 12) rfl rO_0) rfl rfl hl.1 rfl (lv_room (Nat.le_of_ble_eq_true rfl)) dX14_warningsOfRecipe_3 ⟨Nat.le_of_ble_eq_true rfl, Nat.le_of_ble_eq_true rfl⟩) hS (fun r_3 f_3 n_3 H locs hp hW hS => ?_)
  obtain ⟨rfl, rfl, rfl⟩ := hp
  have hW : q_W E (rO E f M (rp (rp (rp (rp r 100 (fun _ => 0)) 43 (r 42)) 110 (fun _ => nI (RS r9 (r 9) ((r 42), 0, (-1))).2.1)) 111 (fun _ => (RS r9 (r 9) ((r 42), 0, (-1))).2.2))) n H := by rw [rO_rO] at hW; exact hW
  have hW : q_W E (rO E f M (rp (rp (rp (rp r 100 (fun _ => 0)) 43 (r 42)) 110 (fun _ => nI (RS r9 (r 9) ((r 42), 0, (-1))).2.1)) 111 (fun _ => (RS r9 (r 9) ((r 42), 0, (-1))).2.2))) n H := hW
  exact q_iret hx hb hr hlocks hW hS ⟨rfl, rfl, rfl⟩ (Nat.le_of_ble_eq_true rfl) (Nat.le_of_ble_eq_true rfl) dX14_warningsOfRecipe_6

set_option maxHeartbeats 4000000 in
set_option maxRecDepth 100000 in
theorem kX14_warningsOfRecipe_F (l : Launch) (E : q_E) (f : q_H) (n : Nat) (M : Nat) (r : q_R) (rc : Nat) (x : Int32)  (hm : RM E f M r) (hrc9 : (r 121 0) = nI rc) (hrc : rc ≤ 6) (hno : x < 0 ∨ nI rc ≤ x) : Met l yX14_warningsOfRecipe wsX14_warningsOfRecipe ({ frames := 3, cells := 0, slots := 0, locals := 66 }) (q_P E [.ref M, .int x] f n) (q_Qi E (fun r0 f1 n1 => 0 = r0 ∧ rO E f M (rp r 100 (fun _ => 1)) = f1 ∧ n = n1)) 0 0 (q_ge E) := by
  refine Met.ofW (cc := cX14_warningsOfRecipe) (maxL := 2) (ret := (some .int)) (by decide) rfl ?_
  intro p e s m args below meth c s₁ B hml hv
  obtain ⟨rfl, hA, hW⟩ := hv
  have hx := B.exec
  have hb := B.bytes
  have hr := B.returns
  have hts := atoms_spec (ws := wsX14_warningsOfRecipe) B.pre
  have hown : s.vm.findClass RX14 = some m.cls := findClass_of_methodNamed B.named
  have hlocks := B.notSynchronized
  have hS : va_S (q_ge E) s.heap s.heap [] := va_S.rf
  have hl := lv_entry ([.ref M, .int x]) (n := 2) (Nat.le_of_ble_eq_true rfl)
  rw [lg_entry_eq]
  generalize (lg_sl ([.ref M, .int x]) ++ List.replicate (2 - (lg_sl ([.ref M, .int x])).length) Slot.unset).toArray = ls at hl ⊢
  have hl : lv_has ls 2 [(0, .ref M), (1, .int x)] := hl
  have hmE := hm.eq
  rw [hm.eq] at hW
  refine lv_aload_n hx hb dX14_warningsOfRecipe_0 rfl (lv_at hl 0 rfl) ?_
  refine lv_iload_n hx hb dX14_warningsOfRecipe_1 rfl (lv_at hl 1 rfl) ?_
  refine lv_iconst (v := 4) hx hb dX14_warningsOfRecipe_2 (by decide) ?_
  refine q_ci (va_runV (As := [.int x, .int 4]) (rest := []) ⟨hx, hb, hml, hown, hts⟩ (kX14_more_F l E (rO E f M r) n M r rc x 4 rO_K hrc9 (by assumption) (by assumption)) (cwV 2 hts gX14_warningsOfRecipe_X14_more rfl rfl rfl (by decide +kernel) ⟨(Nat.le_of_ble_eq_true rfl), (Nat.le_of_ble_eq_true rfl)⟩) (q_pV hA hW hS (ci := 12) rfl rO_0) rfl rfl hl.1 rfl (lv_room (Nat.le_of_ble_eq_true rfl)) dX14_warningsOfRecipe_3 ⟨Nat.le_of_ble_eq_true rfl, Nat.le_of_ble_eq_true rfl⟩) hS (fun r_3 f_3 n_3 H locs hp hW hS => ?_)
  obtain ⟨rfl, rfl, rfl⟩ := hp
  have hW : q_W E (rO E f M (rp r 100 (fun _ => 1))) n H := by rw [rO_rO] at hW; exact hW
  have hW : q_W E (rO E f M (rp r 100 (fun _ => 1))) n H := hW
  exact q_iret hx hb hr hlocks hW hS ⟨rfl, rfl, rfl⟩ (Nat.le_of_ble_eq_true rfl) (Nat.le_of_ble_eq_true rfl) dX14_warningsOfRecipe_6

set_option maxHeartbeats 4000000 in
set_option maxRecDepth 100000 in
theorem kX14_firstWarning (l : Launch) (E : q_E) (f : q_H) (n : Nat) (M : Nat) (r : q_R) (pn BB : Nat) (Bw : q_R) (RS : Nat → q_S) (r9 : Nat) (rc : Nat)  (hm : RM E f M r) (hpn9 : (r 120 0) = nI pn) (hpn : pn ≤ 8) (hB8 : bR r 8 = Bw) (hB29 : BB ≤ 2 ^ 29) (hinv : k_inv BB ((r 42), 0, (-1))) (hvo : v_ok pn (r 9) (r 42)) (hRS : mRS Bw pn 400 400 80 RS (r9 + 1)) (hrc9 : (r 121 0) = nI rc) (hrc : rc ≤ 6) (hrl : r9 < rc) : Met l yX14_firstWarning wsX14_firstWarning ({ frames := 5 * (6 + 6 * r9) + 31, cells := 0, slots := 0, locals := 200 * (6 + 6 * r9) + 1300 }) (q_P E [.ref M, .int (nI r9)] f n) (q_Qi E (fun r0 f1 n1 => (RS r9 (r 9) ((r 42), 0, (-1))).2.2 = r0 ∧ rO E f M (rp (rp (rp (rp r 100 (fun _ => 0)) 43 (r 42)) 110 (fun _ => nI (RS r9 (r 9) ((r 42), 0, (-1))).2.1)) 111 (fun _ => (RS r9 (r 9) ((r 42), 0, (-1))).2.2)) = f1 ∧ n = n1)) 0 0 (q_ge E) := by
  refine Met.ofW (cc := cX14_firstWarning) (maxL := 2) (ret := (some .int)) (by decide) rfl ?_
  intro p e s m args below meth c s₁ B hml hv
  obtain ⟨rfl, hA, hW⟩ := hv
  have hx := B.exec
  have hb := B.bytes
  have hr := B.returns
  have hts := atoms_spec (ws := wsX14_firstWarning) B.pre
  have hown : s.vm.findClass RX14 = some m.cls := findClass_of_methodNamed B.named
  have hlocks := B.notSynchronized
  have hS : va_S (q_ge E) s.heap s.heap [] := va_S.rf
  have iX14 : ∀ w ∈ wsX140, w ∈ wsX14_firstWarning := by decide +kernel
  have hl := lv_entry ([.ref M, .int (nI r9)]) (n := 2) (Nat.le_of_ble_eq_true rfl)
  rw [lg_entry_eq]
  generalize (lg_sl ([.ref M, .int (nI r9)]) ++ List.replicate (2 - (lg_sl ([.ref M, .int (nI r9)])).length) Slot.unset).toArray = ls at hl ⊢
  have hl : lv_has ls 2 [(0, .ref M), (1, .int (nI r9))] := hl
  have hmE := hm.eq
  rw [hm.eq] at hW
  refine lv_aload_n hx hb dX14_firstWarning_0 rfl (lv_at hl 0 rfl) ?_
  refine lv_iload_n hx hb dX14_firstWarning_1 rfl (lv_at hl 1 rfl) ?_
  refine lv_iconst (v := 4) hx hb dX14_firstWarning_2 (by decide) ?_
  refine q_ci (va_runV (As := [.int (nI r9), .int 4]) (rest := []) ⟨hx, hb, hml, hown, hts⟩ (kX14_more l E (rO E f M r) n M r pn BB Bw RS r9 rc 4 rO_K hpn9 hpn hB8 hB29 hinv hvo hRS hrc9 hrc hrl (by decide)) (cwV 2 hts gX14_firstWarning_X14_more rfl rfl rfl (by decide +kernel) ⟨(by show (5 * (6 + 6 * r9) + 30) + 1 ≤ 5 * (6 + 6 * r9) + 31; omega), (by show 8 + (4 + 11) + (200 * (6 + 6 * r9) + 1200) ≤ 200 * (6 + 6 * r9) + 1300; omega)⟩) (q_pV hA hW hS (ci := 12) rfl rO_0) rfl rfl hl.1 rfl (lv_room (Nat.le_of_ble_eq_true rfl)) dX14_firstWarning_3 ⟨Nat.le_of_ble_eq_true rfl, Nat.le_of_ble_eq_true rfl⟩) hS (fun r_3 f_3 n_3 H locs hp hW hS => ?_)
  obtain ⟨rfl, rfl, rfl⟩ := hp
  have hW : q_W E (rO E f M (rp (rp (rp (rp r 100 (fun _ => 0)) 43 (r 42)) 110 (fun _ => nI (RS r9 (r 9) ((r 42), 0, (-1))).2.1)) 111 (fun _ => (RS r9 (r 9) ((r 42), 0, (-1))).2.2))) n H := by rw [rO_rO] at hW; exact hW
  have hW : q_W E (rO E f M (rp (rp (rp (rp r 100 (fun _ => 0)) 43 (r 42)) 110 (fun _ => nI (RS r9 (r 9) ((r 42), 0, (-1))).2.1)) 111 (fun _ => (RS r9 (r 9) ((r 42), 0, (-1))).2.2))) n H := hW
  refine lv_pop hx hb dX14_firstWarning_6 rfl ?_
  refine lv_aload_n hx hb dX14_firstWarning_7 rfl (lv_at hl 0 rfl) ?_
  refine q_get hx hb hts hown hA hW iX14 rO_0 rfl 0 (by decide) (hts (.fieldLink RX14 54 "HighRecipesModel" "thrown" "I") (by decide +kernel)) (fun _ h9 => h9) (v := .int 0) rfl dX14_firstWarning_8 ?_
  refine lv_if_ne (tgt := 21) hx hb dX14_firstWarning_11 (by decide) (fun c_11 => False.elim ((fun h9 => h9 rfl) c_11)) (fun c_11 => ?_)
  refine lv_aload_n hx hb dX14_firstWarning_14 rfl (lv_at hl 0 rfl) ?_
  refine q_get hx hb hts hown hA hW iX14 rO_0 rfl 22 (by decide) (hts (.fieldLink RX14 303 "HighRecipesModel" "firstWarned" "I") (by decide +kernel)) (fun _ h9 => h9) (v := .int ((RS r9 (r 9) ((r 42), 0, (-1))).2.2)) rfl dX14_firstWarning_15 ?_
  refine lv_goto (tgt := 22) hx hb dX14_firstWarning_18 (by decide) ?_
  exact q_iret hx hb hr hlocks hW hS ⟨rfl, rfl, rfl⟩ (Nat.le_of_ble_eq_true rfl) (Nat.le_of_ble_eq_true rfl) dX14_firstWarning_22

set_option maxHeartbeats 4000000 in
set_option maxRecDepth 100000 in
theorem kX14_firstWarning_F (l : Launch) (E : q_E) (f : q_H) (n : Nat) (M : Nat) (r : q_R) (rc : Nat) (x : Int32)  (hm : RM E f M r) (hrc9 : (r 121 0) = nI rc) (hrc : rc ≤ 6) (hno : x < 0 ∨ nI rc ≤ x) : Met l yX14_firstWarning wsX14_firstWarning ({ frames := 3, cells := 0, slots := 0, locals := 66 }) (q_P E [.ref M, .int x] f n) (q_Qi E (fun r0 f1 n1 => 0 = r0 ∧ rO E f M (rp r 100 (fun _ => 1)) = f1 ∧ n = n1)) 0 0 (q_ge E) := by
  refine Met.ofW (cc := cX14_firstWarning) (maxL := 2) (ret := (some .int)) (by decide) rfl ?_
  intro p e s m args below meth c s₁ B hml hv
  obtain ⟨rfl, hA, hW⟩ := hv
  have hx := B.exec
  have hb := B.bytes
  have hr := B.returns
  have hts := atoms_spec (ws := wsX14_firstWarning) B.pre
  have hown : s.vm.findClass RX14 = some m.cls := findClass_of_methodNamed B.named
  have hlocks := B.notSynchronized
  have hS : va_S (q_ge E) s.heap s.heap [] := va_S.rf
  have iX14 : ∀ w ∈ wsX140, w ∈ wsX14_firstWarning := by decide +kernel
  have hl := lv_entry ([.ref M, .int x]) (n := 2) (Nat.le_of_ble_eq_true rfl)
  rw [lg_entry_eq]
  generalize (lg_sl ([.ref M, .int x]) ++ List.replicate (2 - (lg_sl ([.ref M, .int x])).length) Slot.unset).toArray = ls at hl ⊢
  have hl : lv_has ls 2 [(0, .ref M), (1, .int x)] := hl
  have hmE := hm.eq
  rw [hm.eq] at hW
  refine lv_aload_n hx hb dX14_firstWarning_0 rfl (lv_at hl 0 rfl) ?_
  refine lv_iload_n hx hb dX14_firstWarning_1 rfl (lv_at hl 1 rfl) ?_
  refine lv_iconst (v := 4) hx hb dX14_firstWarning_2 (by decide) ?_
  refine q_ci (va_runV (As := [.int x, .int 4]) (rest := []) ⟨hx, hb, hml, hown, hts⟩ (kX14_more_F l E (rO E f M r) n M r rc x 4 rO_K hrc9 (by assumption) (by assumption)) (cwV 2 hts gX14_firstWarning_X14_more rfl rfl rfl (by decide +kernel) ⟨(Nat.le_of_ble_eq_true rfl), (Nat.le_of_ble_eq_true rfl)⟩) (q_pV hA hW hS (ci := 12) rfl rO_0) rfl rfl hl.1 rfl (lv_room (Nat.le_of_ble_eq_true rfl)) dX14_firstWarning_3 ⟨Nat.le_of_ble_eq_true rfl, Nat.le_of_ble_eq_true rfl⟩) hS (fun r_3 f_3 n_3 H locs hp hW hS => ?_)
  obtain ⟨rfl, rfl, rfl⟩ := hp
  have hW : q_W E (rO E f M (rp r 100 (fun _ => 1))) n H := by rw [rO_rO] at hW; exact hW
  have hW : q_W E (rO E f M (rp r 100 (fun _ => 1))) n H := hW
  refine lv_pop hx hb dX14_firstWarning_6 rfl ?_
  refine lv_aload_n hx hb dX14_firstWarning_7 rfl (lv_at hl 0 rfl) ?_
  refine q_get hx hb hts hown hA hW iX14 rO_0 rfl 0 (by decide) (hts (.fieldLink RX14 54 "HighRecipesModel" "thrown" "I") (by decide +kernel)) (fun _ h9 => h9) (v := .int 1) rfl dX14_firstWarning_8 ?_
  refine lv_if_ne (tgt := 21) hx hb dX14_firstWarning_11 (by decide) (fun c_11 => ?_) (fun c_11 => False.elim ((fun h9 => absurd h9 (by decide)) c_11))
  refine lv_iconst (v := 0) hx hb dX14_firstWarning_21 (by decide) ?_
  exact q_iret hx hb hr hlocks hW hS ⟨rfl, rfl, rfl⟩ (Nat.le_of_ble_eq_true rfl) (Nat.le_of_ble_eq_true rfl) dX14_firstWarning_22

set_option maxHeartbeats 4000000 in
set_option maxRecDepth 100000 in
theorem kX14_doneBehind (l : Launch) (E : q_E) (f : q_H) (n : Nat) (M : Nat) (r : q_R) (pn BB : Nat) (Bw : q_R) (RS : Nat → q_S) (r9 : Nat) (rc : Nat) (i : Nat)  (hm : RM E f M r) (hpn9 : (r 120 0) = nI pn) (hpn : pn ≤ 8) (hB8 : bR r 8 = Bw) (hB29 : BB ≤ 2 ^ 29) (hinv : k_inv BB ((r 42), 0, (-1))) (hvo : v_ok pn (r 9) (r 42)) (hRS : mRS Bw pn 400 400 80 RS (r9 + 1)) (hrc9 : (r 121 0) = nI rc) (hrc : rc ≤ 6) (hrl : r9 < rc) (hi : i < pn) : Met l yX14_doneBehind wsX14_doneBehind ({ frames := 5 * (6 + 6 * r9) + 31, cells := 0, slots := 0, locals := 200 * (6 + 6 * r9) + 1300 }) (q_P E [.ref M, .int (nI r9), .int (nI i)] f n) (q_Qi E (fun r0 f1 n1 => (RS r9 (r 9) ((r 42), 0, (-1))).1 (55 + 4 * i) - (r 42) (55 + 4 * i) + (r 42) (55 + 4 * i) = r0 ∧ rO E f M (rp (rp (rp (rp r 100 (fun _ => 0)) 43 (r 42)) 110 (fun _ => nI (RS r9 (r 9) ((r 42), 0, (-1))).2.1)) 111 (fun _ => (RS r9 (r 9) ((r 42), 0, (-1))).2.2)) = f1 ∧ n = n1)) 0 0 (q_ge E) := by
  refine Met.ofW (cc := cX14_doneBehind) (maxL := 3) (ret := (some .int)) (by decide) rfl ?_
  intro p e s m args below meth c s₁ B hml hv
  obtain ⟨rfl, hA, hW⟩ := hv
  have hx := B.exec
  have hb := B.bytes
  have hr := B.returns
  have hts := atoms_spec (ws := wsX14_doneBehind) B.pre
  have hown : s.vm.findClass RX14 = some m.cls := findClass_of_methodNamed B.named
  have hlocks := B.notSynchronized
  have hS : va_S (q_ge E) s.heap s.heap [] := va_S.rf
  have iX14 : ∀ w ∈ wsX140, w ∈ wsX14_doneBehind := by decide +kernel
  have hl := lv_entry ([.ref M, .int (nI r9), .int (nI i)]) (n := 3) (Nat.le_of_ble_eq_true rfl)
  rw [lg_entry_eq]
  generalize (lg_sl ([.ref M, .int (nI r9), .int (nI i)]) ++ List.replicate (3 - (lg_sl ([.ref M, .int (nI r9), .int (nI i)])).length) Slot.unset).toArray = ls at hl ⊢
  have hl : lv_has ls 3 [(0, .ref M), (1, .int (nI r9)), (2, .int (nI i))] := hl
  have hmE := hm.eq
  rw [hm.eq] at hW
  refine lv_aload_n hx hb dX14_doneBehind_0 rfl (lv_at hl 0 rfl) ?_
  refine lv_iconst (v := 0) hx hb dX14_doneBehind_1 (by decide) ?_
  refine q_put hx hb hts hown hA hW hS iX14 tyX14 tyX14_ok nmX14 rO_0 rfl 0 (by decide) (hts (.fieldLink RX14 54 "HighRecipesModel" "thrown" "I") (by decide +kernel)) (fun _ h9 => h9) rfl rfl rfl (Nat.le_of_ble_eq_true rfl) dX14_doneBehind_2 (fun H locs hW hS => ?_)
  have hW := q_s0 100 (0) hW rfl (by decide)
  refine lv_aload_n hx hb dX14_doneBehind_5 rfl (lv_at hl 0 rfl) ?_
  refine lv_iload_n hx hb dX14_doneBehind_6 rfl (lv_at hl 1 rfl) ?_
  refine q_ci (va_runV (As := [.int (nI r9)]) (rest := []) ⟨hx, hb, hml, hown, hts⟩ (kX14_isRecipe l E (rO E f M (rp r 100 (fun _ => 0))) n M (rp r 100 (fun _ => 0)) rc (nI r9) rO_K hrc9) (cwV 1 hts gX14_doneBehind_X14_isRecipe rfl rfl rfl (by decide +kernel) ⟨(by show 1 + 1 ≤ 5 * (6 + 6 * r9) + 31; omega), (by show 8 + (2 + 11) + 22 ≤ 200 * (6 + 6 * r9) + 1300; omega)⟩) (q_pV hA hW hS (ci := 12) rfl rO_0) rfl rfl hl.1 rfl (lv_room (Nat.le_of_ble_eq_true rfl)) dX14_doneBehind_7 ⟨Nat.le_of_ble_eq_true rfl, Nat.le_of_ble_eq_true rfl⟩) hS (fun r_7 f_7 n_7 H locs hp hW hS => ?_)
  obtain ⟨rfl, rfl, rfl⟩ := hp
  have hW : q_W E (rO E f M (rp r 100 (fun _ => 0))) n H := hW
  refine lv_if_eq (tgt := 21) hx hb dX14_doneBehind_10 (by decide) (fun c_10 => False.elim ((fun h9 => absurd h9 (b01_T (b_in_ix hrl (by omega)))) c_10)) (fun c_10 => ?_)
  refine lv_aload_n hx hb dX14_doneBehind_13 rfl (lv_at hl 0 rfl) ?_
  refine lv_iload_n hx hb dX14_doneBehind_14 rfl (lv_at hl 2 rfl) ?_
  refine q_ci (va_runV (As := [.int (nI i)]) (rest := []) ⟨hx, hb, hml, hown, hts⟩ (kX14_isPan l E (rO E f M (rp r 100 (fun _ => 0))) n M (rp r 100 (fun _ => 0)) pn (nI i) rO_K hpn9) (cwV 1 hts gX14_doneBehind_X14_isPan rfl rfl rfl (by decide +kernel) ⟨(by show 1 + 1 ≤ 5 * (6 + 6 * r9) + 31; omega), (by show 8 + (2 + 11) + 22 ≤ 200 * (6 + 6 * r9) + 1300; omega)⟩) (q_pV hA hW hS (ci := 12) rfl rO_0) rfl rfl hl.1 rfl (lv_room (Nat.le_of_ble_eq_true rfl)) dX14_doneBehind_15 ⟨Nat.le_of_ble_eq_true rfl, Nat.le_of_ble_eq_true rfl⟩) hS (fun r_15 f_15 n_15 H locs hp hW hS => ?_)
  obtain ⟨rfl, rfl, rfl⟩ := hp
  have hW : q_W E (rO E f M (rp r 100 (fun _ => 0))) n H := hW
  refine lv_if_ne (tgt := 27) hx hb dX14_doneBehind_18 (by decide) (fun c_18 => ?_) (fun c_18 => False.elim ((fun h9 => absurd h9 (b01_T (b_in_ix hi (by omega)))) c_18))
  refine lv_aload_n hx hb dX14_doneBehind_27 rfl (lv_at hl 0 rfl) ?_
  refine lv_iload_n hx hb dX14_doneBehind_28 rfl (lv_at hl 1 rfl) ?_
  refine lv_iload_n hx hb dX14_doneBehind_29 rfl (lv_at hl 2 rfl) ?_
  refine lv_iconst (v := 3) hx hb dX14_doneBehind_30 (by decide) ?_
  refine q_ci (va_runS (As := [.int (nI i), .int 3]) (rest := [.int (nI r9), .ref M]) ⟨hx, hb, hml, hown, hts⟩ (kX14_of_3 l E (rO E f M (rp r 100 (fun _ => 0))) n i) (va_cwS 2 hts gX14_doneBehind_X14_of rfl rfl rfl (by decide +kernel) ⟨(by show 0 + 1 ≤ 5 * (6 + 6 * r9) + 31; omega), (by show 8 + (2 + 11) + 0 ≤ 200 * (6 + 6 * r9) + 1300; omega)⟩) (q_pS hA hW hS) rfl rfl hl.1 rfl (lv_room (Nat.le_of_ble_eq_true rfl)) dX14_doneBehind_31 ⟨Nat.le_of_ble_eq_true rfl, Nat.le_of_ble_eq_true rfl⟩) hS (fun r_31 f_31 n_31 H locs hp hW hS => ?_)
  obtain ⟨rfl, rfl, rfl⟩ := hp
  have hW : q_W E (rO E f M (rp r 100 (fun _ => 0))) n H := hW
  refine q_ci (va_runV (As := [.int (nI r9), .int (nI (55 + 4 * i))]) (rest := []) ⟨hx, hb, hml, hown, hts⟩ (kX14_more l E (rO E f M (rp r 100 (fun _ => 0))) n M (rp r 100 (fun _ => 0)) pn BB Bw RS r9 rc (55 + 4 * i) rO_K hpn9 hpn (by rw [bR8 (by decide)]; exact hB8) hB29 hinv hvo hRS hrc9 hrc hrl (by omega)) (cwV 2 hts gX14_doneBehind_X14_more rfl rfl rfl (by decide +kernel) ⟨(by show (5 * (6 + 6 * r9) + 30) + 1 ≤ 5 * (6 + 6 * r9) + 31; omega), (by show 8 + (4 + 11) + (200 * (6 + 6 * r9) + 1200) ≤ 200 * (6 + 6 * r9) + 1300; omega)⟩) (q_pV hA hW hS (ci := 12) rfl rO_0) rfl rfl hl.1 rfl (lv_room (Nat.le_of_ble_eq_true rfl)) dX14_doneBehind_34 ⟨Nat.le_of_ble_eq_true rfl, Nat.le_of_ble_eq_true rfl⟩) hS (fun r_34 f_34 n_34 H locs hp hW hS => ?_)
  obtain ⟨rfl, rfl, rfl⟩ := hp
  rw [show (RS r9 ((rp r 100 (fun _ => 0)) 9) (((rp r 100 (fun _ => 0)) 42), 0, (-1))).1 (55 + 4 * i) - ((rp r 100 (fun _ => 0)) 42) (55 + 4 * i) = (RS r9 (r 9) ((r 42), 0, (-1))).1 (55 + 4 * i) - (r 42) (55 + 4 * i) from rfl]
  have hW : q_W E (rO E f M (rp (rp (rp (rp (rp r 100 (fun _ => 0)) 100 (fun _ => 0)) 43 (r 42)) 110 (fun _ => nI (RS r9 (r 9) ((r 42), 0, (-1))).2.1)) 111 (fun _ => (RS r9 (r 9) ((r 42), 0, (-1))).2.2))) n H := by rw [rO_rO] at hW; exact hW
  rw [rp_d0] at hW
  have hW : q_W E (rO E f M (rp (rp (rp (rp r 100 (fun _ => 0)) 43 (r 42)) 110 (fun _ => nI (RS r9 (r 9) ((r 42), 0, (-1))).2.1)) 111 (fun _ => (RS r9 (r 9) ((r 42), 0, (-1))).2.2))) n H := hW
  refine lv_aload_n hx hb dX14_doneBehind_37 rfl (lv_at hl 0 rfl) ?_
  refine q_get hx hb hts hown hA hW iX14 rO_0 rfl 19 (by decide) (hts (.fieldLink RX14 45 "HighRecipesModel" "now" "[I") (by decide +kernel)) (fun _ h9 => h9) (v := .ref (M + 42)) rfl dX14_doneBehind_38 ?_
  refine lv_iload_n hx hb dX14_doneBehind_41 rfl (lv_at hl 2 rfl) ?_
  refine lv_iconst (v := 3) hx hb dX14_doneBehind_42 (by decide) ?_
  refine q_ci (va_runS (As := [.int (nI i), .int 3]) (rest := [.ref (M + 42), .int ((RS r9 (r 9) ((r 42), 0, (-1))).1 (55 + 4 * i) - (r 42) (55 + 4 * i))]) ⟨hx, hb, hml, hown, hts⟩ (kX14_of_3 l E (rO E f M (rp (rp (rp (rp r 100 (fun _ => 0)) 43 (r 42)) 110 (fun _ => nI (RS r9 (r 9) ((r 42), 0, (-1))).2.1)) 111 (fun _ => (RS r9 (r 9) ((r 42), 0, (-1))).2.2))) n i) (va_cwS 2 hts gX14_doneBehind_X14_of rfl rfl rfl (by decide +kernel) ⟨(by show 0 + 1 ≤ 5 * (6 + 6 * r9) + 31; omega), (by show 8 + (2 + 11) + 0 ≤ 200 * (6 + 6 * r9) + 1300; omega)⟩) (q_pS hA hW hS) rfl rfl hl.1 rfl (lv_room (Nat.le_of_ble_eq_true rfl)) dX14_doneBehind_43 ⟨Nat.le_of_ble_eq_true rfl, Nat.le_of_ble_eq_true rfl⟩) hS (fun r_43 f_43 n_43 H locs hp hW hS => ?_)
  obtain ⟨rfl, rfl, rfl⟩ := hp
  have hW : q_W E (rO E f M (rp (rp (rp (rp r 100 (fun _ => 0)) 43 (r 42)) 110 (fun _ => nI (RS r9 (r 9) ((r 42), 0, (-1))).2.1)) 111 (fun _ => (RS r9 (r 9) ((r 42), 0, (-1))).2.2))) n H := hW
  refine q_ald hx hb hA hW (rO_42 (g := r 42) rfl) (55 + 4 * i) rfl (by omega) (by decide) (x := (r 42) (55 + 4 * i)) rfl dX14_doneBehind_46 ?_
  refine lv_iadd hx hb dX14_doneBehind_47 ?_
  exact q_iret hx hb hr hlocks hW hS ⟨rfl, rfl, rfl⟩ (Nat.le_of_ble_eq_true rfl) (Nat.le_of_ble_eq_true rfl) dX14_doneBehind_48

set_option maxHeartbeats 4000000 in
set_option maxRecDepth 100000 in
theorem kX14_doneBehind_F (l : Launch) (E : q_E) (f : q_H) (n : Nat) (M : Nat) (r : q_R) (rc : Nat) (x y : Int32)  (hm : RM E f M r) (hrc9 : (r 121 0) = nI rc) (hrc : rc ≤ 6) (hno : x < 0 ∨ nI rc ≤ x) : Met l yX14_doneBehind wsX14_doneBehind ({ frames := 2, cells := 0, slots := 0, locals := 43 }) (q_P E [.ref M, .int x, .int y] f n) (q_Qi E (fun r0 f1 n1 => 0 = r0 ∧ rO E f M (rp r 100 (fun _ => 1)) = f1 ∧ n = n1)) 0 0 (q_ge E) := by
  refine Met.ofW (cc := cX14_doneBehind) (maxL := 3) (ret := (some .int)) (by decide) rfl ?_
  intro p e s m args below meth c s₁ B hml hv
  obtain ⟨rfl, hA, hW⟩ := hv
  have hx := B.exec
  have hb := B.bytes
  have hr := B.returns
  have hts := atoms_spec (ws := wsX14_doneBehind) B.pre
  have hown : s.vm.findClass RX14 = some m.cls := findClass_of_methodNamed B.named
  have hlocks := B.notSynchronized
  have hS : va_S (q_ge E) s.heap s.heap [] := va_S.rf
  have iX14 : ∀ w ∈ wsX140, w ∈ wsX14_doneBehind := by decide +kernel
  have hl := lv_entry ([.ref M, .int x, .int y]) (n := 3) (Nat.le_of_ble_eq_true rfl)
  rw [lg_entry_eq]
  generalize (lg_sl ([.ref M, .int x, .int y]) ++ List.replicate (3 - (lg_sl ([.ref M, .int x, .int y])).length) Slot.unset).toArray = ls at hl ⊢
  have hl : lv_has ls 3 [(0, .ref M), (1, .int x), (2, .int y)] := hl
  have hmE := hm.eq
  rw [hm.eq] at hW
  refine lv_aload_n hx hb dX14_doneBehind_0 rfl (lv_at hl 0 rfl) ?_
  refine lv_iconst (v := 0) hx hb dX14_doneBehind_1 (by decide) ?_
  refine q_put hx hb hts hown hA hW hS iX14 tyX14 tyX14_ok nmX14 rO_0 rfl 0 (by decide) (hts (.fieldLink RX14 54 "HighRecipesModel" "thrown" "I") (by decide +kernel)) (fun _ h9 => h9) rfl rfl rfl (Nat.le_of_ble_eq_true rfl) dX14_doneBehind_2 (fun H locs hW hS => ?_)
  have hW := q_s0 100 (0) hW rfl (by decide)
  refine lv_aload_n hx hb dX14_doneBehind_5 rfl (lv_at hl 0 rfl) ?_
  refine lv_iload_n hx hb dX14_doneBehind_6 rfl (lv_at hl 1 rfl) ?_
  refine q_ci (va_runV (As := [.int x]) (rest := []) ⟨hx, hb, hml, hown, hts⟩ (kX14_isRecipe l E (rO E f M (rp r 100 (fun _ => 0))) n M (rp r 100 (fun _ => 0)) rc x rO_K hrc9) (cwV 1 hts gX14_doneBehind_X14_isRecipe rfl rfl rfl (by decide +kernel) ⟨(Nat.le_of_ble_eq_true rfl), (Nat.le_of_ble_eq_true rfl)⟩) (q_pV hA hW hS (ci := 12) rfl rO_0) rfl rfl hl.1 rfl (lv_room (Nat.le_of_ble_eq_true rfl)) dX14_doneBehind_7 ⟨Nat.le_of_ble_eq_true rfl, Nat.le_of_ble_eq_true rfl⟩) hS (fun r_7 f_7 n_7 H locs hp hW hS => ?_)
  obtain ⟨rfl, rfl, rfl⟩ := hp
  have hW : q_W E (rO E f M (rp r 100 (fun _ => 0))) n H := hW
  refine lv_if_eq (tgt := 21) hx hb dX14_doneBehind_10 (by decide) (fun c_10 => ?_) (fun c_10 => False.elim ((fun h9 => h9 (b01_F (b_in_no hno (by omega)))) c_10))
  refine lv_aload_n hx hb dX14_doneBehind_21 rfl (lv_at hl 0 rfl) ?_
  refine lv_iconst (v := 1) hx hb dX14_doneBehind_22 (by decide) ?_
  refine q_ci (va_runV (As := [.int 1]) (rest := []) ⟨hx, hb, hml, hown, hts⟩ (kX14_no l E (rO E f M (rp r 100 (fun _ => 0))) n M (rp r 100 (fun _ => 0)) 1 rO_K) (cwV 1 hts gX14_doneBehind_X14_no rfl rfl rfl (by decide +kernel) ⟨(Nat.le_of_ble_eq_true rfl), (Nat.le_of_ble_eq_true rfl)⟩) (q_pV hA hW hS (ci := 12) rfl rO_0) rfl rfl hl.1 rfl (lv_room (Nat.le_of_ble_eq_true rfl)) dX14_doneBehind_23 ⟨Nat.le_of_ble_eq_true rfl, Nat.le_of_ble_eq_true rfl⟩) hS (fun r_23 f_23 n_23 H locs hp hW hS => ?_)
  obtain ⟨rfl, rfl, rfl⟩ := hp
  have hW : q_W E (rO E f M (rp (rp r 100 (fun _ => 0)) 100 (fun _ => 1))) n H := by rw [rO_rO] at hW; exact hW
  rw [rp_d0] at hW
  have hW : q_W E (rO E f M (rp r 100 (fun _ => 1))) n H := hW
  exact q_iret hx hb hr hlocks hW hS ⟨rfl, rfl, rfl⟩ (Nat.le_of_ble_eq_true rfl) (Nat.le_of_ble_eq_true rfl) dX14_doneBehind_26

set_option maxHeartbeats 4000000 in
set_option maxRecDepth 100000 in
theorem kX14_doneBehind_G (l : Launch) (E : q_E) (f : q_H) (n : Nat) (M : Nat) (r : q_R) (pn rc r9 : Nat) (x : Int32)  (hm : RM E f M r) (hpn9 : (r 120 0) = nI pn) (hpn : pn ≤ 8) (hrc9 : (r 121 0) = nI rc) (hrc : rc ≤ 6) (hrl : r9 < rc) (hno : x < 0 ∨ nI pn ≤ x) : Met l yX14_doneBehind wsX14_doneBehind ({ frames := 2, cells := 0, slots := 0, locals := 43 }) (q_P E [.ref M, .int (nI r9), .int x] f n) (q_Qi E (fun r0 f1 n1 => 0 = r0 ∧ rO E f M (rp r 100 (fun _ => 1)) = f1 ∧ n = n1)) 0 0 (q_ge E) := by
  refine Met.ofW (cc := cX14_doneBehind) (maxL := 3) (ret := (some .int)) (by decide) rfl ?_
  intro p e s m args below meth c s₁ B hml hv
  obtain ⟨rfl, hA, hW⟩ := hv
  have hx := B.exec
  have hb := B.bytes
  have hr := B.returns
  have hts := atoms_spec (ws := wsX14_doneBehind) B.pre
  have hown : s.vm.findClass RX14 = some m.cls := findClass_of_methodNamed B.named
  have hlocks := B.notSynchronized
  have hS : va_S (q_ge E) s.heap s.heap [] := va_S.rf
  have iX14 : ∀ w ∈ wsX140, w ∈ wsX14_doneBehind := by decide +kernel
  have hl := lv_entry ([.ref M, .int (nI r9), .int x]) (n := 3) (Nat.le_of_ble_eq_true rfl)
  rw [lg_entry_eq]
  generalize (lg_sl ([.ref M, .int (nI r9), .int x]) ++ List.replicate (3 - (lg_sl ([.ref M, .int (nI r9), .int x])).length) Slot.unset).toArray = ls at hl ⊢
  have hl : lv_has ls 3 [(0, .ref M), (1, .int (nI r9)), (2, .int x)] := hl
  have hmE := hm.eq
  rw [hm.eq] at hW
  refine lv_aload_n hx hb dX14_doneBehind_0 rfl (lv_at hl 0 rfl) ?_
  refine lv_iconst (v := 0) hx hb dX14_doneBehind_1 (by decide) ?_
  refine q_put hx hb hts hown hA hW hS iX14 tyX14 tyX14_ok nmX14 rO_0 rfl 0 (by decide) (hts (.fieldLink RX14 54 "HighRecipesModel" "thrown" "I") (by decide +kernel)) (fun _ h9 => h9) rfl rfl rfl (Nat.le_of_ble_eq_true rfl) dX14_doneBehind_2 (fun H locs hW hS => ?_)
  have hW := q_s0 100 (0) hW rfl (by decide)
  refine lv_aload_n hx hb dX14_doneBehind_5 rfl (lv_at hl 0 rfl) ?_
  refine lv_iload_n hx hb dX14_doneBehind_6 rfl (lv_at hl 1 rfl) ?_
  refine q_ci (va_runV (As := [.int (nI r9)]) (rest := []) ⟨hx, hb, hml, hown, hts⟩ (kX14_isRecipe l E (rO E f M (rp r 100 (fun _ => 0))) n M (rp r 100 (fun _ => 0)) rc (nI r9) rO_K hrc9) (cwV 1 hts gX14_doneBehind_X14_isRecipe rfl rfl rfl (by decide +kernel) ⟨(Nat.le_of_ble_eq_true rfl), (Nat.le_of_ble_eq_true rfl)⟩) (q_pV hA hW hS (ci := 12) rfl rO_0) rfl rfl hl.1 rfl (lv_room (Nat.le_of_ble_eq_true rfl)) dX14_doneBehind_7 ⟨Nat.le_of_ble_eq_true rfl, Nat.le_of_ble_eq_true rfl⟩) hS (fun r_7 f_7 n_7 H locs hp hW hS => ?_)
  obtain ⟨rfl, rfl, rfl⟩ := hp
  have hW : q_W E (rO E f M (rp r 100 (fun _ => 0))) n H := hW
  refine lv_if_eq (tgt := 21) hx hb dX14_doneBehind_10 (by decide) (fun c_10 => False.elim ((fun h9 => absurd h9 (b01_T (b_in_ix hrl (by omega)))) c_10)) (fun c_10 => ?_)
  refine lv_aload_n hx hb dX14_doneBehind_13 rfl (lv_at hl 0 rfl) ?_
  refine lv_iload_n hx hb dX14_doneBehind_14 rfl (lv_at hl 2 rfl) ?_
  refine q_ci (va_runV (As := [.int x]) (rest := []) ⟨hx, hb, hml, hown, hts⟩ (kX14_isPan l E (rO E f M (rp r 100 (fun _ => 0))) n M (rp r 100 (fun _ => 0)) pn x rO_K hpn9) (cwV 1 hts gX14_doneBehind_X14_isPan rfl rfl rfl (by decide +kernel) ⟨(Nat.le_of_ble_eq_true rfl), (Nat.le_of_ble_eq_true rfl)⟩) (q_pV hA hW hS (ci := 12) rfl rO_0) rfl rfl hl.1 rfl (lv_room (Nat.le_of_ble_eq_true rfl)) dX14_doneBehind_15 ⟨Nat.le_of_ble_eq_true rfl, Nat.le_of_ble_eq_true rfl⟩) hS (fun r_15 f_15 n_15 H locs hp hW hS => ?_)
  obtain ⟨rfl, rfl, rfl⟩ := hp
  have hW : q_W E (rO E f M (rp r 100 (fun _ => 0))) n H := hW
  refine lv_if_ne (tgt := 27) hx hb dX14_doneBehind_18 (by decide) (fun c_18 => False.elim ((fun h9 => h9 (b01_F (b_in_no hno (by omega)))) c_18)) (fun c_18 => ?_)
  refine lv_aload_n hx hb dX14_doneBehind_21 rfl (lv_at hl 0 rfl) ?_
  refine lv_iconst (v := 1) hx hb dX14_doneBehind_22 (by decide) ?_
  refine q_ci (va_runV (As := [.int 1]) (rest := []) ⟨hx, hb, hml, hown, hts⟩ (kX14_no l E (rO E f M (rp r 100 (fun _ => 0))) n M (rp r 100 (fun _ => 0)) 1 rO_K) (cwV 1 hts gX14_doneBehind_X14_no rfl rfl rfl (by decide +kernel) ⟨(Nat.le_of_ble_eq_true rfl), (Nat.le_of_ble_eq_true rfl)⟩) (q_pV hA hW hS (ci := 12) rfl rO_0) rfl rfl hl.1 rfl (lv_room (Nat.le_of_ble_eq_true rfl)) dX14_doneBehind_23 ⟨Nat.le_of_ble_eq_true rfl, Nat.le_of_ble_eq_true rfl⟩) hS (fun r_23 f_23 n_23 H locs hp hW hS => ?_)
  obtain ⟨rfl, rfl, rfl⟩ := hp
  have hW : q_W E (rO E f M (rp (rp r 100 (fun _ => 0)) 100 (fun _ => 1))) n H := by rw [rO_rO] at hW; exact hW
  rw [rp_d0] at hW
  have hW : q_W E (rO E f M (rp r 100 (fun _ => 1))) n H := hW
  exact q_iret hx hb hr hlocks hW hS ⟨rfl, rfl, rfl⟩ (Nat.le_of_ble_eq_true rfl) (Nat.le_of_ble_eq_true rfl) dX14_doneBehind_26
