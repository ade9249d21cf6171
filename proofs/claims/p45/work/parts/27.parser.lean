set_option maxHeartbeats 4000000 in
set_option maxRecDepth 100000 in
theorem kX8_complain (l : Launch) (E : q_E) (f : q_H) (n : Nat) (px bk T pn rc : Nat) (u : p_S) (kk : Nat → Option Nat) (wo pN rN : Nat → Int64) (K : Nat → Nat) (Wd : Nat → Int64) (e9 : Nat) (f2 : f (px + 2) = some (aQ E 5 401 kk)) (f4 : f (px + 4) = some (aJ E 401 wo)) (g1 : f (bk + 1) = some (aJ E 8 pN)) (g3 : f (bk + 3) = some (aJ E 6 rN)) (hp : PAR E f px bk T pn rc u) (hbk : px + 5 ≤ bk) (hn : bk + 5 ≤ n) (hT : T ≤ 400) (hkk : ∀ j, j ≤ T → kk j = some (E.2.2.2 (K j))) (hKT : 39 ≤ K T) (hK41 : ∀ j, K j < 41) (hWd : ∀ j, j ≤ T → wo j = Wd j) (hpn : pn ≤ 8) (hrc : rc ≤ 6) (her : u.2.2.1 ≤ 5) : Met l yX8_complain wsX8_complain ({ frames := 0, cells := 0, slots := 0, locals := 0 }) (q_P E [.ref px, .int (nI e9)] f n) (q_Qv E (fun f1 n1 => pS E f px bk T pn rc (p_ci true e9 u) = f1 ∧ n = n1)) 0 0 (q_ge E) := by
  refine Met.ofW (cc := cX8_complain) (maxL := 2) (ret := none) (by decide) rfl ?_
  intro p e s m args below meth c s₁ B hml hv
  obtain ⟨rfl, hA, hW⟩ := hv
  have hx := B.exec
  have hb := B.bytes
  have hr := B.returns
  have hts := atoms_spec (ws := wsX8_complain) B.pre
  have hown : s.vm.findClass RX8 = some m.cls := findClass_of_methodNamed B.named
  have hlocks := B.notSynchronized
  have hS : va_S (q_ge E) s.heap s.heap [] := va_S.rf
  have iX10 : ∀ w ∈ wsX100, w ∈ wsX8_complain := by decide +kernel
  have iX8 : ∀ w ∈ wsX80, w ∈ wsX8_complain := by decide +kernel
  have hl := lv_entry ([.ref px, .int (nI e9)]) (n := 2) (Nat.le_of_ble_eq_true rfl)
  rw [lg_entry_eq]
  generalize (lg_sl ([.ref px, .int (nI e9)]) ++ List.replicate (2 - (lg_sl ([.ref px, .int (nI e9)])).length) Slot.unset).toArray = ls at hl ⊢
  have hl : lv_has ls 2 [(0, .ref px), (1, .int (nI e9))] := hl
  rw [hp.eq] at hW
  refine lv_aload_n hx hb dX8_complain_0 rfl (lv_at hl 0 rfl) ?_
  refine q_get hx hb hts hown hA hW iX8 pS_p rfl 2 (by decide) (hts (.fieldLink RX8 23 "HighRecipes$Parser" "error" "I") (by decide +kernel)) (fun _ h9 => h9) (v := .int (nI u.2.2.1)) rfl dX8_complain_1 ?_
  refine lv_if_ne (tgt := 23) hx hb dX8_complain_4 (by decide) (fun c_4 => ?_) (fun c_4 => ?_)
  · have e4 : ¬ u.2.2.1 = 0 := fun h9 => c_4 (by rw [h9]; rfl)
    exact q_vret hx hb hr hlocks hW hS ⟨(by first | (rw [show p_ci true e9 u = u from by unfold p_ci; rw [if_neg fun h9 => e4 h9.2, if_neg fun h9 => e4 h9.2]]) | (congr 1; unfold p_ci; rw [if_pos ⟨rfl, e4⟩, if_pos ⟨rfl, e4⟩]; rfl)), rfl⟩ (Nat.le_of_ble_eq_true rfl) (Nat.le_of_ble_eq_true rfl) dX8_complain_23
  · have e4 : u.2.2.1 = 0 := (nI_eq (by omega) (by decide)).1 c_4
    refine lv_aload_n hx hb dX8_complain_7 rfl (lv_at hl 0 rfl) ?_
    refine lv_iload_n hx hb dX8_complain_8 rfl (lv_at hl 1 rfl) ?_
    refine q_put hx hb hts hown hA hW hS iX8 tyX8 tyX8_ok nmX8 pS_p rfl 2 (by decide) (hts (.fieldLink RX8 23 "HighRecipes$Parser" "error" "I") (by decide +kernel)) (fun _ h9 => h9) rfl rfl rfl (Nat.le_of_ble_eq_true rfl) dX8_complain_9 (fun H locs hW hS => ?_)
    have hW : q_W E (va_up (pS E f px bk T pn rc u) px (some (cPar px bk (nI e9) (nI u.2.2.2.1)))) n H := hW
    have hW : q_W E (pS E f px bk T pn rc (p_seter u e9 u.2.2.2.1)) n H := by rw [← pS_sp (s := u) (s' := p_seter u e9 u.2.2.2.1) rfl rfl]; exact hW
    refine lv_aload_n hx hb dX8_complain_12 rfl (lv_at hl 0 rfl) ?_
    refine lv_aload_n hx hb dX8_complain_13 rfl (lv_at hl 0 rfl) ?_
    refine q_get hx hb hts hown hA hW iX8 pS_p rfl 0 (by decide) (hts (.fieldLink RX8 10 "HighRecipes$Parser" "tokens" "LHighRecipes$Tokens;") (by decide +kernel)) (fun _ h9 => h9) (v := .ref (px + 1)) rfl dX8_complain_14 ?_
    refine q_getN hx hb hts hown hA hW iX10 pS_t rfl 4 (by decide) (va_Nw.use rfl (hA.2.2.2.1 ("HighRecipes$Parser", 68, "HighRecipes$Tokens", "here", "I", "HighRecipes") (by decide +kernel))) (fun _ h9 => h9) (v := .int (nI ((p_seter u e9 u.2.2.2.1)).1)) rfl dX8_complain_17 ?_
    refine q_put hx hb hts hown hA hW hS iX8 tyX8 tyX8_ok nmX8 pS_p rfl 3 (by decide) (hts (.fieldLink RX8 71 "HighRecipes$Parser" "errorToken" "I") (by decide +kernel)) (fun _ h9 => h9) rfl rfl rfl (Nat.le_of_ble_eq_true rfl) dX8_complain_20 (fun H locs hW hS => ?_)
    have hW : q_W E (va_up (pS E f px bk T pn rc (p_seter u e9 u.2.2.2.1)) px (some (cPar px bk (nI (p_seter u e9 u.2.2.2.1).2.2.1) (nI ((p_seter u e9 u.2.2.2.1)).1)))) n H := hW
    have hW : q_W E (pS E f px bk T pn rc (p_seter (p_seter u e9 u.2.2.2.1) ((p_seter u e9 u.2.2.2.1).2.2.1) (((p_seter u e9 u.2.2.2.1)).1))) n H := by rw [← pS_sp (s := p_seter u e9 u.2.2.2.1) (s' := p_seter (p_seter u e9 u.2.2.2.1) ((p_seter u e9 u.2.2.2.1).2.2.1) (((p_seter u e9 u.2.2.2.1)).1)) rfl rfl]; exact hW
    exact q_vret hx hb hr hlocks hW hS ⟨(by first | (rw [show p_ci true e9 u = u from by unfold p_ci; rw [if_neg fun h9 => e4 h9.2, if_neg fun h9 => e4 h9.2]]) | (congr 1; unfold p_ci; rw [if_pos ⟨rfl, e4⟩, if_pos ⟨rfl, e4⟩]; rfl)), rfl⟩ (Nat.le_of_ble_eq_true rfl) (Nat.le_of_ble_eq_true rfl) dX8_complain_23

set_option maxHeartbeats 4000000 in
set_option maxRecDepth 100000 in
theorem kX8_countAct (l : Launch) (E : q_E) (f : q_H) (n : Nat) (px bk T pn rc : Nat) (u : p_S) (kk : Nat → Option Nat) (wo pN rN : Nat → Int64) (K : Nat → Nat) (Wd : Nat → Int64) (f2 : f (px + 2) = some (aQ E 5 401 kk)) (f4 : f (px + 4) = some (aJ E 401 wo)) (g1 : f (bk + 1) = some (aJ E 8 pN)) (g3 : f (bk + 3) = some (aJ E 6 rN)) (hp : PAR E f px bk T pn rc u) (hbk : px + 5 ≤ bk) (hn : bk + 5 ≤ n) (hT : T ≤ 400) (hkk : ∀ j, j ≤ T → kk j = some (E.2.2.2 (K j))) (hKT : 39 ≤ K T) (hK41 : ∀ j, K j < 41) (hWd : ∀ j, j ≤ T → wo j = Wd j) (hpn : pn ≤ 8) (hrc : rc ≤ 6) (hok : p_ok K T u) : Met l yX8_countAct wsX8_countAct ({ frames := 1, cells := 0, slots := 0, locals := 21 }) (q_P E [.ref px] f n) (q_Qv E (fun f1 n1 => pS E f px bk T pn rc (p_cnt u) = f1 ∧ n = n1)) 0 0 (q_ge E) := by
  refine Met.ofW (cc := cX8_countAct) (maxL := 1) (ret := none) (by decide) rfl ?_
  intro p e s m args below meth c s₁ B hml hv
  obtain ⟨rfl, hA, hW⟩ := hv
  have hx := B.exec
  have hb := B.bytes
  have hr := B.returns
  have hts := atoms_spec (ws := wsX8_countAct) B.pre
  have hown : s.vm.findClass RX8 = some m.cls := findClass_of_methodNamed B.named
  have hlocks := B.notSynchronized
  have hS : va_S (q_ge E) s.heap s.heap [] := va_S.rf
  have iX2 : ∀ w ∈ wsX20, w ∈ wsX8_countAct := by decide +kernel
  have iX8 : ∀ w ∈ wsX80, w ∈ wsX8_countAct := by decide +kernel
  have hl := lv_entry ([.ref px]) (n := 1) (Nat.le_of_ble_eq_true rfl)
  rw [lg_entry_eq]
  generalize (lg_sl ([.ref px]) ++ List.replicate (1 - (lg_sl ([.ref px])).length) Slot.unset).toArray = ls at hl ⊢
  have hl : lv_has ls 1 [(0, .ref px)] := hl
  rw [hp.eq] at hW
  have hac1 := hok.1
  have hac2 := hok.2.2.2.2
  refine lv_aload_n hx hb dX8_countAct_0 rfl (lv_at hl 0 rfl) ?_
  refine q_get hx hb hts hown hA hW iX8 pS_p rfl 1 (by decide) (hts (.fieldLink RX8 19 "HighRecipes$Parser" "book" "LHighRecipes$Book;") (by decide +kernel)) (fun _ h9 => h9) (v := .ref bk) rfl dX8_countAct_1 ?_
  refine lv_dup hx hb dX8_countAct_4 rfl ?_
  refine q_getN hx hb hts hown hA hW iX2 (pS_b hbk) rfl 6 (by decide) (va_Nw.use rfl (hA.2.2.2.1 ("HighRecipes$Parser", 143, "HighRecipes$Book", "actCount", "I", "HighRecipes") (by decide +kernel))) (fun _ h9 => h9) (v := .int (nI u.2.2.2.2.1)) rfl dX8_countAct_5 ?_
  refine lv_iconst (v := 1) hx hb dX8_countAct_8 (by decide) ?_
  refine lv_iadd hx hb dX8_countAct_9 ?_
  rw [nI_1]
  refine q_putN hx hb hts hown hA hW hS iX2 tyX2 tyX2_ok nmX2 (pS_b hbk) rfl 6 (by decide) (va_Nw.use rfl (hA.2.2.2.1 ("HighRecipes$Parser", 143, "HighRecipes$Book", "actCount", "I", "HighRecipes") (by decide +kernel))) (fun _ h9 => h9) rfl rfl rfl (Nat.le_of_ble_eq_true rfl) dX8_countAct_10 (fun H locs hW hS => ?_)
  have hW : q_W E (va_up (pS E f px bk T pn rc u) bk (some (cBook bk (nI pn) (nI rc) (nI (u.2.2.2.2.1 + 1))))) n H := hW
  have hW : q_W E (pS E f px bk T pn rc (p_setac u (u.2.2.2.2.1 + 1))) n H := by rw [← pS_sb hbk (s := u) (s' := p_setac u (u.2.2.2.2.1 + 1)) rfl rfl]; exact hW
  refine lv_aload_n hx hb dX8_countAct_13 rfl (lv_at hl 0 rfl) ?_
  refine q_get hx hb hts hown hA hW iX8 pS_p rfl 1 (by decide) (hts (.fieldLink RX8 19 "HighRecipes$Parser" "book" "LHighRecipes$Book;") (by decide +kernel)) (fun _ h9 => h9) (v := .ref bk) rfl dX8_countAct_14 ?_
  refine q_getN hx hb hts hown hA hW iX2 (pS_b hbk) rfl 6 (by decide) (va_Nw.use rfl (hA.2.2.2.1 ("HighRecipes$Parser", 143, "HighRecipes$Book", "actCount", "I", "HighRecipes") (by decide +kernel))) (fun _ h9 => h9) (v := .int (nI (p_setac u (u.2.2.2.2.1 + 1)).2.2.2.2.1)) rfl dX8_countAct_17 ?_
  refine lv_bipush (v := 80) hx hb dX8_countAct_20 (by decide) ?_
  refine lv_icmp_le (tgt := 30) hx hb dX8_countAct_22 (by decide) (fun c_22 => ?_) (fun c_22 => ?_)
  · have e22 : decide (80 < u.2.2.2.2.1 + 1) = false := decide_eq_false fun h9 => absurd (show nI (u.2.2.2.2.1 + 1) ≤ nI 80 from c_22) (nI_ge h9 (by have := hok.1; have := hok.2.2.2.2; omega))
    exact q_vret hx hb hr hlocks hW hS ⟨(by unfold p_cnt; rw [e22]; try rfl), rfl⟩ (Nat.le_of_ble_eq_true rfl) (Nat.le_of_ble_eq_true rfl) dX8_countAct_30
  · have e22 : decide (80 < u.2.2.2.2.1 + 1) = true := decide_eq_true (by rcases Nat.lt_or_ge 80 (u.2.2.2.2.1 + 1) with h9 | h9; exact h9; exact absurd (show nI (u.2.2.2.2.1 + 1) ≤ nI 80 from nI_le h9 (by decide)) c_22)
    refine lv_aload_n hx hb dX8_countAct_25 rfl (lv_at hl 0 rfl) ?_
    refine lv_iconst (v := 4) hx hb dX8_countAct_26 (by decide) ?_
    refine q_cv (va_runV (As := [.int 4]) (rest := []) ⟨hx, hb, hml, hown, hts⟩ (kX8_complain l E (pS E f px bk T pn rc (p_setac u (u.2.2.2.2.1 + 1))) n px bk T pn rc (p_setac u (u.2.2.2.2.1 + 1)) kk wo pN rN K Wd 4 ((pS_out (by omega) (by omega) (by omega)).trans f2) ((pS_out (by omega) (by omega) (by omega)).trans f4) ((pS_out (by omega) (by omega) (by omega)).trans g1) ((pS_out (by omega) (by omega) (by omega)).trans g3) (pS_K hbk) (by assumption) (by omega) (by assumption) (by assumption) (by assumption) (by assumption) (by assumption) (by assumption) (by assumption) hok.2.2.1) (cwV 1 hts gX8_countAct_X8_complain rfl rfl rfl (by decide +kernel) ⟨(Nat.le_of_ble_eq_true rfl), (Nat.le_of_ble_eq_true rfl)⟩) (q_pV hA hW hS (ci := 8) rfl pS_p) rfl rfl hl.1 rfl (lv_room (Nat.le_of_ble_eq_true rfl)) dX8_countAct_27 ⟨Nat.le_of_ble_eq_true rfl, Nat.le_of_ble_eq_true rfl⟩) hS (fun f_27 n_27 H locs hp hW hS => ?_)
    obtain ⟨rfl, rfl⟩ := hp
    rw [pS_pS] at hW
    have hW : q_W E (pS E f px bk T pn rc (p_ci true 4 (p_setac u (u.2.2.2.2.1 + 1)))) n H := hW
    exact q_vret hx hb hr hlocks hW hS ⟨(by unfold p_cnt; rw [e22]; try rfl), rfl⟩ (Nat.le_of_ble_eq_true rfl) (Nat.le_of_ble_eq_true rfl) dX8_countAct_30

set_option maxHeartbeats 4000000 in
set_option maxRecDepth 100000 in
theorem kX8_known0 (l : Launch) (E : q_E) (f : q_H) (n : Nat) (px bk T pn rc : Nat) (u : p_S) (kk : Nat → Option Nat) (wo pN rN : Nat → Int64) (K : Nat → Nat) (Wd : Nat → Int64) (f2 : f (px + 2) = some (aQ E 5 401 kk)) (f4 : f (px + 4) = some (aJ E 401 wo)) (g1 : f (bk + 1) = some (aJ E 8 pN)) (g3 : f (bk + 3) = some (aJ E 6 rN)) (hp : PAR E f px bk T pn rc u) (hbk : px + 5 ≤ bk) (hn : bk + 5 ≤ n) (hT : T ≤ 400) (hkk : ∀ j, j ≤ T → kk j = some (E.2.2.2 (K j))) (hKT : 39 ≤ K T) (hK41 : ∀ j, K j < 41) (hWd : ∀ j, j ≤ T → wo j = Wd j) (hpn : pn ≤ 8) (hrc : rc ≤ 6) (hok : p_ok K T u) : Met l yX8_readKnownName wsX8_readKnownName ({ frames := 1, cells := 0, slots := 0, locals := 24 }) (q_P E [.ref px, .int 0] f n) (q_Qi E (fun r f1 n1 => ix pN pn (Wd u.1) = r ∧ pS E f px bk T pn rc (p_known K Wd pN pn u) = f1 ∧ n = n1)) 0 0 (q_ge E) := by
  refine Met.ofW (cc := cX8_readKnownName) (maxL := 3) (ret := (some .int)) (by decide) rfl ?_
  intro p e s m args below meth c s₁ B hml hv
  obtain ⟨rfl, hA, hW⟩ := hv
  have hx := B.exec
  have hb := B.bytes
  have hr := B.returns
  have hts := atoms_spec (ws := wsX8_readKnownName) B.pre
  have hown : s.vm.findClass RX8 = some m.cls := findClass_of_methodNamed B.named
  have hlocks := B.notSynchronized
  have hS : va_S (q_ge E) s.heap s.heap [] := va_S.rf
  have iX10 : ∀ w ∈ wsX100, w ∈ wsX8_readKnownName := by decide +kernel
  have iX2 : ∀ w ∈ wsX20, w ∈ wsX8_readKnownName := by decide +kernel
  have iX8 : ∀ w ∈ wsX80, w ∈ wsX8_readKnownName := by decide +kernel
  have hl := lv_entry ([.ref px, .int 0]) (n := 3) (Nat.le_of_ble_eq_true rfl)
  rw [lg_entry_eq]
  generalize (lg_sl ([.ref px, .int 0]) ++ List.replicate (3 - (lg_sl ([.ref px, .int 0])).length) Slot.unset).toArray = ls at hl ⊢
  have hl : lv_has ls 3 [(0, .ref px), (1, .int 0)] := hl
  rw [hp.eq] at hW
  have hk41 : u.2.1 < 41 := by rcases hok.2.1 with h9 | h9 <;> rw [h9]; decide; exact hK41 _
  refine lv_iload_n hx hb dX8_readKnownName_0 rfl (lv_at hl 1 rfl) ?_
  refine lv_if_eq (tgt := 31) hx hb dX8_readKnownName_1 (by decide) (fun c_1 => ?_) (fun c_1 => absurd (by decide) c_1)
  refine lv_aload_n hx hb dX8_readKnownName_31 rfl (lv_at hl 0 rfl) ?_
  refine q_get hx hb hts hown hA hW iX8 pS_p rfl 0 (by decide) (hts (.fieldLink RX8 10 "HighRecipes$Parser" "tokens" "LHighRecipes$Tokens;") (by decide +kernel)) (fun _ h9 => h9) (v := .ref (px + 1)) rfl dX8_readKnownName_32 ?_
  refine q_cl (va_runV (As := []) (rest := []) ⟨hx, hb, hml, hown, hts⟩ (kX10_worth l E (pS E f px bk T pn rc u) n (px + 1) wo (nI (T + 1)) u.1 u.2.1 pS_t ((pS_out (by omega) (by omega) (by omega)).trans f4) (by have := hok.1; omega)) (cwV 0 hts gX8_readKnownName_X10_worth rfl rfl rfl (by decide +kernel) ⟨(Nat.le_of_ble_eq_true rfl), (Nat.le_of_ble_eq_true rfl)⟩) (q_pV hA hW hS (ci := 10) rfl pS_t) rfl rfl hl.1 rfl (lv_room (Nat.le_of_ble_eq_true rfl)) dX8_readKnownName_35 ⟨Nat.le_of_ble_eq_true rfl, Nat.le_of_ble_eq_true rfl⟩) hS (fun r_35 f_35 n_35 H locs hp hW hS => ?_)
  obtain ⟨rfl, rfl, rfl⟩ := hp
  have hW : q_W E (pS E f px bk T pn rc u) n H := hW
  rw [hWd _ hok.1]
  refine lv_aload_n hx hb dX8_readKnownName_38 rfl (lv_at hl 0 rfl) ?_
  refine q_get hx hb hts hown hA hW iX8 pS_p rfl 1 (by decide) (hts (.fieldLink RX8 19 "HighRecipes$Parser" "book" "LHighRecipes$Book;") (by decide +kernel)) (fun _ h9 => h9) (v := .ref bk) rfl dX8_readKnownName_39 ?_
  refine q_getN hx hb hts hown hA hW iX2 (pS_b hbk) rfl 0 (by decide) (va_Nw.use rfl (hA.2.2.2.1 ("HighRecipes$Parser", 109, "HighRecipes$Book", "panNames", "[J", "HighRecipes") (by decide +kernel))) (fun _ h9 => h9) (v := .ref (bk + 1)) rfl dX8_readKnownName_42 ?_
  refine lv_aload_n hx hb dX8_readKnownName_45 rfl (lv_at hl 0 rfl) ?_
  refine q_get hx hb hts hown hA hW iX8 pS_p rfl 1 (by decide) (hts (.fieldLink RX8 19 "HighRecipes$Parser" "book" "LHighRecipes$Book;") (by decide +kernel)) (fun _ h9 => h9) (v := .ref bk) rfl dX8_readKnownName_46 ?_
  refine q_getN hx hb hts hown hA hW iX2 (pS_b hbk) rfl 4 (by decide) (va_Nw.use rfl (hA.2.2.2.1 ("HighRecipes$Parser", 78, "HighRecipes$Book", "panCount", "I", "HighRecipes") (by decide +kernel))) (fun _ h9 => h9) (v := .int (nI pn)) rfl dX8_readKnownName_49 ?_
  refine q_ci (va_runS (As := [.long (Wd u.1), .ref (bk + 1), .int (nI pn)]) (rest := []) ⟨hx, hb, hml, hown, hts⟩ (kX2_indexOf l E (pS E f px bk T pn rc u) n (Wd u.1) (bk + 1) 8 pn pN ((pS_out (by omega) (by omega) (by omega)).trans g1) (by decide) hpn) (va_cwS 3 hts gX8_readKnownName_X2_indexOf rfl rfl rfl (by decide +kernel) ⟨(Nat.le_of_ble_eq_true rfl), (Nat.le_of_ble_eq_true rfl)⟩) (q_pS hA hW hS) rfl rfl hl.1 rfl (lv_room (Nat.le_of_ble_eq_true rfl)) dX8_readKnownName_52 ⟨Nat.le_of_ble_eq_true rfl, Nat.le_of_ble_eq_true rfl⟩) hS (fun r_52 f_52 n_52 H locs hp hW hS => ?_)
  obtain ⟨rfl, rfl, rfl⟩ := hp
  have hW : q_W E (pS E f px bk T pn rc u) n H := hW
  refine lv_istore_n (lv' := [(2, .int (ix pN pn (Wd u.1))), (0, .ref px), (1, .int 0)]) hx hb dX8_readKnownName_55 rfl hl (by decide) rfl (fun ls hl => ?_)
  refine lv_aload_n hx hb dX8_readKnownName_56 rfl (lv_at hl 1 rfl) ?_
  refine q_get hx hb hts hown hA hW iX8 pS_p rfl 0 (by decide) (hts (.fieldLink RX8 10 "HighRecipes$Parser" "tokens" "LHighRecipes$Tokens;") (by decide +kernel)) (fun _ h9 => h9) (v := .ref (px + 1)) rfl dX8_readKnownName_57 ?_
  refine q_getN hx hb hts hown hA hW iX10 pS_t rfl 5 (by decide) (va_Nw.use rfl (hA.2.2.2.1 ("HighRecipes$Parser", 31, "HighRecipes$Tokens", "kind", "LHighRecipes$Kind;", "HighRecipes") (by decide +kernel))) (fun _ h9 => h9) (v := .ref (E.2.2.2 (u).2.1)) rfl dX8_readKnownName_60 ?_
  refine va_gets (n := "NAME") (v := .ref (E.2.2.2 37)) hx hb (hA.2.2.1.1.1 37 (by decide)).1 hS hown (hts (.fieldLink RX8 102 "HighRecipes$Kind" "NAME" "LHighRecipes$Kind;") (by decide +kernel)) (fun _ h9 => h9) dX8_readKnownName_63 ?_
  refine lv_acmp_ne (rx := (some (E.2.2.2 (u).2.1))) (ry := (some (E.2.2.2 37))) (tgt := 78) hx hb dX8_readKnownName_66 (by decide) (fun c_66 => ?_) (fun c_66 => ?_)
  · have e66 : ¬ u.2.1 = 37 := fun h9 => c_66 (by rw [h9])
    refine lv_aload_n hx hb dX8_readKnownName_78 rfl (lv_at hl 1 rfl) ?_
    refine q_get hx hb hts hown hA hW iX8 pS_p rfl 0 (by decide) (hts (.fieldLink RX8 10 "HighRecipes$Parser" "tokens" "LHighRecipes$Tokens;") (by decide +kernel)) (fun _ h9 => h9) (v := .ref (px + 1)) rfl dX8_readKnownName_79 ?_
    refine lv_aload_n hx hb dX8_readKnownName_82 rfl (lv_at hl 1 rfl) ?_
    refine q_get hx hb hts hown hA hW iX8 pS_p rfl 0 (by decide) (hts (.fieldLink RX8 10 "HighRecipes$Parser" "tokens" "LHighRecipes$Tokens;") (by decide +kernel)) (fun _ h9 => h9) (v := .ref (px + 1)) rfl dX8_readKnownName_83 ?_
    refine q_getN hx hb hts hown hA hW iX10 pS_t rfl 5 (by decide) (va_Nw.use rfl (hA.2.2.2.1 ("HighRecipes$Parser", 31, "HighRecipes$Tokens", "kind", "LHighRecipes$Kind;", "HighRecipes") (by decide +kernel))) (fun _ h9 => h9) (v := .ref (E.2.2.2 (u).2.1)) rfl dX8_readKnownName_86 ?_
    refine va_gets (n := "NAME") (v := .ref (E.2.2.2 37)) hx hb (hA.2.2.1.1.1 37 (by decide)).1 hS hown (hts (.fieldLink RX8 102 "HighRecipes$Kind" "NAME" "LHighRecipes$Kind;") (by decide +kernel)) (fun _ h9 => h9) dX8_readKnownName_89 ?_
    refine lv_acmp_ne (rx := (some (E.2.2.2 (u).2.1))) (ry := (some (E.2.2.2 37))) (tgt := 99) hx hb dX8_readKnownName_92 (by decide) (fun c_92 => ?_) (fun c_92 => False.elim (c_66 c_92))
    refine lv_iconst (v := 0) hx hb dX8_readKnownName_99 (by decide) ?_
    refine q_cv (va_runV (As := [.int 0]) (rest := []) ⟨hx, hb, hml, hown, hts⟩ (kX10_step l E (pS E f px bk T pn rc u) n (px + 1) T u kk K false pS_t ((pS_out (by omega) (by omega) (by omega)).trans f2) (by assumption) (by assumption) (fun h9 => by cases h9)) (cwV 1 hts gX8_readKnownName_X10_step rfl rfl rfl (by decide +kernel) ⟨(Nat.le_of_ble_eq_true rfl), (Nat.le_of_ble_eq_true rfl)⟩) (q_pV hA hW hS (ci := 10) rfl pS_t) rfl rfl hl.1 rfl (lv_room (Nat.le_of_ble_eq_true rfl)) dX8_readKnownName_100 ⟨Nat.le_of_ble_eq_true rfl, Nat.le_of_ble_eq_true rfl⟩) hS (fun f_100 n_100 H locs hp hW hS => ?_)
    obtain ⟨rfl, rfl⟩ := hp
    have hW : q_W E (va_up (pS E f px bk T pn rc u) (px + 1) (some (cTS E (px + 1) T (p_step K false u)))) n H := hW
    have hW : q_W E (pS E f px bk T pn rc (p_step K false u)) n H := by rw [← pS_st (s := u) (s' := p_step K false u) rfl rfl]; exact hW
    have hW : q_W E (pS E f px bk T pn rc (p_step K false u)) n H := hW
    refine lv_iload_n hx hb dX8_readKnownName_103 rfl (lv_at hl 0 rfl) ?_
    exact q_iret hx hb hr hlocks hW hS ⟨rfl, (by first | (rw [show p_known K Wd pN pn u = p_step K true (p_ci true 3 u) from by unfold p_known; rw [decide_eq_true e66, decide_eq_true e70]; rfl]) | (rw [show p_known K Wd pN pn u = p_step K true u from by unfold p_known; rw [decide_eq_true e66, decide_eq_false e70]; rfl]) | (rw [show p_known K Wd pN pn u = p_step K false u from by unfold p_known; rw [decide_eq_false e66]; rfl])), rfl⟩ (Nat.le_of_ble_eq_true rfl) (Nat.le_of_ble_eq_true rfl) dX8_readKnownName_104
  · have e66 : u.2.1 = 37 := q_kinj hA hk41 (by decide) c_66
    refine lv_iload_n hx hb dX8_readKnownName_69 rfl (lv_at hl 0 rfl) ?_
    refine lv_if_ge (tgt := 78) hx hb dX8_readKnownName_70 (by decide) (fun c_70 => ?_) (fun c_70 => ?_)
    · have e70 : ¬ ix pN pn (Wd u.1) < 0 := Int32.not_lt.mpr c_70
      refine lv_aload_n hx hb dX8_readKnownName_78 rfl (lv_at hl 1 rfl) ?_
      refine q_get hx hb hts hown hA hW iX8 pS_p rfl 0 (by decide) (hts (.fieldLink RX8 10 "HighRecipes$Parser" "tokens" "LHighRecipes$Tokens;") (by decide +kernel)) (fun _ h9 => h9) (v := .ref (px + 1)) rfl dX8_readKnownName_79 ?_
      refine lv_aload_n hx hb dX8_readKnownName_82 rfl (lv_at hl 1 rfl) ?_
      refine q_get hx hb hts hown hA hW iX8 pS_p rfl 0 (by decide) (hts (.fieldLink RX8 10 "HighRecipes$Parser" "tokens" "LHighRecipes$Tokens;") (by decide +kernel)) (fun _ h9 => h9) (v := .ref (px + 1)) rfl dX8_readKnownName_83 ?_
      refine q_getN hx hb hts hown hA hW iX10 pS_t rfl 5 (by decide) (va_Nw.use rfl (hA.2.2.2.1 ("HighRecipes$Parser", 31, "HighRecipes$Tokens", "kind", "LHighRecipes$Kind;", "HighRecipes") (by decide +kernel))) (fun _ h9 => h9) (v := .ref (E.2.2.2 (u).2.1)) rfl dX8_readKnownName_86 ?_
      refine va_gets (n := "NAME") (v := .ref (E.2.2.2 37)) hx hb (hA.2.2.1.1.1 37 (by decide)).1 hS hown (hts (.fieldLink RX8 102 "HighRecipes$Kind" "NAME" "LHighRecipes$Kind;") (by decide +kernel)) (fun _ h9 => h9) dX8_readKnownName_89 ?_
      refine lv_acmp_ne (rx := (some (E.2.2.2 (u).2.1))) (ry := (some (E.2.2.2 37))) (tgt := 99) hx hb dX8_readKnownName_92 (by decide) (fun c_92 => False.elim ((fun h9 => h9 c_66) c_92)) (fun c_92 => ?_)
      refine lv_iconst (v := 1) hx hb dX8_readKnownName_95 (by decide) ?_
      refine lv_goto (tgt := 100) hx hb dX8_readKnownName_96 (by decide) ?_
      refine q_cv (va_runV (As := [.int 1]) (rest := []) ⟨hx, hb, hml, hown, hts⟩ (kX10_step l E (pS E f px bk T pn rc u) n (px + 1) T u kk K true pS_t ((pS_out (by omega) (by omega) (by omega)).trans f2) (by assumption) (by assumption) (fun h9 => (hok.step hKT (r := true) (fun _ => by rw [e66]; decide)).2 h9)) (cwV 1 hts gX8_readKnownName_X10_step rfl rfl rfl (by decide +kernel) ⟨(Nat.le_of_ble_eq_true rfl), (Nat.le_of_ble_eq_true rfl)⟩) (q_pV hA hW hS (ci := 10) rfl pS_t) rfl rfl hl.1 rfl (lv_room (Nat.le_of_ble_eq_true rfl)) dX8_readKnownName_100 ⟨Nat.le_of_ble_eq_true rfl, Nat.le_of_ble_eq_true rfl⟩) hS (fun f_100 n_100 H locs hp hW hS => ?_)
      obtain ⟨rfl, rfl⟩ := hp
      have hW : q_W E (va_up (pS E f px bk T pn rc u) (px + 1) (some (cTS E (px + 1) T (p_step K true u)))) n H := hW
      have hW : q_W E (pS E f px bk T pn rc (p_step K true u)) n H := by rw [← pS_st (s := u) (s' := p_step K true u) rfl rfl]; exact hW
      have hW : q_W E (pS E f px bk T pn rc (p_step K true u)) n H := hW
      refine lv_iload_n hx hb dX8_readKnownName_103 rfl (lv_at hl 0 rfl) ?_
      exact q_iret hx hb hr hlocks hW hS ⟨rfl, (by first | (rw [show p_known K Wd pN pn u = p_step K true (p_ci true 3 u) from by unfold p_known; rw [decide_eq_true e66, decide_eq_true e70]; rfl]) | (rw [show p_known K Wd pN pn u = p_step K true u from by unfold p_known; rw [decide_eq_true e66, decide_eq_false e70]; rfl]) | (rw [show p_known K Wd pN pn u = p_step K false u from by unfold p_known; rw [decide_eq_false e66]; rfl])), rfl⟩ (Nat.le_of_ble_eq_true rfl) (Nat.le_of_ble_eq_true rfl) dX8_readKnownName_104
    · have e70 : ix pN pn (Wd u.1) < 0 := Int32.not_le.mp c_70
      refine lv_aload_n hx hb dX8_readKnownName_73 rfl (lv_at hl 1 rfl) ?_
      refine lv_iconst (v := 3) hx hb dX8_readKnownName_74 (by decide) ?_
      refine q_cv (va_runV (As := [.int 3]) (rest := []) ⟨hx, hb, hml, hown, hts⟩ (kX8_complain l E (pS E f px bk T pn rc u) n px bk T pn rc u kk wo pN rN K Wd 3 ((pS_out (by omega) (by omega) (by omega)).trans f2) ((pS_out (by omega) (by omega) (by omega)).trans f4) ((pS_out (by omega) (by omega) (by omega)).trans g1) ((pS_out (by omega) (by omega) (by omega)).trans g3) (pS_K hbk) (by assumption) (by omega) (by assumption) (by assumption) (by assumption) (by assumption) (by assumption) (by assumption) (by assumption) hok.2.2.1) (cwV 1 hts gX8_readKnownName_X8_complain rfl rfl rfl (by decide +kernel) ⟨(Nat.le_of_ble_eq_true rfl), (Nat.le_of_ble_eq_true rfl)⟩) (q_pV hA hW hS (ci := 8) rfl pS_p) rfl rfl hl.1 rfl (lv_room (Nat.le_of_ble_eq_true rfl)) dX8_readKnownName_75 ⟨Nat.le_of_ble_eq_true rfl, Nat.le_of_ble_eq_true rfl⟩) hS (fun f_75 n_75 H locs hp hW hS => ?_)
      obtain ⟨rfl, rfl⟩ := hp
      rw [pS_pS] at hW
      have hW : q_W E (pS E f px bk T pn rc (p_ci true 3 u)) n H := hW
      refine lv_aload_n hx hb dX8_readKnownName_78 rfl (lv_at hl 1 rfl) ?_
      refine q_get hx hb hts hown hA hW iX8 pS_p rfl 0 (by decide) (hts (.fieldLink RX8 10 "HighRecipes$Parser" "tokens" "LHighRecipes$Tokens;") (by decide +kernel)) (fun _ h9 => h9) (v := .ref (px + 1)) rfl dX8_readKnownName_79 ?_
      refine lv_aload_n hx hb dX8_readKnownName_82 rfl (lv_at hl 1 rfl) ?_
      refine q_get hx hb hts hown hA hW iX8 pS_p rfl 0 (by decide) (hts (.fieldLink RX8 10 "HighRecipes$Parser" "tokens" "LHighRecipes$Tokens;") (by decide +kernel)) (fun _ h9 => h9) (v := .ref (px + 1)) rfl dX8_readKnownName_83 ?_
      refine q_getN hx hb hts hown hA hW iX10 pS_t rfl 5 (by decide) (va_Nw.use rfl (hA.2.2.2.1 ("HighRecipes$Parser", 31, "HighRecipes$Tokens", "kind", "LHighRecipes$Kind;", "HighRecipes") (by decide +kernel))) (fun _ h9 => h9) (v := .ref (E.2.2.2 ((p_ci true 3 u)).2.1)) rfl dX8_readKnownName_86 ?_
      refine va_gets (n := "NAME") (v := .ref (E.2.2.2 37)) hx hb (hA.2.2.1.1.1 37 (by decide)).1 hS hown (hts (.fieldLink RX8 102 "HighRecipes$Kind" "NAME" "LHighRecipes$Kind;") (by decide +kernel)) (fun _ h9 => h9) dX8_readKnownName_89 ?_
      refine lv_acmp_ne (rx := (some (E.2.2.2 ((p_ci true 3 u)).2.1))) (ry := (some (E.2.2.2 37))) (tgt := 99) hx hb dX8_readKnownName_92 (by decide) (fun c_92 => False.elim ((fun h9 => h9 c_66) c_92)) (fun c_92 => ?_)
      refine lv_iconst (v := 1) hx hb dX8_readKnownName_95 (by decide) ?_
      refine lv_goto (tgt := 100) hx hb dX8_readKnownName_96 (by decide) ?_
      refine q_cv (va_runV (As := [.int 1]) (rest := []) ⟨hx, hb, hml, hown, hts⟩ (kX10_step l E (pS E f px bk T pn rc (p_ci true 3 u)) n (px + 1) T (p_ci true 3 u) kk K true pS_t ((pS_out (by omega) (by omega) (by omega)).trans f2) (by assumption) (by assumption) (fun h9 => (hok.step hKT (r := true) (fun _ => by rw [e66]; decide)).2 h9)) (cwV 1 hts gX8_readKnownName_X10_step rfl rfl rfl (by decide +kernel) ⟨(Nat.le_of_ble_eq_true rfl), (Nat.le_of_ble_eq_true rfl)⟩) (q_pV hA hW hS (ci := 10) rfl pS_t) rfl rfl hl.1 rfl (lv_room (Nat.le_of_ble_eq_true rfl)) dX8_readKnownName_100 ⟨Nat.le_of_ble_eq_true rfl, Nat.le_of_ble_eq_true rfl⟩) hS (fun f_100 n_100 H locs hp hW hS => ?_)
      obtain ⟨rfl, rfl⟩ := hp
      have hW : q_W E (va_up (pS E f px bk T pn rc (p_ci true 3 u)) (px + 1) (some (cTS E (px + 1) T (p_step K true (p_ci true 3 u))))) n H := hW
      have hW : q_W E (pS E f px bk T pn rc (p_step K true (p_ci true 3 u))) n H := by rw [← pS_st (s := p_ci true 3 u) (s' := p_step K true (p_ci true 3 u)) rfl rfl]; exact hW
      have hW : q_W E (pS E f px bk T pn rc (p_step K true (p_ci true 3 u))) n H := hW
      refine lv_iload_n hx hb dX8_readKnownName_103 rfl (lv_at hl 0 rfl) ?_
      exact q_iret hx hb hr hlocks hW hS ⟨rfl, (by first | (rw [show p_known K Wd pN pn u = p_step K true (p_ci true 3 u) from by unfold p_known; rw [decide_eq_true e66, decide_eq_true e70]; rfl]) | (rw [show p_known K Wd pN pn u = p_step K true u from by unfold p_known; rw [decide_eq_true e66, decide_eq_false e70]; rfl]) | (rw [show p_known K Wd pN pn u = p_step K false u from by unfold p_known; rw [decide_eq_false e66]; rfl])), rfl⟩ (Nat.le_of_ble_eq_true rfl) (Nat.le_of_ble_eq_true rfl) dX8_readKnownName_104

set_option maxHeartbeats 4000000 in
set_option maxRecDepth 100000 in
theorem kX8_known1 (l : Launch) (E : q_E) (f : q_H) (n : Nat) (px bk T pn rc : Nat) (u : p_S) (kk : Nat → Option Nat) (wo pN rN : Nat → Int64) (K : Nat → Nat) (Wd : Nat → Int64) (f2 : f (px + 2) = some (aQ E 5 401 kk)) (f4 : f (px + 4) = some (aJ E 401 wo)) (g1 : f (bk + 1) = some (aJ E 8 pN)) (g3 : f (bk + 3) = some (aJ E 6 rN)) (hp : PAR E f px bk T pn rc u) (hbk : px + 5 ≤ bk) (hn : bk + 5 ≤ n) (hT : T ≤ 400) (hkk : ∀ j, j ≤ T → kk j = some (E.2.2.2 (K j))) (hKT : 39 ≤ K T) (hK41 : ∀ j, K j < 41) (hWd : ∀ j, j ≤ T → wo j = Wd j) (hpn : pn ≤ 8) (hrc : rc ≤ 6) (hok : p_ok K T u) : Met l yX8_readKnownName wsX8_readKnownName ({ frames := 1, cells := 0, slots := 0, locals := 24 }) (q_P E [.ref px, .int 1] f n) (q_Qi E (fun r f1 n1 => ix rN rc (Wd u.1) = r ∧ pS E f px bk T pn rc (p_known K Wd rN rc u) = f1 ∧ n = n1)) 0 0 (q_ge E) := by
  refine Met.ofW (cc := cX8_readKnownName) (maxL := 3) (ret := (some .int)) (by decide) rfl ?_
  intro p e s m args below meth c s₁ B hml hv
  obtain ⟨rfl, hA, hW⟩ := hv
  have hx := B.exec
  have hb := B.bytes
  have hr := B.returns
  have hts := atoms_spec (ws := wsX8_readKnownName) B.pre
  have hown : s.vm.findClass RX8 = some m.cls := findClass_of_methodNamed B.named
  have hlocks := B.notSynchronized
  have hS : va_S (q_ge E) s.heap s.heap [] := va_S.rf
  have iX10 : ∀ w ∈ wsX100, w ∈ wsX8_readKnownName := by decide +kernel
  have iX2 : ∀ w ∈ wsX20, w ∈ wsX8_readKnownName := by decide +kernel
  have iX8 : ∀ w ∈ wsX80, w ∈ wsX8_readKnownName := by decide +kernel
  have hl := lv_entry ([.ref px, .int 1]) (n := 3) (Nat.le_of_ble_eq_true rfl)
  rw [lg_entry_eq]
  generalize (lg_sl ([.ref px, .int 1]) ++ List.replicate (3 - (lg_sl ([.ref px, .int 1])).length) Slot.unset).toArray = ls at hl ⊢
  have hl : lv_has ls 3 [(0, .ref px), (1, .int 1)] := hl
  rw [hp.eq] at hW
  have hk41 : u.2.1 < 41 := by rcases hok.2.1 with h9 | h9 <;> rw [h9]; decide; exact hK41 _
  refine lv_iload_n hx hb dX8_readKnownName_0 rfl (lv_at hl 1 rfl) ?_
  refine lv_if_eq (tgt := 31) hx hb dX8_readKnownName_1 (by decide) (fun c_1 => absurd c_1 (by decide)) (fun c_1 => ?_)
  refine lv_aload_n hx hb dX8_readKnownName_4 rfl (lv_at hl 0 rfl) ?_
  refine q_get hx hb hts hown hA hW iX8 pS_p rfl 0 (by decide) (hts (.fieldLink RX8 10 "HighRecipes$Parser" "tokens" "LHighRecipes$Tokens;") (by decide +kernel)) (fun _ h9 => h9) (v := .ref (px + 1)) rfl dX8_readKnownName_5 ?_
  refine q_cl (va_runV (As := []) (rest := []) ⟨hx, hb, hml, hown, hts⟩ (kX10_worth l E (pS E f px bk T pn rc u) n (px + 1) wo (nI (T + 1)) u.1 u.2.1 pS_t ((pS_out (by omega) (by omega) (by omega)).trans f4) (by have := hok.1; omega)) (cwV 0 hts gX8_readKnownName_X10_worth rfl rfl rfl (by decide +kernel) ⟨(Nat.le_of_ble_eq_true rfl), (Nat.le_of_ble_eq_true rfl)⟩) (q_pV hA hW hS (ci := 10) rfl pS_t) rfl rfl hl.1 rfl (lv_room (Nat.le_of_ble_eq_true rfl)) dX8_readKnownName_8 ⟨Nat.le_of_ble_eq_true rfl, Nat.le_of_ble_eq_true rfl⟩) hS (fun r_8 f_8 n_8 H locs hp hW hS => ?_)
  obtain ⟨rfl, rfl, rfl⟩ := hp
  have hW : q_W E (pS E f px bk T pn rc u) n H := hW
  rw [hWd _ hok.1]
  refine lv_aload_n hx hb dX8_readKnownName_11 rfl (lv_at hl 0 rfl) ?_
  refine q_get hx hb hts hown hA hW iX8 pS_p rfl 1 (by decide) (hts (.fieldLink RX8 19 "HighRecipes$Parser" "book" "LHighRecipes$Book;") (by decide +kernel)) (fun _ h9 => h9) (v := .ref bk) rfl dX8_readKnownName_12 ?_
  refine q_getN hx hb hts hown hA hW iX2 (pS_b hbk) rfl 2 (by decide) (va_Nw.use rfl (hA.2.2.2.1 ("HighRecipes$Parser", 117, "HighRecipes$Book", "recipeNames", "[J", "HighRecipes") (by decide +kernel))) (fun _ h9 => h9) (v := .ref (bk + 3)) rfl dX8_readKnownName_15 ?_
  refine lv_aload_n hx hb dX8_readKnownName_18 rfl (lv_at hl 0 rfl) ?_
  refine q_get hx hb hts hown hA hW iX8 pS_p rfl 1 (by decide) (hts (.fieldLink RX8 19 "HighRecipes$Parser" "book" "LHighRecipes$Book;") (by decide +kernel)) (fun _ h9 => h9) (v := .ref bk) rfl dX8_readKnownName_19 ?_
  refine q_getN hx hb hts hown hA hW iX2 (pS_b hbk) rfl 5 (by decide) (va_Nw.use rfl (hA.2.2.2.1 ("HighRecipes$Parser", 50, "HighRecipes$Book", "recipeCount", "I", "HighRecipes") (by decide +kernel))) (fun _ h9 => h9) (v := .int (nI rc)) rfl dX8_readKnownName_22 ?_
  refine q_ci (va_runS (As := [.long (Wd u.1), .ref (bk + 3), .int (nI rc)]) (rest := []) ⟨hx, hb, hml, hown, hts⟩ (kX2_indexOf l E (pS E f px bk T pn rc u) n (Wd u.1) (bk + 3) 6 rc rN ((pS_out (by omega) (by omega) (by omega)).trans g3) (by decide) hrc) (va_cwS 3 hts gX8_readKnownName_X2_indexOf rfl rfl rfl (by decide +kernel) ⟨(Nat.le_of_ble_eq_true rfl), (Nat.le_of_ble_eq_true rfl)⟩) (q_pS hA hW hS) rfl rfl hl.1 rfl (lv_room (Nat.le_of_ble_eq_true rfl)) dX8_readKnownName_25 ⟨Nat.le_of_ble_eq_true rfl, Nat.le_of_ble_eq_true rfl⟩) hS (fun r_25 f_25 n_25 H locs hp hW hS => ?_)
  obtain ⟨rfl, rfl, rfl⟩ := hp
  have hW : q_W E (pS E f px bk T pn rc u) n H := hW
  refine lv_goto (tgt := 55) hx hb dX8_readKnownName_28 (by decide) ?_
  refine lv_istore_n (lv' := [(2, .int (ix rN rc (Wd u.1))), (0, .ref px), (1, .int 1)]) hx hb dX8_readKnownName_55 rfl hl (by decide) rfl (fun ls hl => ?_)
  refine lv_aload_n hx hb dX8_readKnownName_56 rfl (lv_at hl 1 rfl) ?_
  refine q_get hx hb hts hown hA hW iX8 pS_p rfl 0 (by decide) (hts (.fieldLink RX8 10 "HighRecipes$Parser" "tokens" "LHighRecipes$Tokens;") (by decide +kernel)) (fun _ h9 => h9) (v := .ref (px + 1)) rfl dX8_readKnownName_57 ?_
  refine q_getN hx hb hts hown hA hW iX10 pS_t rfl 5 (by decide) (va_Nw.use rfl (hA.2.2.2.1 ("HighRecipes$Parser", 31, "HighRecipes$Tokens", "kind", "LHighRecipes$Kind;", "HighRecipes") (by decide +kernel))) (fun _ h9 => h9) (v := .ref (E.2.2.2 (u).2.1)) rfl dX8_readKnownName_60 ?_
  refine va_gets (n := "NAME") (v := .ref (E.2.2.2 37)) hx hb (hA.2.2.1.1.1 37 (by decide)).1 hS hown (hts (.fieldLink RX8 102 "HighRecipes$Kind" "NAME" "LHighRecipes$Kind;") (by decide +kernel)) (fun _ h9 => h9) dX8_readKnownName_63 ?_
  refine lv_acmp_ne (rx := (some (E.2.2.2 (u).2.1))) (ry := (some (E.2.2.2 37))) (tgt := 78) hx hb dX8_readKnownName_66 (by decide) (fun c_66 => ?_) (fun c_66 => ?_)
  · have e66 : ¬ u.2.1 = 37 := fun h9 => c_66 (by rw [h9])
    refine lv_aload_n hx hb dX8_readKnownName_78 rfl (lv_at hl 1 rfl) ?_
    refine q_get hx hb hts hown hA hW iX8 pS_p rfl 0 (by decide) (hts (.fieldLink RX8 10 "HighRecipes$Parser" "tokens" "LHighRecipes$Tokens;") (by decide +kernel)) (fun _ h9 => h9) (v := .ref (px + 1)) rfl dX8_readKnownName_79 ?_
    refine lv_aload_n hx hb dX8_readKnownName_82 rfl (lv_at hl 1 rfl) ?_
    refine q_get hx hb hts hown hA hW iX8 pS_p rfl 0 (by decide) (hts (.fieldLink RX8 10 "HighRecipes$Parser" "tokens" "LHighRecipes$Tokens;") (by decide +kernel)) (fun _ h9 => h9) (v := .ref (px + 1)) rfl dX8_readKnownName_83 ?_
    refine q_getN hx hb hts hown hA hW iX10 pS_t rfl 5 (by decide) (va_Nw.use rfl (hA.2.2.2.1 ("HighRecipes$Parser", 31, "HighRecipes$Tokens", "kind", "LHighRecipes$Kind;", "HighRecipes") (by decide +kernel))) (fun _ h9 => h9) (v := .ref (E.2.2.2 (u).2.1)) rfl dX8_readKnownName_86 ?_
    refine va_gets (n := "NAME") (v := .ref (E.2.2.2 37)) hx hb (hA.2.2.1.1.1 37 (by decide)).1 hS hown (hts (.fieldLink RX8 102 "HighRecipes$Kind" "NAME" "LHighRecipes$Kind;") (by decide +kernel)) (fun _ h9 => h9) dX8_readKnownName_89 ?_
    refine lv_acmp_ne (rx := (some (E.2.2.2 (u).2.1))) (ry := (some (E.2.2.2 37))) (tgt := 99) hx hb dX8_readKnownName_92 (by decide) (fun c_92 => ?_) (fun c_92 => False.elim (c_66 c_92))
    refine lv_iconst (v := 0) hx hb dX8_readKnownName_99 (by decide) ?_
    refine q_cv (va_runV (As := [.int 0]) (rest := []) ⟨hx, hb, hml, hown, hts⟩ (kX10_step l E (pS E f px bk T pn rc u) n (px + 1) T u kk K false pS_t ((pS_out (by omega) (by omega) (by omega)).trans f2) (by assumption) (by assumption) (fun h9 => by cases h9)) (cwV 1 hts gX8_readKnownName_X10_step rfl rfl rfl (by decide +kernel) ⟨(Nat.le_of_ble_eq_true rfl), (Nat.le_of_ble_eq_true rfl)⟩) (q_pV hA hW hS (ci := 10) rfl pS_t) rfl rfl hl.1 rfl (lv_room (Nat.le_of_ble_eq_true rfl)) dX8_readKnownName_100 ⟨Nat.le_of_ble_eq_true rfl, Nat.le_of_ble_eq_true rfl⟩) hS (fun f_100 n_100 H locs hp hW hS => ?_)
    obtain ⟨rfl, rfl⟩ := hp
    have hW : q_W E (va_up (pS E f px bk T pn rc u) (px + 1) (some (cTS E (px + 1) T (p_step K false u)))) n H := hW
    have hW : q_W E (pS E f px bk T pn rc (p_step K false u)) n H := by rw [← pS_st (s := u) (s' := p_step K false u) rfl rfl]; exact hW
    have hW : q_W E (pS E f px bk T pn rc (p_step K false u)) n H := hW
    refine lv_iload_n hx hb dX8_readKnownName_103 rfl (lv_at hl 0 rfl) ?_
    exact q_iret hx hb hr hlocks hW hS ⟨rfl, (by first | (rw [show p_known K Wd rN rc u = p_step K true (p_ci true 3 u) from by unfold p_known; rw [decide_eq_true e66, decide_eq_true e70]; rfl]) | (rw [show p_known K Wd rN rc u = p_step K true u from by unfold p_known; rw [decide_eq_true e66, decide_eq_false e70]; rfl]) | (rw [show p_known K Wd rN rc u = p_step K false u from by unfold p_known; rw [decide_eq_false e66]; rfl])), rfl⟩ (Nat.le_of_ble_eq_true rfl) (Nat.le_of_ble_eq_true rfl) dX8_readKnownName_104
  · have e66 : u.2.1 = 37 := q_kinj hA hk41 (by decide) c_66
    refine lv_iload_n hx hb dX8_readKnownName_69 rfl (lv_at hl 0 rfl) ?_
    refine lv_if_ge (tgt := 78) hx hb dX8_readKnownName_70 (by decide) (fun c_70 => ?_) (fun c_70 => ?_)
    · have e70 : ¬ ix rN rc (Wd u.1) < 0 := Int32.not_lt.mpr c_70
      refine lv_aload_n hx hb dX8_readKnownName_78 rfl (lv_at hl 1 rfl) ?_
      refine q_get hx hb hts hown hA hW iX8 pS_p rfl 0 (by decide) (hts (.fieldLink RX8 10 "HighRecipes$Parser" "tokens" "LHighRecipes$Tokens;") (by decide +kernel)) (fun _ h9 => h9) (v := .ref (px + 1)) rfl dX8_readKnownName_79 ?_
      refine lv_aload_n hx hb dX8_readKnownName_82 rfl (lv_at hl 1 rfl) ?_
      refine q_get hx hb hts hown hA hW iX8 pS_p rfl 0 (by decide) (hts (.fieldLink RX8 10 "HighRecipes$Parser" "tokens" "LHighRecipes$Tokens;") (by decide +kernel)) (fun _ h9 => h9) (v := .ref (px + 1)) rfl dX8_readKnownName_83 ?_
      refine q_getN hx hb hts hown hA hW iX10 pS_t rfl 5 (by decide) (va_Nw.use rfl (hA.2.2.2.1 ("HighRecipes$Parser", 31, "HighRecipes$Tokens", "kind", "LHighRecipes$Kind;", "HighRecipes") (by decide +kernel))) (fun _ h9 => h9) (v := .ref (E.2.2.2 (u).2.1)) rfl dX8_readKnownName_86 ?_
      refine va_gets (n := "NAME") (v := .ref (E.2.2.2 37)) hx hb (hA.2.2.1.1.1 37 (by decide)).1 hS hown (hts (.fieldLink RX8 102 "HighRecipes$Kind" "NAME" "LHighRecipes$Kind;") (by decide +kernel)) (fun _ h9 => h9) dX8_readKnownName_89 ?_
      refine lv_acmp_ne (rx := (some (E.2.2.2 (u).2.1))) (ry := (some (E.2.2.2 37))) (tgt := 99) hx hb dX8_readKnownName_92 (by decide) (fun c_92 => False.elim ((fun h9 => h9 c_66) c_92)) (fun c_92 => ?_)
      refine lv_iconst (v := 1) hx hb dX8_readKnownName_95 (by decide) ?_
      refine lv_goto (tgt := 100) hx hb dX8_readKnownName_96 (by decide) ?_
      refine q_cv (va_runV (As := [.int 1]) (rest := []) ⟨hx, hb, hml, hown, hts⟩ (kX10_step l E (pS E f px bk T pn rc u) n (px + 1) T u kk K true pS_t ((pS_out (by omega) (by omega) (by omega)).trans f2) (by assumption) (by assumption) (fun h9 => (hok.step hKT (r := true) (fun _ => by rw [e66]; decide)).2 h9)) (cwV 1 hts gX8_readKnownName_X10_step rfl rfl rfl (by decide +kernel) ⟨(Nat.le_of_ble_eq_true rfl), (Nat.le_of_ble_eq_true rfl)⟩) (q_pV hA hW hS (ci := 10) rfl pS_t) rfl rfl hl.1 rfl (lv_room (Nat.le_of_ble_eq_true rfl)) dX8_readKnownName_100 ⟨Nat.le_of_ble_eq_true rfl, Nat.le_of_ble_eq_true rfl⟩) hS (fun f_100 n_100 H locs hp hW hS => ?_)
      obtain ⟨rfl, rfl⟩ := hp
      have hW : q_W E (va_up (pS E f px bk T pn rc u) (px + 1) (some (cTS E (px + 1) T (p_step K true u)))) n H := hW
      have hW : q_W E (pS E f px bk T pn rc (p_step K true u)) n H := by rw [← pS_st (s := u) (s' := p_step K true u) rfl rfl]; exact hW
      have hW : q_W E (pS E f px bk T pn rc (p_step K true u)) n H := hW
      refine lv_iload_n hx hb dX8_readKnownName_103 rfl (lv_at hl 0 rfl) ?_
      exact q_iret hx hb hr hlocks hW hS ⟨rfl, (by first | (rw [show p_known K Wd rN rc u = p_step K true (p_ci true 3 u) from by unfold p_known; rw [decide_eq_true e66, decide_eq_true e70]; rfl]) | (rw [show p_known K Wd rN rc u = p_step K true u from by unfold p_known; rw [decide_eq_true e66, decide_eq_false e70]; rfl]) | (rw [show p_known K Wd rN rc u = p_step K false u from by unfold p_known; rw [decide_eq_false e66]; rfl])), rfl⟩ (Nat.le_of_ble_eq_true rfl) (Nat.le_of_ble_eq_true rfl) dX8_readKnownName_104
    · have e70 : ix rN rc (Wd u.1) < 0 := Int32.not_le.mp c_70
      refine lv_aload_n hx hb dX8_readKnownName_73 rfl (lv_at hl 1 rfl) ?_
      refine lv_iconst (v := 3) hx hb dX8_readKnownName_74 (by decide) ?_
      refine q_cv (va_runV (As := [.int 3]) (rest := []) ⟨hx, hb, hml, hown, hts⟩ (kX8_complain l E (pS E f px bk T pn rc u) n px bk T pn rc u kk wo pN rN K Wd 3 ((pS_out (by omega) (by omega) (by omega)).trans f2) ((pS_out (by omega) (by omega) (by omega)).trans f4) ((pS_out (by omega) (by omega) (by omega)).trans g1) ((pS_out (by omega) (by omega) (by omega)).trans g3) (pS_K hbk) (by assumption) (by omega) (by assumption) (by assumption) (by assumption) (by assumption) (by assumption) (by assumption) (by assumption) hok.2.2.1) (cwV 1 hts gX8_readKnownName_X8_complain rfl rfl rfl (by decide +kernel) ⟨(Nat.le_of_ble_eq_true rfl), (Nat.le_of_ble_eq_true rfl)⟩) (q_pV hA hW hS (ci := 8) rfl pS_p) rfl rfl hl.1 rfl (lv_room (Nat.le_of_ble_eq_true rfl)) dX8_readKnownName_75 ⟨Nat.le_of_ble_eq_true rfl, Nat.le_of_ble_eq_true rfl⟩) hS (fun f_75 n_75 H locs hp hW hS => ?_)
      obtain ⟨rfl, rfl⟩ := hp
      rw [pS_pS] at hW
      have hW : q_W E (pS E f px bk T pn rc (p_ci true 3 u)) n H := hW
      refine lv_aload_n hx hb dX8_readKnownName_78 rfl (lv_at hl 1 rfl) ?_
      refine q_get hx hb hts hown hA hW iX8 pS_p rfl 0 (by decide) (hts (.fieldLink RX8 10 "HighRecipes$Parser" "tokens" "LHighRecipes$Tokens;") (by decide +kernel)) (fun _ h9 => h9) (v := .ref (px + 1)) rfl dX8_readKnownName_79 ?_
      refine lv_aload_n hx hb dX8_readKnownName_82 rfl (lv_at hl 1 rfl) ?_
      refine q_get hx hb hts hown hA hW iX8 pS_p rfl 0 (by decide) (hts (.fieldLink RX8 10 "HighRecipes$Parser" "tokens" "LHighRecipes$Tokens;") (by decide +kernel)) (fun _ h9 => h9) (v := .ref (px + 1)) rfl dX8_readKnownName_83 ?_
      refine q_getN hx hb hts hown hA hW iX10 pS_t rfl 5 (by decide) (va_Nw.use rfl (hA.2.2.2.1 ("HighRecipes$Parser", 31, "HighRecipes$Tokens", "kind", "LHighRecipes$Kind;", "HighRecipes") (by decide +kernel))) (fun _ h9 => h9) (v := .ref (E.2.2.2 ((p_ci true 3 u)).2.1)) rfl dX8_readKnownName_86 ?_
      refine va_gets (n := "NAME") (v := .ref (E.2.2.2 37)) hx hb (hA.2.2.1.1.1 37 (by decide)).1 hS hown (hts (.fieldLink RX8 102 "HighRecipes$Kind" "NAME" "LHighRecipes$Kind;") (by decide +kernel)) (fun _ h9 => h9) dX8_readKnownName_89 ?_
      refine lv_acmp_ne (rx := (some (E.2.2.2 ((p_ci true 3 u)).2.1))) (ry := (some (E.2.2.2 37))) (tgt := 99) hx hb dX8_readKnownName_92 (by decide) (fun c_92 => False.elim ((fun h9 => h9 c_66) c_92)) (fun c_92 => ?_)
      refine lv_iconst (v := 1) hx hb dX8_readKnownName_95 (by decide) ?_
      refine lv_goto (tgt := 100) hx hb dX8_readKnownName_96 (by decide) ?_
      refine q_cv (va_runV (As := [.int 1]) (rest := []) ⟨hx, hb, hml, hown, hts⟩ (kX10_step l E (pS E f px bk T pn rc (p_ci true 3 u)) n (px + 1) T (p_ci true 3 u) kk K true pS_t ((pS_out (by omega) (by omega) (by omega)).trans f2) (by assumption) (by assumption) (fun h9 => (hok.step hKT (r := true) (fun _ => by rw [e66]; decide)).2 h9)) (cwV 1 hts gX8_readKnownName_X10_step rfl rfl rfl (by decide +kernel) ⟨(Nat.le_of_ble_eq_true rfl), (Nat.le_of_ble_eq_true rfl)⟩) (q_pV hA hW hS (ci := 10) rfl pS_t) rfl rfl hl.1 rfl (lv_room (Nat.le_of_ble_eq_true rfl)) dX8_readKnownName_100 ⟨Nat.le_of_ble_eq_true rfl, Nat.le_of_ble_eq_true rfl⟩) hS (fun f_100 n_100 H locs hp hW hS => ?_)
      obtain ⟨rfl, rfl⟩ := hp
      have hW : q_W E (va_up (pS E f px bk T pn rc (p_ci true 3 u)) (px + 1) (some (cTS E (px + 1) T (p_step K true (p_ci true 3 u))))) n H := hW
      have hW : q_W E (pS E f px bk T pn rc (p_step K true (p_ci true 3 u))) n H := by rw [← pS_st (s := p_ci true 3 u) (s' := p_step K true (p_ci true 3 u)) rfl rfl]; exact hW
      have hW : q_W E (pS E f px bk T pn rc (p_step K true (p_ci true 3 u))) n H := hW
      refine lv_iload_n hx hb dX8_readKnownName_103 rfl (lv_at hl 0 rfl) ?_
      exact q_iret hx hb hr hlocks hW hS ⟨rfl, (by first | (rw [show p_known K Wd rN rc u = p_step K true (p_ci true 3 u) from by unfold p_known; rw [decide_eq_true e66, decide_eq_true e70]; rfl]) | (rw [show p_known K Wd rN rc u = p_step K true u from by unfold p_known; rw [decide_eq_true e66, decide_eq_false e70]; rfl]) | (rw [show p_known K Wd rN rc u = p_step K false u from by unfold p_known; rw [decide_eq_false e66]; rfl])), rfl⟩ (Nat.le_of_ble_eq_true rfl) (Nat.le_of_ble_eq_true rfl) dX8_readKnownName_104

def p_tak (pN : Nat → Int64) (pn : Nat) (rN : Nat → Int64) (rc : Nat) (w : Int64) : Bool := !decide (ix pN pn w < 0) || !decide (ix rN rc w < 0)
def p_newn (K : Nat → Nat) (Wd : Nat → Int64) (pN : Nat → Int64) (pn : Nat) (rN : Nat → Int64) (rc : Nat) (full : Bool) (s : p_S) : p_S := p_take K 37 (if s.2.1 = 37 then (if p_tak pN pn rN rc (Wd s.1) = true then p_ci true 2 s else p_ci full 4 s) else s)
theorem p_ok.newn {K : Nat → Nat} {T : Nat} {s : p_S} {Wd pN rN : Nat → Int64} {pn rc : Nat} {full : Bool} (h : p_ok K T s) (hT : 39 ≤ K T) : p_ok K T (p_newn K Wd pN pn rN rc full s) := by
  unfold p_newn
  refine p_ok.take ?_ hT (by decide)
  split
  · split
    · exact h.ci (by decide)
    · exact h.ci (by decide)
  · exact h

set_option maxHeartbeats 4000000 in
set_option maxRecDepth 100000 in
theorem kX8_isTaken (l : Launch) (E : q_E) (f : q_H) (n : Nat) (px bk T pn rc : Nat) (u : p_S) (kk : Nat → Option Nat) (wo pN rN : Nat → Int64) (K : Nat → Nat) (Wd : Nat → Int64) (w : Int64) (f2 : f (px + 2) = some (aQ E 5 401 kk)) (f4 : f (px + 4) = some (aJ E 401 wo)) (g1 : f (bk + 1) = some (aJ E 8 pN)) (g3 : f (bk + 3) = some (aJ E 6 rN)) (hp : PAR E f px bk T pn rc u) (hbk : px + 5 ≤ bk) (hn : bk + 5 ≤ n) (hT : T ≤ 400) (hkk : ∀ j, j ≤ T → kk j = some (E.2.2.2 (K j))) (hKT : 39 ≤ K T) (hK41 : ∀ j, K j < 41) (hWd : ∀ j, j ≤ T → wo j = Wd j) (hpn : pn ≤ 8) (hrc : rc ≤ 6) (hok : p_ok K T u) : Met l yX8_isTaken wsX8_isTaken ({ frames := 1, cells := 0, slots := 0, locals := 24 }) (q_P E [.ref px, .long w] f n) (q_Qi E (fun r f1 n1 => b01 (p_tak pN pn rN rc w) = r ∧ pS E f px bk T pn rc u = f1 ∧ n = n1)) 0 0 (q_ge E) := by
  refine Met.ofW (cc := cX8_isTaken) (maxL := 3) (ret := (some .boolean)) (by decide) rfl ?_
  intro p e s m args below meth c s₁ B hml hv
  obtain ⟨rfl, hA, hW⟩ := hv
  have hx := B.exec
  have hb := B.bytes
  have hr := B.returns
  have hts := atoms_spec (ws := wsX8_isTaken) B.pre
  have hown : s.vm.findClass RX8 = some m.cls := findClass_of_methodNamed B.named
  have hlocks := B.notSynchronized
  have hS : va_S (q_ge E) s.heap s.heap [] := va_S.rf
  have iX2 : ∀ w ∈ wsX20, w ∈ wsX8_isTaken := by decide +kernel
  have iX8 : ∀ w ∈ wsX80, w ∈ wsX8_isTaken := by decide +kernel
  have hl := lv_entry ([.ref px, .long w]) (n := 3) (Nat.le_of_ble_eq_true rfl)
  rw [lg_entry_eq]
  generalize (lg_sl ([.ref px, .long w]) ++ List.replicate (3 - (lg_sl ([.ref px, .long w])).length) Slot.unset).toArray = ls at hl ⊢
  have hl : lv_has ls 3 [(0, .ref px), (1, .long w)] := hl
  rw [hp.eq] at hW
  refine lv_lload_n hx hb dX8_isTaken_0 rfl (lv_at hl 1 rfl) ?_
  refine lv_aload_n hx hb dX8_isTaken_1 rfl (lv_at hl 0 rfl) ?_
  refine q_get hx hb hts hown hA hW iX8 pS_p rfl 1 (by decide) (hts (.fieldLink RX8 19 "HighRecipes$Parser" "book" "LHighRecipes$Book;") (by decide +kernel)) (fun _ h9 => h9) (v := .ref bk) rfl dX8_isTaken_2 ?_
  refine q_getN hx hb hts hown hA hW iX2 (pS_b hbk) rfl 0 (by decide) (va_Nw.use rfl (hA.2.2.2.1 ("HighRecipes$Parser", 109, "HighRecipes$Book", "panNames", "[J", "HighRecipes") (by decide +kernel))) (fun _ h9 => h9) (v := .ref (bk + 1)) rfl dX8_isTaken_5 ?_
  refine lv_aload_n hx hb dX8_isTaken_8 rfl (lv_at hl 0 rfl) ?_
  refine q_get hx hb hts hown hA hW iX8 pS_p rfl 1 (by decide) (hts (.fieldLink RX8 19 "HighRecipes$Parser" "book" "LHighRecipes$Book;") (by decide +kernel)) (fun _ h9 => h9) (v := .ref bk) rfl dX8_isTaken_9 ?_
  refine q_getN hx hb hts hown hA hW iX2 (pS_b hbk) rfl 4 (by decide) (va_Nw.use rfl (hA.2.2.2.1 ("HighRecipes$Parser", 78, "HighRecipes$Book", "panCount", "I", "HighRecipes") (by decide +kernel))) (fun _ h9 => h9) (v := .int (nI pn)) rfl dX8_isTaken_12 ?_
  refine q_ci (va_runS (As := [.long w, .ref (bk + 1), .int (nI pn)]) (rest := []) ⟨hx, hb, hml, hown, hts⟩ (kX2_indexOf l E (pS E f px bk T pn rc u) n w (bk + 1) 8 pn pN ((pS_out (by omega) (by omega) (by omega)).trans g1) (by decide) hpn) (va_cwS 3 hts gX8_isTaken_X2_indexOf rfl rfl rfl (by decide +kernel) ⟨(Nat.le_of_ble_eq_true rfl), (Nat.le_of_ble_eq_true rfl)⟩) (q_pS hA hW hS) rfl rfl hl.1 rfl (lv_room (Nat.le_of_ble_eq_true rfl)) dX8_isTaken_15 ⟨Nat.le_of_ble_eq_true rfl, Nat.le_of_ble_eq_true rfl⟩) hS (fun r_15 f_15 n_15 H locs hp hW hS => ?_)
  obtain ⟨rfl, rfl, rfl⟩ := hp
  have hW : q_W E (pS E f px bk T pn rc u) n H := hW
  refine lv_if_ge (tgt := 42) hx hb dX8_isTaken_18 (by decide) (fun c_18 => ?_) (fun c_18 => ?_)
  · have e18 : ¬ ix pN pn w < 0 := Int32.not_lt.mpr c_18
    refine lv_iconst (v := 1) hx hb dX8_isTaken_42 (by decide) ?_
    refine lv_goto (tgt := 47) hx hb dX8_isTaken_43 (by decide) ?_
    exact q_zret hx hb hr hlocks hW hS rfl ⟨(by simp [b01, p_tak, e18]), rfl, rfl⟩ (Nat.le_of_ble_eq_true rfl) (Nat.le_of_ble_eq_true rfl) dX8_isTaken_47
  · have e18 : ix pN pn w < 0 := Int32.not_le.mp c_18
    refine lv_lload_n hx hb dX8_isTaken_21 rfl (lv_at hl 1 rfl) ?_
    refine lv_aload_n hx hb dX8_isTaken_22 rfl (lv_at hl 0 rfl) ?_
    refine q_get hx hb hts hown hA hW iX8 pS_p rfl 1 (by decide) (hts (.fieldLink RX8 19 "HighRecipes$Parser" "book" "LHighRecipes$Book;") (by decide +kernel)) (fun _ h9 => h9) (v := .ref bk) rfl dX8_isTaken_23 ?_
    refine q_getN hx hb hts hown hA hW iX2 (pS_b hbk) rfl 2 (by decide) (va_Nw.use rfl (hA.2.2.2.1 ("HighRecipes$Parser", 117, "HighRecipes$Book", "recipeNames", "[J", "HighRecipes") (by decide +kernel))) (fun _ h9 => h9) (v := .ref (bk + 3)) rfl dX8_isTaken_26 ?_
    refine lv_aload_n hx hb dX8_isTaken_29 rfl (lv_at hl 0 rfl) ?_
    refine q_get hx hb hts hown hA hW iX8 pS_p rfl 1 (by decide) (hts (.fieldLink RX8 19 "HighRecipes$Parser" "book" "LHighRecipes$Book;") (by decide +kernel)) (fun _ h9 => h9) (v := .ref bk) rfl dX8_isTaken_30 ?_
    refine q_getN hx hb hts hown hA hW iX2 (pS_b hbk) rfl 5 (by decide) (va_Nw.use rfl (hA.2.2.2.1 ("HighRecipes$Parser", 50, "HighRecipes$Book", "recipeCount", "I", "HighRecipes") (by decide +kernel))) (fun _ h9 => h9) (v := .int (nI rc)) rfl dX8_isTaken_33 ?_
    refine q_ci (va_runS (As := [.long w, .ref (bk + 3), .int (nI rc)]) (rest := []) ⟨hx, hb, hml, hown, hts⟩ (kX2_indexOf l E (pS E f px bk T pn rc u) n w (bk + 3) 6 rc rN ((pS_out (by omega) (by omega) (by omega)).trans g3) (by decide) hrc) (va_cwS 3 hts gX8_isTaken_X2_indexOf rfl rfl rfl (by decide +kernel) ⟨(Nat.le_of_ble_eq_true rfl), (Nat.le_of_ble_eq_true rfl)⟩) (q_pS hA hW hS) rfl rfl hl.1 rfl (lv_room (Nat.le_of_ble_eq_true rfl)) dX8_isTaken_36 ⟨Nat.le_of_ble_eq_true rfl, Nat.le_of_ble_eq_true rfl⟩) hS (fun r_36 f_36 n_36 H locs hp hW hS => ?_)
    obtain ⟨rfl, rfl, rfl⟩ := hp
    have hW : q_W E (pS E f px bk T pn rc u) n H := hW
    refine lv_if_lt (tgt := 46) hx hb dX8_isTaken_39 (by decide) (fun c_39 => ?_) (fun c_39 => ?_)
    · have e39 : ix rN rc w < 0 := c_39
      refine lv_iconst (v := 0) hx hb dX8_isTaken_46 (by decide) ?_
      exact q_zret hx hb hr hlocks hW hS rfl ⟨(by simp [b01, p_tak, e18, e39]), rfl, rfl⟩ (Nat.le_of_ble_eq_true rfl) (Nat.le_of_ble_eq_true rfl) dX8_isTaken_47
    · have e39 : ¬ ix rN rc w < 0 := c_39
      refine lv_iconst (v := 1) hx hb dX8_isTaken_42 (by decide) ?_
      refine lv_goto (tgt := 47) hx hb dX8_isTaken_43 (by decide) ?_
      exact q_zret hx hb hr hlocks hW hS rfl ⟨(by simp [b01, p_tak, e18, e39]), rfl, rfl⟩ (Nat.le_of_ble_eq_true rfl) (Nat.le_of_ble_eq_true rfl) dX8_isTaken_47

set_option maxHeartbeats 4000000 in
set_option maxRecDepth 100000 in
theorem kX8_readNewName (l : Launch) (E : q_E) (f : q_H) (n : Nat) (px bk T pn rc : Nat) (u : p_S) (kk : Nat → Option Nat) (wo pN rN : Nat → Int64) (K : Nat → Nat) (Wd : Nat → Int64) (full : Bool) (f2 : f (px + 2) = some (aQ E 5 401 kk)) (f4 : f (px + 4) = some (aJ E 401 wo)) (g1 : f (bk + 1) = some (aJ E 8 pN)) (g3 : f (bk + 3) = some (aJ E 6 rN)) (hp : PAR E f px bk T pn rc u) (hbk : px + 5 ≤ bk) (hn : bk + 5 ≤ n) (hT : T ≤ 400) (hkk : ∀ j, j ≤ T → kk j = some (E.2.2.2 (K j))) (hKT : 39 ≤ K T) (hK41 : ∀ j, K j < 41) (hWd : ∀ j, j ≤ T → wo j = Wd j) (hpn : pn ≤ 8) (hrc : rc ≤ 6) (hok : p_ok K T u) : Met l yX8_readNewName wsX8_readNewName ({ frames := 2, cells := 0, slots := 0, locals := 46 }) (q_P E [.ref px, .int (b01 full)] f n) (q_Ql E (fun r f1 n1 => Wd u.1 = r ∧ pS E f px bk T pn rc (p_newn K Wd pN pn rN rc full u) = f1 ∧ n = n1)) 0 0 (q_ge E) := by
  refine Met.ofW (cc := cX8_readNewName) (maxL := 4) (ret := (some .long)) (by decide) rfl ?_
  intro p e s m args below meth c s₁ B hml hv
  obtain ⟨rfl, hA, hW⟩ := hv
  have hx := B.exec
  have hb := B.bytes
  have hr := B.returns
  have hts := atoms_spec (ws := wsX8_readNewName) B.pre
  have hown : s.vm.findClass RX8 = some m.cls := findClass_of_methodNamed B.named
  have hlocks := B.notSynchronized
  have hS : va_S (q_ge E) s.heap s.heap [] := va_S.rf
  have iX10 : ∀ w ∈ wsX100, w ∈ wsX8_readNewName := by decide +kernel
  have iX8 : ∀ w ∈ wsX80, w ∈ wsX8_readNewName := by decide +kernel
  have hl := lv_entry ([.ref px, .int (b01 full)]) (n := 4) (Nat.le_of_ble_eq_true rfl)
  rw [lg_entry_eq]
  generalize (lg_sl ([.ref px, .int (b01 full)]) ++ List.replicate (4 - (lg_sl ([.ref px, .int (b01 full)])).length) Slot.unset).toArray = ls at hl ⊢
  have hl : lv_has ls 4 [(0, .ref px), (1, .int (b01 full))] := hl
  rw [hp.eq] at hW
  have hk41 : u.2.1 < 41 := by rcases hok.2.1 with h9 | h9 <;> rw [h9]; decide; exact hK41 _
  refine lv_aload_n hx hb dX8_readNewName_0 rfl (lv_at hl 0 rfl) ?_
  refine q_get hx hb hts hown hA hW iX8 pS_p rfl 0 (by decide) (hts (.fieldLink RX8 10 "HighRecipes$Parser" "tokens" "LHighRecipes$Tokens;") (by decide +kernel)) (fun _ h9 => h9) (v := .ref (px + 1)) rfl dX8_readNewName_1 ?_
  refine q_cl (va_runV (As := []) (rest := []) ⟨hx, hb, hml, hown, hts⟩ (kX10_worth l E (pS E f px bk T pn rc u) n (px + 1) wo (nI (T + 1)) u.1 u.2.1 pS_t ((pS_out (by omega) (by omega) (by omega)).trans f4) (by have := hok.1; omega)) (cwV 0 hts gX8_readNewName_X10_worth rfl rfl rfl (by decide +kernel) ⟨(Nat.le_of_ble_eq_true rfl), (Nat.le_of_ble_eq_true rfl)⟩) (q_pV hA hW hS (ci := 10) rfl pS_t) rfl rfl hl.1 rfl (lv_room (Nat.le_of_ble_eq_true rfl)) dX8_readNewName_4 ⟨Nat.le_of_ble_eq_true rfl, Nat.le_of_ble_eq_true rfl⟩) hS (fun r_4 f_4 n_4 H locs hp hW hS => ?_)
  obtain ⟨rfl, rfl, rfl⟩ := hp
  have hW : q_W E (pS E f px bk T pn rc u) n H := hW
  rw [hWd _ hok.1]
  refine lv_lstore_n (lv' := [(2, .long (Wd u.1)), (0, .ref px), (1, .int (b01 full))]) hx hb dX8_readNewName_7 rfl hl (by decide) rfl (fun ls hl => ?_)
  refine lv_aload_n hx hb dX8_readNewName_8 rfl (lv_at hl 1 rfl) ?_
  refine q_get hx hb hts hown hA hW iX8 pS_p rfl 0 (by decide) (hts (.fieldLink RX8 10 "HighRecipes$Parser" "tokens" "LHighRecipes$Tokens;") (by decide +kernel)) (fun _ h9 => h9) (v := .ref (px + 1)) rfl dX8_readNewName_9 ?_
  refine q_getN hx hb hts hown hA hW iX10 pS_t rfl 5 (by decide) (va_Nw.use rfl (hA.2.2.2.1 ("HighRecipes$Parser", 31, "HighRecipes$Tokens", "kind", "LHighRecipes$Kind;", "HighRecipes") (by decide +kernel))) (fun _ h9 => h9) (v := .ref (E.2.2.2 (u).2.1)) rfl dX8_readNewName_12 ?_
  refine va_gets (n := "NAME") (v := .ref (E.2.2.2 37)) hx hb (hA.2.2.1.1.1 37 (by decide)).1 hS hown (hts (.fieldLink RX8 102 "HighRecipes$Kind" "NAME" "LHighRecipes$Kind;") (by decide +kernel)) (fun _ h9 => h9) dX8_readNewName_15 ?_
  refine lv_acmp_ne (rx := (some (E.2.2.2 (u).2.1))) (ry := (some (E.2.2.2 37))) (tgt := 46) hx hb dX8_readNewName_18 (by decide) (fun c_18 => ?_) (fun c_18 => ?_)
  · have e18 : ¬ u.2.1 = 37 := fun h9 => c_18 (by rw [h9])
    refine lv_aload_n hx hb dX8_readNewName_46 rfl (lv_at hl 1 rfl) ?_
    refine q_get hx hb hts hown hA hW iX8 pS_p rfl 0 (by decide) (hts (.fieldLink RX8 10 "HighRecipes$Parser" "tokens" "LHighRecipes$Tokens;") (by decide +kernel)) (fun _ h9 => h9) (v := .ref (px + 1)) rfl dX8_readNewName_47 ?_
    refine va_gets (n := "NAME") (v := .ref (E.2.2.2 37)) hx hb (hA.2.2.1.1.1 37 (by decide)).1 hS hown (hts (.fieldLink RX8 102 "HighRecipes$Kind" "NAME" "LHighRecipes$Kind;") (by decide +kernel)) (fun _ h9 => h9) dX8_readNewName_50 ?_
    refine q_cv (va_runV (As := [.ref (E.2.2.2 37)]) (rest := []) ⟨hx, hb, hml, hown, hts⟩ (kX10_take l E (pS E f px bk T pn rc u) n (px + 1) T u kk K 37 pS_t ((pS_out (by omega) (by omega) (by omega)).trans f2) (by assumption) (by assumption) (by assumption) (by assumption) hok (by decide)) (cwV 1 hts gX8_readNewName_X10_take rfl rfl rfl (by decide +kernel) ⟨(Nat.le_of_ble_eq_true rfl), (Nat.le_of_ble_eq_true rfl)⟩) (q_pV hA hW hS (ci := 10) rfl pS_t) rfl rfl hl.1 rfl (lv_room (Nat.le_of_ble_eq_true rfl)) dX8_readNewName_53 ⟨Nat.le_of_ble_eq_true rfl, Nat.le_of_ble_eq_true rfl⟩) hS (fun f_53 n_53 H locs hp hW hS => ?_)
    obtain ⟨rfl, rfl⟩ := hp
    have hW : q_W E (va_up (pS E f px bk T pn rc u) (px + 1) (some (cTS E (px + 1) T (p_take K 37 u)))) n H := hW
    have hW : q_W E (pS E f px bk T pn rc (p_take K 37 u)) n H := by rw [← pS_st (s := u) (s' := p_take K 37 u) rfl rfl]; exact hW
    have hok_53 : p_ok K T (p_take K 37 u) := hok.take hKT (by first | assumption | decide)
    have hW : q_W E (pS E f px bk T pn rc (p_take K 37 u)) n H := hW
    refine lv_lload_n hx hb dX8_readNewName_56 rfl (lv_at hl 0 rfl) ?_
    exact q_lret hx hb hr hlocks hW hS ⟨rfl, (by unfold p_newn; rw [if_neg e18]), rfl⟩ (Nat.le_of_ble_eq_true rfl) (Nat.le_of_ble_eq_true rfl) dX8_readNewName_57
  · have e18 : u.2.1 = 37 := q_kinj hA hk41 (by decide) c_18
    refine lv_aload_n hx hb dX8_readNewName_21 rfl (lv_at hl 1 rfl) ?_
    refine lv_lload_n hx hb dX8_readNewName_22 rfl (lv_at hl 0 rfl) ?_
    refine q_ci (va_runV (As := [.long (Wd u.1)]) (rest := []) ⟨hx, hb, hml, hown, hts⟩ (kX8_isTaken l E (pS E f px bk T pn rc u) n px bk T pn rc u kk wo pN rN K Wd (Wd u.1) ((pS_out (by omega) (by omega) (by omega)).trans f2) ((pS_out (by omega) (by omega) (by omega)).trans f4) ((pS_out (by omega) (by omega) (by omega)).trans g1) ((pS_out (by omega) (by omega) (by omega)).trans g3) (pS_K hbk) (by assumption) (by omega) (by assumption) (by assumption) (by assumption) (by assumption) (by assumption) (by assumption) (by assumption) hok) (cwV 1 hts gX8_readNewName_X8_isTaken rfl rfl rfl (by decide +kernel) ⟨(Nat.le_of_ble_eq_true rfl), (Nat.le_of_ble_eq_true rfl)⟩) (q_pV hA hW hS (ci := 8) rfl pS_p) rfl rfl hl.1 rfl (lv_room (Nat.le_of_ble_eq_true rfl)) dX8_readNewName_23 ⟨Nat.le_of_ble_eq_true rfl, Nat.le_of_ble_eq_true rfl⟩) hS (fun r_23 f_23 n_23 H locs hp hW hS => ?_)
    obtain ⟨rfl, rfl, rfl⟩ := hp
    rw [pS_pS] at hW
    have hW : q_W E (pS E f px bk T pn rc u) n H := hW
    refine lv_if_eq (tgt := 37) hx hb dX8_readNewName_26 (by decide) (fun c_26 => ?_) (fun c_26 => ?_)
    · have e26 := b01_0 c_26
      refine lv_iload_n hx hb dX8_readNewName_37 rfl (lv_at hl 2 rfl) ?_
      refine lv_if_eq (tgt := 46) hx hb dX8_readNewName_38 (by decide) (fun c_38 => ?_) (fun c_38 => ?_)
      · have e38 := b01_0 c_38
        refine lv_aload_n hx hb dX8_readNewName_46 rfl (lv_at hl 1 rfl) ?_
        refine q_get hx hb hts hown hA hW iX8 pS_p rfl 0 (by decide) (hts (.fieldLink RX8 10 "HighRecipes$Parser" "tokens" "LHighRecipes$Tokens;") (by decide +kernel)) (fun _ h9 => h9) (v := .ref (px + 1)) rfl dX8_readNewName_47 ?_
        refine va_gets (n := "NAME") (v := .ref (E.2.2.2 37)) hx hb (hA.2.2.1.1.1 37 (by decide)).1 hS hown (hts (.fieldLink RX8 102 "HighRecipes$Kind" "NAME" "LHighRecipes$Kind;") (by decide +kernel)) (fun _ h9 => h9) dX8_readNewName_50 ?_
        refine q_cv (va_runV (As := [.ref (E.2.2.2 37)]) (rest := []) ⟨hx, hb, hml, hown, hts⟩ (kX10_take l E (pS E f px bk T pn rc u) n (px + 1) T u kk K 37 pS_t ((pS_out (by omega) (by omega) (by omega)).trans f2) (by assumption) (by assumption) (by assumption) (by assumption) hok (by decide)) (cwV 1 hts gX8_readNewName_X10_take rfl rfl rfl (by decide +kernel) ⟨(Nat.le_of_ble_eq_true rfl), (Nat.le_of_ble_eq_true rfl)⟩) (q_pV hA hW hS (ci := 10) rfl pS_t) rfl rfl hl.1 rfl (lv_room (Nat.le_of_ble_eq_true rfl)) dX8_readNewName_53 ⟨Nat.le_of_ble_eq_true rfl, Nat.le_of_ble_eq_true rfl⟩) hS (fun f_53 n_53 H locs hp hW hS => ?_)
        obtain ⟨rfl, rfl⟩ := hp
        have hW : q_W E (va_up (pS E f px bk T pn rc u) (px + 1) (some (cTS E (px + 1) T (p_take K 37 u)))) n H := hW
        have hW : q_W E (pS E f px bk T pn rc (p_take K 37 u)) n H := by rw [← pS_st (s := u) (s' := p_take K 37 u) rfl rfl]; exact hW
        have hok_53 : p_ok K T (p_take K 37 u) := hok.take hKT (by first | assumption | decide)
        have hW : q_W E (pS E f px bk T pn rc (p_take K 37 u)) n H := hW
        refine lv_lload_n hx hb dX8_readNewName_56 rfl (lv_at hl 0 rfl) ?_
        exact q_lret hx hb hr hlocks hW hS ⟨rfl, (by unfold p_newn; rw [if_pos e18, e26, if_neg (by decide), e38, p_ci_f]), rfl⟩ (Nat.le_of_ble_eq_true rfl) (Nat.le_of_ble_eq_true rfl) dX8_readNewName_57
      · have e38 := b01_1 c_38
        refine lv_aload_n hx hb dX8_readNewName_41 rfl (lv_at hl 1 rfl) ?_
        refine lv_iconst (v := 4) hx hb dX8_readNewName_42 (by decide) ?_
        refine q_cv (va_runV (As := [.int 4]) (rest := []) ⟨hx, hb, hml, hown, hts⟩ (kX8_complain l E (pS E f px bk T pn rc u) n px bk T pn rc u kk wo pN rN K Wd 4 ((pS_out (by omega) (by omega) (by omega)).trans f2) ((pS_out (by omega) (by omega) (by omega)).trans f4) ((pS_out (by omega) (by omega) (by omega)).trans g1) ((pS_out (by omega) (by omega) (by omega)).trans g3) (pS_K hbk) (by assumption) (by omega) (by assumption) (by assumption) (by assumption) (by assumption) (by assumption) (by assumption) (by assumption) hok.2.2.1) (cwV 1 hts gX8_readNewName_X8_complain rfl rfl rfl (by decide +kernel) ⟨(Nat.le_of_ble_eq_true rfl), (Nat.le_of_ble_eq_true rfl)⟩) (q_pV hA hW hS (ci := 8) rfl pS_p) rfl rfl hl.1 rfl (lv_room (Nat.le_of_ble_eq_true rfl)) dX8_readNewName_43 ⟨Nat.le_of_ble_eq_true rfl, Nat.le_of_ble_eq_true rfl⟩) hS (fun f_43 n_43 H locs hp hW hS => ?_)
        obtain ⟨rfl, rfl⟩ := hp
        rw [pS_pS] at hW
        have hW : q_W E (pS E f px bk T pn rc (p_ci true 4 u)) n H := hW
        have ok43 : p_ok K T (p_ci true 4 u) := hok.ci (by decide)
        refine lv_aload_n hx hb dX8_readNewName_46 rfl (lv_at hl 1 rfl) ?_
        refine q_get hx hb hts hown hA hW iX8 pS_p rfl 0 (by decide) (hts (.fieldLink RX8 10 "HighRecipes$Parser" "tokens" "LHighRecipes$Tokens;") (by decide +kernel)) (fun _ h9 => h9) (v := .ref (px + 1)) rfl dX8_readNewName_47 ?_
        refine va_gets (n := "NAME") (v := .ref (E.2.2.2 37)) hx hb (hA.2.2.1.1.1 37 (by decide)).1 hS hown (hts (.fieldLink RX8 102 "HighRecipes$Kind" "NAME" "LHighRecipes$Kind;") (by decide +kernel)) (fun _ h9 => h9) dX8_readNewName_50 ?_
        refine q_cv (va_runV (As := [.ref (E.2.2.2 37)]) (rest := []) ⟨hx, hb, hml, hown, hts⟩ (kX10_take l E (pS E f px bk T pn rc (p_ci true 4 u)) n (px + 1) T (p_ci true 4 u) kk K 37 pS_t ((pS_out (by omega) (by omega) (by omega)).trans f2) (by assumption) (by assumption) (by assumption) (by assumption) ok43 (by decide)) (cwV 1 hts gX8_readNewName_X10_take rfl rfl rfl (by decide +kernel) ⟨(Nat.le_of_ble_eq_true rfl), (Nat.le_of_ble_eq_true rfl)⟩) (q_pV hA hW hS (ci := 10) rfl pS_t) rfl rfl hl.1 rfl (lv_room (Nat.le_of_ble_eq_true rfl)) dX8_readNewName_53 ⟨Nat.le_of_ble_eq_true rfl, Nat.le_of_ble_eq_true rfl⟩) hS (fun f_53 n_53 H locs hp hW hS => ?_)
        obtain ⟨rfl, rfl⟩ := hp
        have hW : q_W E (va_up (pS E f px bk T pn rc (p_ci true 4 u)) (px + 1) (some (cTS E (px + 1) T (p_take K 37 (p_ci true 4 u))))) n H := hW
        have hW : q_W E (pS E f px bk T pn rc (p_take K 37 (p_ci true 4 u))) n H := by rw [← pS_st (s := p_ci true 4 u) (s' := p_take K 37 (p_ci true 4 u)) rfl rfl]; exact hW
        have hok_53 : p_ok K T (p_take K 37 (p_ci true 4 u)) := ok43.take hKT (by first | assumption | decide)
        have hW : q_W E (pS E f px bk T pn rc (p_take K 37 (p_ci true 4 u))) n H := hW
        refine lv_lload_n hx hb dX8_readNewName_56 rfl (lv_at hl 0 rfl) ?_
        exact q_lret hx hb hr hlocks hW hS ⟨rfl, (by unfold p_newn; rw [if_pos e18, e26, if_neg (by decide), e38]), rfl⟩ (Nat.le_of_ble_eq_true rfl) (Nat.le_of_ble_eq_true rfl) dX8_readNewName_57
    · have e26 := b01_1 c_26
      refine lv_aload_n hx hb dX8_readNewName_29 rfl (lv_at hl 1 rfl) ?_
      refine lv_iconst (v := 2) hx hb dX8_readNewName_30 (by decide) ?_
      refine q_cv (va_runV (As := [.int 2]) (rest := []) ⟨hx, hb, hml, hown, hts⟩ (kX8_complain l E (pS E f px bk T pn rc u) n px bk T pn rc u kk wo pN rN K Wd 2 ((pS_out (by omega) (by omega) (by omega)).trans f2) ((pS_out (by omega) (by omega) (by omega)).trans f4) ((pS_out (by omega) (by omega) (by omega)).trans g1) ((pS_out (by omega) (by omega) (by omega)).trans g3) (pS_K hbk) (by assumption) (by omega) (by assumption) (by assumption) (by assumption) (by assumption) (by assumption) (by assumption) (by assumption) hok.2.2.1) (cwV 1 hts gX8_readNewName_X8_complain rfl rfl rfl (by decide +kernel) ⟨(Nat.le_of_ble_eq_true rfl), (Nat.le_of_ble_eq_true rfl)⟩) (q_pV hA hW hS (ci := 8) rfl pS_p) rfl rfl hl.1 rfl (lv_room (Nat.le_of_ble_eq_true rfl)) dX8_readNewName_31 ⟨Nat.le_of_ble_eq_true rfl, Nat.le_of_ble_eq_true rfl⟩) hS (fun f_31 n_31 H locs hp hW hS => ?_)
      obtain ⟨rfl, rfl⟩ := hp
      rw [pS_pS] at hW
      have hW : q_W E (pS E f px bk T pn rc (p_ci true 2 u)) n H := hW
      have ok31 : p_ok K T (p_ci true 2 u) := hok.ci (by decide)
      refine lv_goto (tgt := 46) hx hb dX8_readNewName_34 (by decide) ?_
      refine lv_aload_n hx hb dX8_readNewName_46 rfl (lv_at hl 1 rfl) ?_
      refine q_get hx hb hts hown hA hW iX8 pS_p rfl 0 (by decide) (hts (.fieldLink RX8 10 "HighRecipes$Parser" "tokens" "LHighRecipes$Tokens;") (by decide +kernel)) (fun _ h9 => h9) (v := .ref (px + 1)) rfl dX8_readNewName_47 ?_
      refine va_gets (n := "NAME") (v := .ref (E.2.2.2 37)) hx hb (hA.2.2.1.1.1 37 (by decide)).1 hS hown (hts (.fieldLink RX8 102 "HighRecipes$Kind" "NAME" "LHighRecipes$Kind;") (by decide +kernel)) (fun _ h9 => h9) dX8_readNewName_50 ?_
      refine q_cv (va_runV (As := [.ref (E.2.2.2 37)]) (rest := []) ⟨hx, hb, hml, hown, hts⟩ (kX10_take l E (pS E f px bk T pn rc (p_ci true 2 u)) n (px + 1) T (p_ci true 2 u) kk K 37 pS_t ((pS_out (by omega) (by omega) (by omega)).trans f2) (by assumption) (by assumption) (by assumption) (by assumption) ok31 (by decide)) (cwV 1 hts gX8_readNewName_X10_take rfl rfl rfl (by decide +kernel) ⟨(Nat.le_of_ble_eq_true rfl), (Nat.le_of_ble_eq_true rfl)⟩) (q_pV hA hW hS (ci := 10) rfl pS_t) rfl rfl hl.1 rfl (lv_room (Nat.le_of_ble_eq_true rfl)) dX8_readNewName_53 ⟨Nat.le_of_ble_eq_true rfl, Nat.le_of_ble_eq_true rfl⟩) hS (fun f_53 n_53 H locs hp hW hS => ?_)
      obtain ⟨rfl, rfl⟩ := hp
      have hW : q_W E (va_up (pS E f px bk T pn rc (p_ci true 2 u)) (px + 1) (some (cTS E (px + 1) T (p_take K 37 (p_ci true 2 u))))) n H := hW
      have hW : q_W E (pS E f px bk T pn rc (p_take K 37 (p_ci true 2 u))) n H := by rw [← pS_st (s := p_ci true 2 u) (s' := p_take K 37 (p_ci true 2 u)) rfl rfl]; exact hW
      have hok_53 : p_ok K T (p_take K 37 (p_ci true 2 u)) := ok31.take hKT (by first | assumption | decide)
      have hW : q_W E (pS E f px bk T pn rc (p_take K 37 (p_ci true 2 u))) n H := hW
      refine lv_lload_n hx hb dX8_readNewName_56 rfl (lv_at hl 0 rfl) ?_
      exact q_lret hx hb hr hlocks hW hS ⟨rfl, (by unfold p_newn; rw [if_pos e18, if_pos e26]), rfl⟩ (Nat.le_of_ble_eq_true rfl) (Nat.le_of_ble_eq_true rfl) dX8_readNewName_57

