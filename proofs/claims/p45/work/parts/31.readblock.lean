/-- one act ahead of a row of acts -/
theorem rL_cons {E : q_E} {pn R d n0 n1 N kd m : Nat} {g G : q_H} {RS : Nat → q_S} {pan rcp pm : Int32} {val lc blk oth o : Option Nat} {S1 S2 : q_S} (h01 : n0 < n1) (h1N : n1 ≤ N) (hrep : ∀ o9 : Option Nat, rA E pn n0 n1 (va_up g n0 (some (cAct E kd pan rcp pm val lc blk oth o9))) RS R d n0 S1) (hG : ∀ q, n0 < q → q < n1 → G q = g q) (hn : G n0 = some (cAct E kd pan rcp pm val lc blk oth o)) (h2 : rL E n1 N G (rA E pn n1 N G RS R d) m o S2) : rL E n0 N G (rA E pn n0 N G RS R d) (m + 1) (some n0) (k_cons S1 S2) := by
  refine ⟨n0, kd, pan, rcp, pm, val, lc, blk, oth, o, S1, S2, rfl, Nat.le_refl _, Nat.lt_of_lt_of_le h01 h1N, hn, ?_, ?_, rfl⟩
  · refine rA_frame ?_ (Nat.le_refl _) h1N (Nat.le_refl _) (fun _ _ => rfl) d n0 S1 (hrep o)
    intro q a1 a2
    by_cases e : q = n0
    · rw [e, hn, va_up_self]
    · rw [va_up_ne _ _ e]
      exact hG q (by omega) a2
  · exact rL_frame (fun _ _ _ => rfl) (Nat.le_of_lt h01) (Nat.le_refl _) (fun a S h => rA_frame (fun _ _ _ => rfl) (Nat.le_of_lt h01) (Nat.le_refl _) (Nat.le_refl _) (fun _ _ => rfl) d a S h) m o S2 h2

set_option maxHeartbeats 4000000 in
set_option maxRecDepth 100000 in
theorem kX8_readBlock0 (l : Launch) (E : q_E) (f : q_H) (n : Nat) (px bk T pn rc : Nat) (u : p_S) (kk : Nat → Option Nat) (wo pN rN : Nat → Int64) (K : Nat → Nat) (Wd : Nat → Int64) (RS : Nat → q_S) (f2 : f (px + 2) = some (aQ E 5 401 kk)) (f4 : f (px + 4) = some (aJ E 401 wo)) (g1 : f (bk + 1) = some (aJ E 8 pN)) (g3 : f (bk + 3) = some (aJ E 6 rN)) (hp : PAR E f px bk T pn rc u) (hbk : px + 5 ≤ bk) (hn : bk + 5 ≤ n) (hT : T ≤ 400) (hkk : ∀ j, j ≤ T → kk j = some (E.2.2.2 (K j))) (hKT : 39 ≤ K T) (hK41 : ∀ j, K j < 41) (hWd : ∀ j, j ≤ T → wo j = Wd j) (hpn : pn ≤ 8) (hrc : rc ≤ 6) (hok : p_ok K T u) (hsn : n = u.2.2.2.2.2) : Met l yX8_readBlock wsX8_readBlock ({ frames := 45, cells := (p_blk K Wd pN pn rN rc 0 u).2.2.2.2.2 - u.2.2.2.2.2, slots := 9 * ((p_blk K Wd pN pn rN rc 0 u).2.2.2.2.2 - u.2.2.2.2.2), locals := 1050 }) (q_P E [.ref px, .int (nI (6 - 0))] f n) (q_Qq E (BLKq E f px bk T pn rc K Wd pN rN RS 0 u)) ((p_blk K Wd pN pn rN rc 0 u).2.2.2.2.2 - u.2.2.2.2.2) (9 * ((p_blk K Wd pN pn rN rc 0 u).2.2.2.2.2 - u.2.2.2.2.2)) (q_ge E) := by
  refine Met.ofW (cc := cX8_readBlock) (maxL := 6) (ret := (some (.object "HighRecipes$Act"))) (by decide) rfl ?_
  intro p e s m args below meth c s₁ B hml hv
  obtain ⟨rfl, hA, hW⟩ := hv
  have hx := B.exec
  have hb := B.bytes
  have hr := B.returns
  have hts := atoms_spec (ws := wsX8_readBlock) B.pre
  have hown : s.vm.findClass RX8 = some m.cls := findClass_of_methodNamed B.named
  have hlocks := B.notSynchronized
  have hS : va_S (q_ge E) s.heap s.heap [] := va_S.rf
  have iX10 : ∀ w ∈ wsX100, w ∈ wsX8_readBlock := by decide +kernel
  have iX8 : ∀ w ∈ wsX80, w ∈ wsX8_readBlock := by decide +kernel
  have hl := lv_entry ([.ref px, .int (nI (6 - 0))]) (n := 6) (Nat.le_of_ble_eq_true rfl)
  rw [lg_entry_eq]
  generalize (lg_sl ([.ref px, .int (nI (6 - 0))]) ++ List.replicate (6 - (lg_sl ([.ref px, .int (nI (6 - 0))])).length) Slot.unset).toArray = ls at hl ⊢
  have hl : lv_has ls 6 [(0, .ref px), (1, .int (nI (6 - 0)))] := hl
  subst hsn
  rw [hp.eq] at hW
  have hk41 : u.2.1 < 41 := by rcases hok.2.1 with h9 | h9 <;> rw [h9]; decide; exact hK41 _
  have oks : p_ok K T (p_step K false u) := (go_step (r := false) hKT (fun h9 => by cases h9) hok).1
  refine lv_aload_n hx hb dX8_readBlock_0 rfl (lv_at hl 0 rfl) ?_
  refine q_get hx hb hts hown hA hW iX8 pS_p rfl 0 (by decide) (hts (.fieldLink RX8 10 "HighRecipes$Parser" "tokens" "LHighRecipes$Tokens;") (by decide +kernel)) (fun _ h9 => h9) (v := .ref (px + 1)) rfl dX8_readBlock_1 ?_
  refine lv_aload_n hx hb dX8_readBlock_4 rfl (lv_at hl 0 rfl) ?_
  refine q_get hx hb hts hown hA hW iX8 pS_p rfl 0 (by decide) (hts (.fieldLink RX8 10 "HighRecipes$Parser" "tokens" "LHighRecipes$Tokens;") (by decide +kernel)) (fun _ h9 => h9) (v := .ref (px + 1)) rfl dX8_readBlock_5 ?_
  refine q_getN hx hb hts hown hA hW iX10 pS_t rfl 5 (by decide) (va_Nw.use rfl (hA.2.2.2.1 ("HighRecipes$Parser", 31, "HighRecipes$Tokens", "kind", "LHighRecipes$Kind;", "HighRecipes") (by decide +kernel))) (fun _ h9 => h9) (v := .ref (E.2.2.2 (u).2.1)) rfl dX8_readBlock_8 ?_
  refine va_gets (n := "OPEN") (v := .ref (E.2.2.2 27)) hx hb (hA.2.2.1.1.1 27 (by decide)).1 hS hown (hts (.fieldLink RX8 124 "HighRecipes$Kind" "OPEN" "LHighRecipes$Kind;") (by decide +kernel)) (fun _ h9 => h9) dX8_readBlock_11 ?_
  refine lv_acmp_ne (rx := (some (E.2.2.2 (u).2.1))) (ry := (some (E.2.2.2 27))) (tgt := 26) hx hb dX8_readBlock_14 (by decide) (fun c_14 => ?_) (fun c_14 => ?_)
  · have e14 : ¬ u.2.1 = 27 := fun h9 => c_14 (by rw [h9])
    refine lv_iconst (v := 0) hx hb dX8_readBlock_26 (by decide) ?_
    refine q_cv (va_runV (As := [.int 0]) (rest := []) ⟨hx, hb, hml, hown, hts⟩ (kX10_step l E (pS E f px bk T pn rc u) u.2.2.2.2.2 (px + 1) T u kk K false pS_t ((pS_out (by omega) (by omega) (by omega)).trans f2) (by assumption) (by assumption) (fun h9 => by cases h9)) (cwV 1 hts gX8_readBlock_X10_step rfl rfl rfl (by decide +kernel) ⟨(Nat.le_of_ble_eq_true rfl), (Nat.le_of_ble_eq_true rfl)⟩) (q_pV hA hW hS (ci := 10) rfl pS_t) rfl rfl hl.1 rfl (lv_room (Nat.le_of_ble_eq_true rfl)) dX8_readBlock_27 ⟨(by show 0 + 0 ≤ (p_blk K Wd pN pn rN rc 0 u).2.2.2.2.2 - u.2.2.2.2.2; omega), (by show 0 + 0 ≤ 9 * ((p_blk K Wd pN pn rN rc 0 u).2.2.2.2.2 - u.2.2.2.2.2); omega)⟩) hS (fun f_27 n_27 H locs hp hW hS => ?_)
    obtain ⟨rfl, rfl⟩ := hp
    have hW : q_W E (va_up (pS E f px bk T pn rc u) (px + 1) (some (cTS E (px + 1) T (p_step K false u)))) u.2.2.2.2.2 H := hW
    have hW : q_W E (pS E f px bk T pn rc (p_step K false u)) u.2.2.2.2.2 H := by rw [← pS_st (s := u) (s' := p_step K false u) rfl rfl]; exact hW
    have hW : q_W E (pS E f px bk T pn rc (p_step K false u)) u.2.2.2.2.2 H := hW
    refine lv_null hx hb dX8_readBlock_30 ?_
    refine lv_astore_nN (lv' := [(2, .null), (0, .ref px), (1, .int (nI (6 - 0)))]) hx hb dX8_readBlock_31 rfl hl (by decide) rfl (fun ls hl => ?_)
    refine lv_null hx hb dX8_readBlock_32 ?_
    refine lv_astore_nN (lv' := [(3, .null), (2, .null), (0, .ref px), (1, .int (nI (6 - 0)))]) hx hb dX8_readBlock_33 rfl hl (by decide) rfl (fun ls hl => ?_)
    refine lv_iconst (v := 0) hx hb dX8_readBlock_34 (by decide) ?_
    refine lv_istore (lv' := [(4, .int 0), (3, .null), (2, .null), (0, .ref px), (1, .int (nI (6 - 0)))]) hx hb dX8_readBlock_35 hl (by decide) rfl (fun ls hl => ?_)
    refine lv_iload hx hb dX8_readBlock_37 (lv_at hl 0 rfl) ?_
    refine lv_sipush (v := 400) hx hb dX8_readBlock_39 (by decide) ?_
    refine lv_icmp_ge (tgt := 90) hx hb dX8_readBlock_42 (by decide) (fun c_42 => absurd c_42 (by decide)) (fun c_42 => ?_)
    refine lv_aload_n hx hb dX8_readBlock_45 rfl (lv_at hl 3 rfl) ?_
    refine q_get hx hb hts hown hA hW iX8 pS_p rfl 0 (by decide) (hts (.fieldLink RX8 10 "HighRecipes$Parser" "tokens" "LHighRecipes$Tokens;") (by decide +kernel)) (fun _ h9 => h9) (v := .ref (px + 1)) rfl dX8_readBlock_46 ?_
    refine q_getN hx hb hts hown hA hW iX10 pS_t rfl 5 (by decide) (va_Nw.use rfl (hA.2.2.2.1 ("HighRecipes$Parser", 31, "HighRecipes$Tokens", "kind", "LHighRecipes$Kind;", "HighRecipes") (by decide +kernel))) (fun _ h9 => h9) (v := .ref (E.2.2.2 ((p_step K false u)).2.1)) rfl dX8_readBlock_49 ?_
    refine q_ci (va_runV (As := []) (rest := []) ⟨hx, hb, hml, hown, hts⟩ (kX5_beginsAct l E (pS E f px bk T pn rc (p_step K false u)) u.2.2.2.2.2 (((p_step K false u)).2.1) (show (40 : Nat) < 41 by decide)) (cwV 0 hts gX8_readBlock_X5_beginsAct rfl rfl rfl (by decide +kernel) ⟨(Nat.le_of_ble_eq_true rfl), (Nat.le_of_ble_eq_true rfl)⟩) (q_pK hA hW hS (show (40 : Nat) < 41 by decide)) rfl rfl hl.1 rfl (lv_room (Nat.le_of_ble_eq_true rfl)) dX8_readBlock_52 ⟨(by show 0 + 0 ≤ (p_blk K Wd pN pn rN rc 0 u).2.2.2.2.2 - u.2.2.2.2.2; omega), (by show 0 + 0 ≤ 9 * ((p_blk K Wd pN pn rN rc 0 u).2.2.2.2.2 - u.2.2.2.2.2); omega)⟩) hS (fun r_52 f_52 n_52 H locs hp hW hS => ?_)
    obtain ⟨rfl, rfl, rfl⟩ := hp
    have hW : q_W E (pS E f px bk T pn rc (p_step K false u)) u.2.2.2.2.2 H := hW
    refine lv_if_eq (tgt := 90) hx hb dX8_readBlock_55 (by decide) (fun c_55 => ?_) (fun c_55 => absurd (show b01 (b_act 40) = 0 by decide) c_55)
    refine lv_aload_n hx hb dX8_readBlock_90 rfl (lv_at hl 3 rfl) ?_
    refine q_get hx hb hts hown hA hW iX8 pS_p rfl 0 (by decide) (hts (.fieldLink RX8 10 "HighRecipes$Parser" "tokens" "LHighRecipes$Tokens;") (by decide +kernel)) (fun _ h9 => h9) (v := .ref (px + 1)) rfl dX8_readBlock_91 ?_
    refine va_gets (n := "CLOSE") (v := .ref (E.2.2.2 28)) hx hb (hA.2.2.1.1.1 28 (by decide)).1 hS hown (hts (.fieldLink RX8 140 "HighRecipes$Kind" "CLOSE" "LHighRecipes$Kind;") (by decide +kernel)) (fun _ h9 => h9) dX8_readBlock_94 ?_
    refine q_cv (va_runV (As := [.ref (E.2.2.2 28)]) (rest := []) ⟨hx, hb, hml, hown, hts⟩ (kX10_take l E (pS E f px bk T pn rc (p_step K false u)) u.2.2.2.2.2 (px + 1) T (p_step K false u) kk K 28 pS_t ((pS_out (by omega) (by omega) (by omega)).trans f2) (by assumption) (by assumption) (by assumption) (by assumption) oks (by first | assumption | decide)) (cwV 1 hts gX8_readBlock_X10_take rfl rfl rfl (by decide +kernel) ⟨(Nat.le_of_ble_eq_true rfl), (Nat.le_of_ble_eq_true rfl)⟩) (q_pV hA hW hS (ci := 10) rfl pS_t) rfl rfl hl.1 rfl (lv_room (Nat.le_of_ble_eq_true rfl)) dX8_readBlock_97 ⟨(by show 0 + 0 ≤ (p_blk K Wd pN pn rN rc 0 u).2.2.2.2.2 - u.2.2.2.2.2; omega), (by show 0 + 0 ≤ 9 * ((p_blk K Wd pN pn rN rc 0 u).2.2.2.2.2 - u.2.2.2.2.2); omega)⟩) hS (fun f_97 n_97 H locs hp hW hS => ?_)
    obtain ⟨rfl, rfl⟩ := hp
    have hW : q_W E (va_up (pS E f px bk T pn rc (p_step K false u)) (px + 1) (some (cTS E (px + 1) T (p_take K 28 (p_step K false u))))) u.2.2.2.2.2 H := hW
    have hW : q_W E (pS E f px bk T pn rc (p_take K 28 (p_step K false u))) u.2.2.2.2.2 H := by rw [← pS_st (s := p_step K false u) (s' := p_take K 28 (p_step K false u)) rfl rfl]; exact hW
    have hok_97 : p_ok K T (p_take K 28 (p_step K false u)) := oks.take hKT (by first | assumption | decide)
    have hW : q_W E (pS E f px bk T pn rc (p_take K 28 (p_step K false u))) u.2.2.2.2.2 H := hW
    refine lv_aload_nN hx hb dX8_readBlock_100 rfl (lv_at hl 2 rfl) ?_
    exact q_aret (v := none) hx hb hr (Or.inl ⟨_, rfl⟩) hlocks hW hS ⟨f, rfl, rfl, fun q hq _ _ _ => rfl, (fun a h9 => by cases h9), fun k1 k2 => absurd (blk_0 k1) (by decide)⟩ (by show 0 ≤ (p_blk K Wd pN pn rN rc 0 u).2.2.2.2.2 - u.2.2.2.2.2; omega) (by show 0 ≤ 9 * ((p_blk K Wd pN pn rN rc 0 u).2.2.2.2.2 - u.2.2.2.2.2); omega) dX8_readBlock_101
  · have e14 : u.2.1 = 27 := q_kinj hA hk41 (by decide) c_14
    refine lv_iload_n hx hb dX8_readBlock_17 rfl (lv_at hl 1 rfl) ?_
    refine lv_iconst (v := 5) hx hb dX8_readBlock_18 (by decide) ?_
    refine lv_icmp_gt (tgt := 26) hx hb dX8_readBlock_19 (by decide) (fun c_19 => ?_) (fun c_19 => absurd (by decide) c_19)
    refine lv_iconst (v := 0) hx hb dX8_readBlock_26 (by decide) ?_
    refine q_cv (va_runV (As := [.int 0]) (rest := []) ⟨hx, hb, hml, hown, hts⟩ (kX10_step l E (pS E f px bk T pn rc u) u.2.2.2.2.2 (px + 1) T u kk K false pS_t ((pS_out (by omega) (by omega) (by omega)).trans f2) (by assumption) (by assumption) (fun h9 => by cases h9)) (cwV 1 hts gX8_readBlock_X10_step rfl rfl rfl (by decide +kernel) ⟨(Nat.le_of_ble_eq_true rfl), (Nat.le_of_ble_eq_true rfl)⟩) (q_pV hA hW hS (ci := 10) rfl pS_t) rfl rfl hl.1 rfl (lv_room (Nat.le_of_ble_eq_true rfl)) dX8_readBlock_27 ⟨(by show 0 + 0 ≤ (p_blk K Wd pN pn rN rc 0 u).2.2.2.2.2 - u.2.2.2.2.2; omega), (by show 0 + 0 ≤ 9 * ((p_blk K Wd pN pn rN rc 0 u).2.2.2.2.2 - u.2.2.2.2.2); omega)⟩) hS (fun f_27 n_27 H locs hp hW hS => ?_)
    obtain ⟨rfl, rfl⟩ := hp
    have hW : q_W E (va_up (pS E f px bk T pn rc u) (px + 1) (some (cTS E (px + 1) T (p_step K false u)))) u.2.2.2.2.2 H := hW
    have hW : q_W E (pS E f px bk T pn rc (p_step K false u)) u.2.2.2.2.2 H := by rw [← pS_st (s := u) (s' := p_step K false u) rfl rfl]; exact hW
    have hW : q_W E (pS E f px bk T pn rc (p_step K false u)) u.2.2.2.2.2 H := hW
    refine lv_null hx hb dX8_readBlock_30 ?_
    refine lv_astore_nN (lv' := [(2, .null), (0, .ref px), (1, .int (nI (6 - 0)))]) hx hb dX8_readBlock_31 rfl hl (by decide) rfl (fun ls hl => ?_)
    refine lv_null hx hb dX8_readBlock_32 ?_
    refine lv_astore_nN (lv' := [(3, .null), (2, .null), (0, .ref px), (1, .int (nI (6 - 0)))]) hx hb dX8_readBlock_33 rfl hl (by decide) rfl (fun ls hl => ?_)
    refine lv_iconst (v := 0) hx hb dX8_readBlock_34 (by decide) ?_
    refine lv_istore (lv' := [(4, .int 0), (3, .null), (2, .null), (0, .ref px), (1, .int (nI (6 - 0)))]) hx hb dX8_readBlock_35 hl (by decide) rfl (fun ls hl => ?_)
    refine lv_iload hx hb dX8_readBlock_37 (lv_at hl 0 rfl) ?_
    refine lv_sipush (v := 400) hx hb dX8_readBlock_39 (by decide) ?_
    refine lv_icmp_ge (tgt := 90) hx hb dX8_readBlock_42 (by decide) (fun c_42 => absurd c_42 (by decide)) (fun c_42 => ?_)
    refine lv_aload_n hx hb dX8_readBlock_45 rfl (lv_at hl 3 rfl) ?_
    refine q_get hx hb hts hown hA hW iX8 pS_p rfl 0 (by decide) (hts (.fieldLink RX8 10 "HighRecipes$Parser" "tokens" "LHighRecipes$Tokens;") (by decide +kernel)) (fun _ h9 => h9) (v := .ref (px + 1)) rfl dX8_readBlock_46 ?_
    refine q_getN hx hb hts hown hA hW iX10 pS_t rfl 5 (by decide) (va_Nw.use rfl (hA.2.2.2.1 ("HighRecipes$Parser", 31, "HighRecipes$Tokens", "kind", "LHighRecipes$Kind;", "HighRecipes") (by decide +kernel))) (fun _ h9 => h9) (v := .ref (E.2.2.2 ((p_step K false u)).2.1)) rfl dX8_readBlock_49 ?_
    refine q_ci (va_runV (As := []) (rest := []) ⟨hx, hb, hml, hown, hts⟩ (kX5_beginsAct l E (pS E f px bk T pn rc (p_step K false u)) u.2.2.2.2.2 (((p_step K false u)).2.1) (show (40 : Nat) < 41 by decide)) (cwV 0 hts gX8_readBlock_X5_beginsAct rfl rfl rfl (by decide +kernel) ⟨(Nat.le_of_ble_eq_true rfl), (Nat.le_of_ble_eq_true rfl)⟩) (q_pK hA hW hS (show (40 : Nat) < 41 by decide)) rfl rfl hl.1 rfl (lv_room (Nat.le_of_ble_eq_true rfl)) dX8_readBlock_52 ⟨(by show 0 + 0 ≤ (p_blk K Wd pN pn rN rc 0 u).2.2.2.2.2 - u.2.2.2.2.2; omega), (by show 0 + 0 ≤ 9 * ((p_blk K Wd pN pn rN rc 0 u).2.2.2.2.2 - u.2.2.2.2.2); omega)⟩) hS (fun r_52 f_52 n_52 H locs hp hW hS => ?_)
    obtain ⟨rfl, rfl, rfl⟩ := hp
    have hW : q_W E (pS E f px bk T pn rc (p_step K false u)) u.2.2.2.2.2 H := hW
    refine lv_if_eq (tgt := 90) hx hb dX8_readBlock_55 (by decide) (fun c_55 => ?_) (fun c_55 => absurd (show b01 (b_act 40) = 0 by decide) c_55)
    refine lv_aload_n hx hb dX8_readBlock_90 rfl (lv_at hl 3 rfl) ?_
    refine q_get hx hb hts hown hA hW iX8 pS_p rfl 0 (by decide) (hts (.fieldLink RX8 10 "HighRecipes$Parser" "tokens" "LHighRecipes$Tokens;") (by decide +kernel)) (fun _ h9 => h9) (v := .ref (px + 1)) rfl dX8_readBlock_91 ?_
    refine va_gets (n := "CLOSE") (v := .ref (E.2.2.2 28)) hx hb (hA.2.2.1.1.1 28 (by decide)).1 hS hown (hts (.fieldLink RX8 140 "HighRecipes$Kind" "CLOSE" "LHighRecipes$Kind;") (by decide +kernel)) (fun _ h9 => h9) dX8_readBlock_94 ?_
    refine q_cv (va_runV (As := [.ref (E.2.2.2 28)]) (rest := []) ⟨hx, hb, hml, hown, hts⟩ (kX10_take l E (pS E f px bk T pn rc (p_step K false u)) u.2.2.2.2.2 (px + 1) T (p_step K false u) kk K 28 pS_t ((pS_out (by omega) (by omega) (by omega)).trans f2) (by assumption) (by assumption) (by assumption) (by assumption) oks (by first | assumption | decide)) (cwV 1 hts gX8_readBlock_X10_take rfl rfl rfl (by decide +kernel) ⟨(Nat.le_of_ble_eq_true rfl), (Nat.le_of_ble_eq_true rfl)⟩) (q_pV hA hW hS (ci := 10) rfl pS_t) rfl rfl hl.1 rfl (lv_room (Nat.le_of_ble_eq_true rfl)) dX8_readBlock_97 ⟨(by show 0 + 0 ≤ (p_blk K Wd pN pn rN rc 0 u).2.2.2.2.2 - u.2.2.2.2.2; omega), (by show 0 + 0 ≤ 9 * ((p_blk K Wd pN pn rN rc 0 u).2.2.2.2.2 - u.2.2.2.2.2); omega)⟩) hS (fun f_97 n_97 H locs hp hW hS => ?_)
    obtain ⟨rfl, rfl⟩ := hp
    have hW : q_W E (va_up (pS E f px bk T pn rc (p_step K false u)) (px + 1) (some (cTS E (px + 1) T (p_take K 28 (p_step K false u))))) u.2.2.2.2.2 H := hW
    have hW : q_W E (pS E f px bk T pn rc (p_take K 28 (p_step K false u))) u.2.2.2.2.2 H := by rw [← pS_st (s := p_step K false u) (s' := p_take K 28 (p_step K false u)) rfl rfl]; exact hW
    have hok_97 : p_ok K T (p_take K 28 (p_step K false u)) := oks.take hKT (by first | assumption | decide)
    have hW : q_W E (pS E f px bk T pn rc (p_take K 28 (p_step K false u))) u.2.2.2.2.2 H := hW
    refine lv_aload_nN hx hb dX8_readBlock_100 rfl (lv_at hl 2 rfl) ?_
    exact q_aret (v := none) hx hb hr (Or.inl ⟨_, rfl⟩) hlocks hW hS ⟨f, rfl, rfl, fun q hq _ _ _ => rfl, (fun a h9 => by cases h9), fun k1 k2 => absurd (blk_0 k1) (by decide)⟩ (by show 0 ≤ (p_blk K Wd pN pn rN rc 0 u).2.2.2.2.2 - u.2.2.2.2.2; omega) (by show 0 ≤ 9 * ((p_blk K Wd pN pn rN rc 0 u).2.2.2.2.2 - u.2.2.2.2.2); omega) dX8_readBlock_101

set_option maxHeartbeats 4000000 in
set_option maxRecDepth 100000 in
theorem kX8_readBlock (l : Launch) (E : q_E) (f : q_H) (n : Nat) (px bk T pn rc : Nat) (u : p_S) (kk : Nat → Option Nat) (wo pN rN : Nat → Int64) (K : Nat → Nat) (Wd : Nat → Int64) (RS : Nat → q_S) (d d0 : Nat) (f2 : f (px + 2) = some (aQ E 5 401 kk)) (f4 : f (px + 4) = some (aJ E 401 wo)) (g1 : f (bk + 1) = some (aJ E 8 pN)) (g3 : f (bk + 3) = some (aJ E 6 rN)) (hp : PAR E f px bk T pn rc u) (hbk : px + 5 ≤ bk) (hn : bk + 5 ≤ n) (hT : T ≤ 400) (hkk : ∀ j, j ≤ T → kk j = some (E.2.2.2 (K j))) (hKT : 39 ≤ K T) (hK41 : ∀ j, K j < 41) (hWd : ∀ j, j ≤ T → wo j = Wd j) (hpn : pn ≤ 8) (hrc : rc ≤ 6) (hok : p_ok K T u) (hsn : n = u.2.2.2.2.2) (hd1 : d = d0 + 1) (hd6 : d ≤ 6) (ihA : RAC l E RS d d0) : Met l yX8_readBlock wsX8_readBlock ({ frames := 10 * d + 45, cells := (p_blk K Wd pN pn rN rc d u).2.2.2.2.2 - u.2.2.2.2.2, slots := 9 * ((p_blk K Wd pN pn rN rc d u).2.2.2.2.2 - u.2.2.2.2.2), locals := 100 * d + 1050 }) (q_P E [.ref px, .int (nI (6 - d))] f n) (q_Qq E (BLKq E f px bk T pn rc K Wd pN rN RS d u)) ((p_blk K Wd pN pn rN rc d u).2.2.2.2.2 - u.2.2.2.2.2) (9 * ((p_blk K Wd pN pn rN rc d u).2.2.2.2.2 - u.2.2.2.2.2)) (q_ge E) := by
  refine Met.ofW (cc := cX8_readBlock) (maxL := 6) (ret := (some (.object "HighRecipes$Act"))) (by decide) rfl ?_
  intro p e s m args below meth c s₁ B hml hv
  obtain ⟨rfl, hA, hW⟩ := hv
  have hx := B.exec
  have hb := B.bytes
  have hr := B.returns
  have hts := atoms_spec (ws := wsX8_readBlock) B.pre
  have hown : s.vm.findClass RX8 = some m.cls := findClass_of_methodNamed B.named
  have hlocks := B.notSynchronized
  have hS : va_S (q_ge E) s.heap s.heap [] := va_S.rf
  have iX1 : ∀ w ∈ wsX10, w ∈ wsX8_readBlock := by decide +kernel
  have iX10 : ∀ w ∈ wsX100, w ∈ wsX8_readBlock := by decide +kernel
  have iX8 : ∀ w ∈ wsX80, w ∈ wsX8_readBlock := by decide +kernel
  have hl := lv_entry ([.ref px, .int (nI (6 - d))]) (n := 6) (Nat.le_of_ble_eq_true rfl)
  rw [lg_entry_eq]
  generalize (lg_sl ([.ref px, .int (nI (6 - d))]) ++ List.replicate (6 - (lg_sl ([.ref px, .int (nI (6 - d))])).length) Slot.unset).toArray = ls at hl ⊢
  have hl : lv_has ls 6 [(0, .ref px), (1, .int (nI (6 - d)))] := hl
  subst hsn
  rw [hp.eq] at hW
  have hk41 : u.2.1 < 41 := by rcases hok.2.1 with h9 | h9 <;> rw [h9]; decide; exact hK41 _
  have eTn : (p_take K 27 u).2.2.2.2.2 = u.2.2.2.2.2 := rfl
  have okT : p_ok K T (p_take K 27 u) := hok.take hKT (by decide)
  have eB0 : p_blk K Wd pN pn rN rc d u = p_take K 28 (p_acts (p_act K Wd pN pn rN rc (p_blk K Wd pN pn rN rc d0)) 400 (p_take K 27 u)) := by rw [hd1]; rfl
  have eS0 : p_blkS K Wd pN pn rN rc RS d u = p_actsS (p_act K Wd pN pn rN rc (p_blk K Wd pN pn rN rc d0)) (p_actS K Wd pN pn rN rc RS (p_blk K Wd pN pn rN rc d0) (p_blkS K Wd pN pn rN rc RS d0)) 400 (p_take K 27 u) := by rw [hd1]; rfl
  have K9 : ∀ (m9 i9 : Nat) (s9 : p_S) (g9 : q_H) (a1 a kd : Nat) (x1 x2 x3 : Int32) (x4 x5 x6 x7 : Option Nat), i9 + m9 = 400 → p_ok K T s9 → u.2.2.2.2.2 ≤ a → a < s9.2.2.2.2.2 → (∀ q, q < u.2.2.2.2.2 → q ≠ px → q ≠ px + 1 → q ≠ bk → g9 q = f q) → g9 a = some (cAct E kd x1 x2 x3 x4 x5 x6 x7 none) → p_acts (p_act K Wd pN pn rN rc (p_blk K Wd pN pn rN rc d0)) 400 (p_take K 27 u) = p_acts (p_act K Wd pN pn rN rc (p_blk K Wd pN pn rN rc d0)) m9 s9 → (∀ (G : q_H) (o : Option Nat), (∀ q, q < s9.2.2.2.2.2 → q ≠ a → q ≠ px → q ≠ px + 1 → q ≠ bk → G q = g9 q) → G a = some (cAct E kd x1 x2 x3 x4 x5 x6 x7 o) → ((p_blk K Wd pN pn rN rc d u).2.1 ≠ 40 → (p_blk K Wd pN pn rN rc d u).2.2.1 = 0 → ∃ m, rL E s9.2.2.2.2.2 (p_blk K Wd pN pn rN rc d u).2.2.2.2.2 G (rA E pn s9.2.2.2.2.2 (p_blk K Wd pN pn rN rc d u).2.2.2.2.2 G RS rc d) m o (p_actsS (p_act K Wd pN pn rN rc (p_blk K Wd pN pn rN rc d0)) (p_actS K Wd pN pn rN rc RS (p_blk K Wd pN pn rN rc d0) (p_blkS K Wd pN pn rN rc RS d0)) m9 s9)) → (∀ q, q < u.2.2.2.2.2 → q ≠ px → q ≠ px + 1 → q ≠ bk → G q = f q) ∧ (∀ a, some a1 = some a → u.2.2.2.2.2 ≤ a ∧ ∃ (kd : Nat) (x1 x2 x3 : Int32) (x4 x5 x6 x7 x8 : Option Nat), G a = some (cAct E kd x1 x2 x3 x4 x5 x6 x7 x8)) ∧ ((p_blk K Wd pN pn rN rc d u).2.1 ≠ 40 → (p_blk K Wd pN pn rN rc d u).2.2.1 = 0 → ∃ m, rL E u.2.2.2.2.2 (p_blk K Wd pN pn rN rc d u).2.2.2.2.2 G (rA E pn u.2.2.2.2.2 (p_blk K Wd pN pn rN rc d u).2.2.2.2.2 G RS rc d) m (some a1) (p_blkS K Wd pN pn rN rc RS d u))) → ∀ (H : Heap) (locs : List Loc) (ls : Array Slot), q_W E (pS E g9 px bk T pn rc s9) s9.2.2.2.2.2 H → va_S (q_ge E) s.heap H locs → lv_has ls 6 [(0, .ref px), (1, .int (nI (6 - d))), (2, .ref a1), (3, .ref a), (4, .int (nI i9))] → W p l e (headSpec wsX8_readBlock ({ frames := 10 * d + 45, cells := (p_blk K Wd pN pn rN rc d u).2.2.2.2.2 - u.2.2.2.2.2, slots := 9 * ((p_blk K Wd pN pn rN rc d u).2.2.2.2.2 - u.2.2.2.2.2), locals := 100 * d + 1050 })).room s m ([.ref px, .int (nI (6 - d))] : List Value).toArray below meth c H locs (s9.2.2.2.2.2 - u.2.2.2.2.2) (9 * (s9.2.2.2.2.2 - u.2.2.2.2.2)) (MQ below (q_Qq E (BLKq E f px bk T pn rc K Wd pN rN RS d u)) ([.ref px, .int (nI (6 - d))] : List Value).toArray s ((p_blk K Wd pN pn rN rc d u).2.2.2.2.2 - u.2.2.2.2.2) (9 * ((p_blk K Wd pN pn rN rc d u).2.2.2.2.2 - u.2.2.2.2.2)) (q_ge E)) (F0 m 37 ls []) := by
    intro m9
    induction m9 with
    | zero =>
      intro i9 s9 g9 a1 a kd x1 x2 x3 x4 x5 x6 x7 hi9 ok9 hua has hfr9 hca hacts hcont H locs ls hW hS hl
      have hM0 : s9.2.2.2.2.2 = (p_blk K Wd pN pn rN rc d u).2.2.2.2.2 := by rw [eB0, hacts]; rfl
      refine lv_iload hx hb dX8_readBlock_37 (lv_at hl 4 rfl) ?_
      refine lv_sipush (v := 400) hx hb dX8_readBlock_39 (by decide) ?_
      refine lv_icmp_ge (tgt := 90) hx hb dX8_readBlock_42 (by decide) (fun c_42 => ?_) (fun c_42 => False.elim ((fun h9 => h9 (by rw [show i9 = 400 by omega]; decide)) c_42))
      refine lv_aload_n hx hb dX8_readBlock_90 rfl (lv_at hl 0 rfl) ?_
      refine q_get hx hb hts hown hA hW iX8 pS_p rfl 0 (by decide) (hts (.fieldLink RX8 10 "HighRecipes$Parser" "tokens" "LHighRecipes$Tokens;") (by decide +kernel)) (fun _ h9 => h9) (v := .ref (px + 1)) rfl dX8_readBlock_91 ?_
      refine va_gets (n := "CLOSE") (v := .ref (E.2.2.2 28)) hx hb (hA.2.2.1.1.1 28 (by decide)).1 hS hown (hts (.fieldLink RX8 140 "HighRecipes$Kind" "CLOSE" "LHighRecipes$Kind;") (by decide +kernel)) (fun _ h9 => h9) dX8_readBlock_94 ?_
      refine q_cv (va_runV (As := [.ref (E.2.2.2 28)]) (rest := []) ⟨hx, hb, hml, hown, hts⟩ (kX10_take l E (pS E g9 px bk T pn rc s9) s9.2.2.2.2.2 (px + 1) T s9 kk K 28 pS_t ((pS_out (by omega) (by omega) (by omega)).trans ((hfr9 _ (by omega) (by omega) (by omega) (by omega)).trans f2)) (by assumption) (by assumption) (by assumption) (by assumption) ok9 (by first | assumption | decide)) (cwV 1 hts gX8_readBlock_X10_take rfl rfl rfl (by decide +kernel) ⟨(by show 1 + 1 ≤ 10 * d + 45; omega), (by show 8 + (2 + 11) + 22 ≤ 100 * d + 1050; omega)⟩) (q_pV hA hW hS (ci := 10) rfl pS_t) rfl rfl hl.1 rfl (lv_room (Nat.le_of_ble_eq_true rfl)) dX8_readBlock_97 ⟨(by show s9.2.2.2.2.2 - u.2.2.2.2.2 + 0 ≤ (p_blk K Wd pN pn rN rc d u).2.2.2.2.2 - u.2.2.2.2.2; omega), (by show 9 * (s9.2.2.2.2.2 - u.2.2.2.2.2) + 0 ≤ 9 * ((p_blk K Wd pN pn rN rc d u).2.2.2.2.2 - u.2.2.2.2.2); omega)⟩) hS (fun f_97 n_97 H locs hp hW hS => ?_)
      obtain ⟨rfl, rfl⟩ := hp
      have hW : q_W E (va_up (pS E g9 px bk T pn rc s9) (px + 1) (some (cTS E (px + 1) T (p_take K 28 s9)))) s9.2.2.2.2.2 H := hW
      have hW : q_W E (pS E g9 px bk T pn rc (p_take K 28 s9)) s9.2.2.2.2.2 H := by rw [← pS_st (s := s9) (s' := p_take K 28 s9) rfl rfl]; exact hW
      have hok_97 : p_ok K T (p_take K 28 s9) := ok9.take hKT (by first | assumption | decide)
      have hW : q_W E (pS E g9 px bk T pn rc (p_take K 28 s9)) s9.2.2.2.2.2 H := hW
      refine lv_aload_n hx hb dX8_readBlock_100 rfl (lv_at hl 2 rfl) ?_
      have e9 : p_acts (p_act K Wd pN pn rN rc (p_blk K Wd pN pn rN rc d0)) 0 s9 = s9 := rfl
      have e9S : p_actsS (p_act K Wd pN pn rN rc (p_blk K Wd pN pn rN rc d0)) (p_actS K Wd pN pn rN rc RS (p_blk K Wd pN pn rN rc d0) (p_blkS K Wd pN pn rN rc RS d0)) 0 s9 = k_nil := rfl
      have eX : p_blk K Wd pN pn rN rc d u = p_take K 28 s9 := by rw [eB0, hacts, e9]
      have fz := hcont g9 none (fun _ _ _ _ _ _ => rfl) hca (fun _ _ => ⟨0, rfl, e9S⟩)
      exact q_aret (v := some a1) hx hb hr (Or.inl ⟨_, rfl⟩) hlocks hW hS ⟨g9, by rw [eX], by rw [eX]; rfl, fz.1, fz.2.1, fz.2.2⟩ (by show s9.2.2.2.2.2 - u.2.2.2.2.2 ≤ (p_blk K Wd pN pn rN rc d u).2.2.2.2.2 - u.2.2.2.2.2; omega) (by show 9 * (s9.2.2.2.2.2 - u.2.2.2.2.2) ≤ 9 * ((p_blk K Wd pN pn rN rc d u).2.2.2.2.2 - u.2.2.2.2.2); omega) dX8_readBlock_101
    | succ m9 ih =>
      intro i9 s9 g9 a1 a kd x1 x2 x3 x4 x5 x6 x7 hi9 ok9 hua has hfr9 hca hacts hcont H locs ls hW hS hl
      have hk9 : s9.2.1 < 41 := by rcases ok9.2.1 with h9 | h9 <;> rw [h9]; decide; exact hK41 _
      have hM0 : s9.2.2.2.2.2 ≤ (p_blk K Wd pN pn rN rc d u).2.2.2.2.2 := by rw [eB0, hacts]; exact ((go_acts (A := (p_act K Wd pN pn rN rc (p_blk K Wd pN pn rN rc d0))) (fun s h => go_act (Wd := Wd) (pN := pN) (pn := pn) (rN := rN) (rc := rc) hKT (go_blk hKT d0) h) (m9 + 1) s9).trans (go_take (w := 28) hKT (by decide)) ok9).2.2.1
      refine lv_iload hx hb dX8_readBlock_37 (lv_at hl 4 rfl) ?_
      refine lv_sipush (v := 400) hx hb dX8_readBlock_39 (by decide) ?_
      refine lv_icmp_ge (tgt := 90) hx hb dX8_readBlock_42 (by decide) (fun c_42 => False.elim ((fun h9 => absurd (show nI 400 ≤ nI i9 from h9) (nI_ge (by omega) (by decide))) c_42)) (fun c_42 => ?_)
      refine lv_aload_n hx hb dX8_readBlock_45 rfl (lv_at hl 0 rfl) ?_
      refine q_get hx hb hts hown hA hW iX8 pS_p rfl 0 (by decide) (hts (.fieldLink RX8 10 "HighRecipes$Parser" "tokens" "LHighRecipes$Tokens;") (by decide +kernel)) (fun _ h9 => h9) (v := .ref (px + 1)) rfl dX8_readBlock_46 ?_
      refine q_getN hx hb hts hown hA hW iX10 pS_t rfl 5 (by decide) (va_Nw.use rfl (hA.2.2.2.1 ("HighRecipes$Parser", 31, "HighRecipes$Tokens", "kind", "LHighRecipes$Kind;", "HighRecipes") (by decide +kernel))) (fun _ h9 => h9) (v := .ref (E.2.2.2 (s9).2.1)) rfl dX8_readBlock_49 ?_
      refine q_ci (va_runV (As := []) (rest := []) ⟨hx, hb, hml, hown, hts⟩ (kX5_beginsAct l E (pS E g9 px bk T pn rc s9) s9.2.2.2.2.2 ((s9).2.1) hk9) (cwV 0 hts gX8_readBlock_X5_beginsAct rfl rfl rfl (by decide +kernel) ⟨(by show 0 + 1 ≤ 10 * d + 45; omega), (by show 8 + (1 + 11) + 0 ≤ 100 * d + 1050; omega)⟩) (q_pK hA hW hS hk9) rfl rfl hl.1 rfl (lv_room (Nat.le_of_ble_eq_true rfl)) dX8_readBlock_52 ⟨(by show s9.2.2.2.2.2 - u.2.2.2.2.2 + 0 ≤ (p_blk K Wd pN pn rN rc d u).2.2.2.2.2 - u.2.2.2.2.2; omega), (by show 9 * (s9.2.2.2.2.2 - u.2.2.2.2.2) + 0 ≤ 9 * ((p_blk K Wd pN pn rN rc d u).2.2.2.2.2 - u.2.2.2.2.2); omega)⟩) hS (fun r_52 f_52 n_52 H locs hp hW hS => ?_)
      obtain ⟨rfl, rfl, rfl⟩ := hp
      have hW : q_W E (pS E g9 px bk T pn rc s9) s9.2.2.2.2.2 H := hW
      refine lv_if_eq (tgt := 90) hx hb dX8_readBlock_55 (by decide) (fun c_55 => ?_) (fun c_55 => ?_)
      · have hb9 : ¬ b_act s9.2.1 = true := by rw [b01_0 c_55]; decide
        refine lv_aload_n hx hb dX8_readBlock_90 rfl (lv_at hl 0 rfl) ?_
        refine q_get hx hb hts hown hA hW iX8 pS_p rfl 0 (by decide) (hts (.fieldLink RX8 10 "HighRecipes$Parser" "tokens" "LHighRecipes$Tokens;") (by decide +kernel)) (fun _ h9 => h9) (v := .ref (px + 1)) rfl dX8_readBlock_91 ?_
        refine va_gets (n := "CLOSE") (v := .ref (E.2.2.2 28)) hx hb (hA.2.2.1.1.1 28 (by decide)).1 hS hown (hts (.fieldLink RX8 140 "HighRecipes$Kind" "CLOSE" "LHighRecipes$Kind;") (by decide +kernel)) (fun _ h9 => h9) dX8_readBlock_94 ?_
        refine q_cv (va_runV (As := [.ref (E.2.2.2 28)]) (rest := []) ⟨hx, hb, hml, hown, hts⟩ (kX10_take l E (pS E g9 px bk T pn rc s9) s9.2.2.2.2.2 (px + 1) T s9 kk K 28 pS_t ((pS_out (by omega) (by omega) (by omega)).trans ((hfr9 _ (by omega) (by omega) (by omega) (by omega)).trans f2)) (by assumption) (by assumption) (by assumption) (by assumption) ok9 (by first | assumption | decide)) (cwV 1 hts gX8_readBlock_X10_take rfl rfl rfl (by decide +kernel) ⟨(by show 1 + 1 ≤ 10 * d + 45; omega), (by show 8 + (2 + 11) + 22 ≤ 100 * d + 1050; omega)⟩) (q_pV hA hW hS (ci := 10) rfl pS_t) rfl rfl hl.1 rfl (lv_room (Nat.le_of_ble_eq_true rfl)) dX8_readBlock_97 ⟨(by show s9.2.2.2.2.2 - u.2.2.2.2.2 + 0 ≤ (p_blk K Wd pN pn rN rc d u).2.2.2.2.2 - u.2.2.2.2.2; omega), (by show 9 * (s9.2.2.2.2.2 - u.2.2.2.2.2) + 0 ≤ 9 * ((p_blk K Wd pN pn rN rc d u).2.2.2.2.2 - u.2.2.2.2.2); omega)⟩) hS (fun f_97 n_97 H locs hp hW hS => ?_)
        obtain ⟨rfl, rfl⟩ := hp
        have hW : q_W E (va_up (pS E g9 px bk T pn rc s9) (px + 1) (some (cTS E (px + 1) T (p_take K 28 s9)))) s9.2.2.2.2.2 H := hW
        have hW : q_W E (pS E g9 px bk T pn rc (p_take K 28 s9)) s9.2.2.2.2.2 H := by rw [← pS_st (s := s9) (s' := p_take K 28 s9) rfl rfl]; exact hW
        have hok_97 : p_ok K T (p_take K 28 s9) := ok9.take hKT (by first | assumption | decide)
        have hW : q_W E (pS E g9 px bk T pn rc (p_take K 28 s9)) s9.2.2.2.2.2 H := hW
        refine lv_aload_n hx hb dX8_readBlock_100 rfl (lv_at hl 2 rfl) ?_
        have e9 : p_acts (p_act K Wd pN pn rN rc (p_blk K Wd pN pn rN rc d0)) (m9 + 1) s9 = s9 := by show (if b_act _ = true then _ else _) = _; rw [if_neg hb9]
        have e9S : p_actsS (p_act K Wd pN pn rN rc (p_blk K Wd pN pn rN rc d0)) (p_actS K Wd pN pn rN rc RS (p_blk K Wd pN pn rN rc d0) (p_blkS K Wd pN pn rN rc RS d0)) (m9 + 1) s9 = k_nil := by show (if b_act _ = true then _ else _) = _; rw [if_neg hb9]
        have eX : p_blk K Wd pN pn rN rc d u = p_take K 28 s9 := by rw [eB0, hacts, e9]
        have fz := hcont g9 none (fun _ _ _ _ _ _ => rfl) hca (fun _ _ => ⟨0, rfl, e9S⟩)
        exact q_aret (v := some a1) hx hb hr (Or.inl ⟨_, rfl⟩) hlocks hW hS ⟨g9, by rw [eX], by rw [eX]; rfl, fz.1, fz.2.1, fz.2.2⟩ (by show s9.2.2.2.2.2 - u.2.2.2.2.2 ≤ (p_blk K Wd pN pn rN rc d u).2.2.2.2.2 - u.2.2.2.2.2; omega) (by show 9 * (s9.2.2.2.2.2 - u.2.2.2.2.2) ≤ 9 * ((p_blk K Wd pN pn rN rc d u).2.2.2.2.2 - u.2.2.2.2.2); omega) dX8_readBlock_101
      · have hb9 : b_act s9.2.1 = true := b01_1 c_55
        obtain ⟨s1, hu_s1⟩ : ∃ z, (p_act K Wd pN pn rN rc (p_blk K Wd pN pn rN rc d0)) s9 = z := ⟨_, rfl⟩
        have b_s1 := go_act (Wd := Wd) (pN := pN) (pn := pn) (rN := rN) (rc := rc) hKT (go_blk (Wd := Wd) (pN := pN) (pn := pn) (rN := rN) (rc := rc) hKT d0) hb9 ok9
        rw [hu_s1] at b_s1
        have ok_s1 := b_s1.1
        have sn1 : s9.2.2.2.2.2 + 1 ≤ s1.2.2.2.2.2 := by rw [← hu_s1]; exact act_n hKT hb9 ok9
        have eA1 : p_acts (p_act K Wd pN pn rN rc (p_blk K Wd pN pn rN rc d0)) 400 (p_take K 27 u) = p_acts (p_act K Wd pN pn rN rc (p_blk K Wd pN pn rN rc d0)) m9 s1 := by rw [hacts]; show (if b_act s9.2.1 = true then p_acts (p_act K Wd pN pn rN rc (p_blk K Wd pN pn rN rc d0)) m9 ((p_act K Wd pN pn rN rc (p_blk K Wd pN pn rN rc d0)) s9) else s9) = _; rw [if_pos hb9, hu_s1]
        have eB1 : p_blk K Wd pN pn rN rc d u = p_take K 28 (p_acts (p_act K Wd pN pn rN rc (p_blk K Wd pN pn rN rc d0)) m9 s1) := by rw [eB0, eA1]
        have goM := ((go_acts (A := (p_act K Wd pN pn rN rc (p_blk K Wd pN pn rN rc d0))) (fun s h => go_act (Wd := Wd) (pN := pN) (pn := pn) (rN := rN) (rc := rc) hKT (go_blk hKT d0) h) m9 s1).trans (go_take (w := 28) hKT (by decide)) ok_s1).2
        rw [← eB1] at goM
        have hM : s1.2.2.2.2.2 ≤ (p_blk K Wd pN pn rN rc d u).2.2.2.2.2 := goM.2.1
        refine lv_aload_n hx hb dX8_readBlock_58 rfl (lv_at hl 0 rfl) ?_
        refine lv_iload_n hx hb dX8_readBlock_59 rfl (lv_at hl 1 rfl) ?_
        refine q_cq (va_runV (As := [.int (nI (6 - d))]) (rest := []) ⟨hx, hb, hml, hown, hts⟩ (ihA (pS E g9 px bk T pn rc s9) px bk T pn rc s9 kk wo pN rN K Wd  ((pS_out (by omega) (by omega) (by omega)).trans ((hfr9 _ (by omega) (by omega) (by omega) (by omega)).trans f2)) ((pS_out (by omega) (by omega) (by omega)).trans ((hfr9 _ (by omega) (by omega) (by omega) (by omega)).trans f4)) ((pS_out (by omega) (by omega) (by omega)).trans ((hfr9 _ (by omega) (by omega) (by omega) (by omega)).trans g1)) ((pS_out (by omega) (by omega) (by omega)).trans ((hfr9 _ (by omega) (by omega) (by omega) (by omega)).trans g3)) (pS_K hbk) hbk (by show bk + 5 ≤ s9.2.2.2.2.2; omega) hT hkk hKT hK41 hWd hpn hrc ok9 hb9) (cwV 1 hts gX8_readBlock_X8_readAct rfl rfl rfl (by decide +kernel) ⟨(by show (10 * d + 40) + 1 ≤ 10 * d + 45; omega), (by show 8 + (3 + 11) + (100 * d + 1000) ≤ 100 * d + 1050; omega)⟩) (q_pV hA hW hS (ci := 8) rfl pS_p) rfl rfl hl.1 rfl (lv_room (Nat.le_of_ble_eq_true rfl)) dX8_readBlock_60 ⟨(by rw [hu_s1]; show s9.2.2.2.2.2 - u.2.2.2.2.2 + (s1.2.2.2.2.2 - (s9.2.2.2.2.2)) ≤ (p_blk K Wd pN pn rN rc d u).2.2.2.2.2 - u.2.2.2.2.2; omega), (by rw [hu_s1]; show 9 * (s9.2.2.2.2.2 - u.2.2.2.2.2) + (9 * (s1.2.2.2.2.2 - (s9.2.2.2.2.2))) ≤ 9 * ((p_blk K Wd pN pn rN rc d u).2.2.2.2.2 - u.2.2.2.2.2); omega)⟩) hS (fun r_60 f_60 n_60 H locs hp hW hS => ?_)
        obtain ⟨g_60, pan, rcp, pm, val, lc, blk, oth, rfl, rfl, rfl, fr_60, obj_60, rep_60⟩ := hp
        rw [hu_s1] at hW rep_60
        rw [hu_s1]
        have fr_60 : ∀ q, q < s9.2.2.2.2.2 → q ≠ px → q ≠ px + 1 → q ≠ bk → g_60 q = (pS E g9 px bk T pn rc s9) q := fr_60
        have fi_60 : ∀ q, q < u.2.2.2.2.2 → q ≠ px → q ≠ px + 1 → q ≠ bk → g_60 q = f q := fun q hq h7 h8 h9 => (fr_60 q (by omega) h7 h8 h9).trans ((pS_out h7 h8 h9).trans ((hfr9 q hq h7 h8 h9)))
        have hW : q_W E (pS E g_60 px bk T pn rc s1) (s1.2.2.2.2.2) H := hW
        refine lv_astore (lv' := [(5, .ref s9.2.2.2.2.2), (0, .ref px), (1, .int (nI (6 - d))), (2, .ref a1), (3, .ref a), (4, .int (nI i9))]) hx hb dX8_readBlock_63 hl (by decide) rfl (fun ls hl => ?_)
        refine lv_aload_n hx hb dX8_readBlock_65 rfl (lv_at hl 4 rfl) ?_
        refine lv_ifnonnull (tgt := 75) hx hb dX8_readBlock_66 (by decide) ?_
        refine lv_aload_n hx hb dX8_readBlock_75 rfl (lv_at hl 4 rfl) ?_
        refine lv_aload hx hb dX8_readBlock_76 (lv_at hl 0 rfl) ?_
        refine q_putN hx hb hts hown hA hW hS iX1 tyX1 tyX1_ok nmX1 ((pS_out (by omega) (by omega) (by omega)).trans ((fr_60 _ (by omega) (by omega) (by omega) (by omega)).trans ((pS_out (by omega) (by omega) (by omega)).trans hca))) rfl 8 (by decide) (va_Nw.use rfl (hA.2.2.2.1 ("HighRecipes$Parser", 134, "HighRecipes$Act", "next", "LHighRecipes$Act;", "HighRecipes") (by decide +kernel))) (fun _ h9 => h9) rfl rfl rfl (Nat.le_of_ble_eq_true rfl) dX8_readBlock_78 (fun H locs hW hS => ?_)
        have hW : q_W E (va_up (pS E g_60 px bk T pn rc s1) a (some (rX1 (some (E.2.2.2 kd)) x1 x2 x3 x4 x5 x6 x7 (some s9.2.2.2.2.2)))) s1.2.2.2.2.2 H := hW
        rw [pS_iu (by omega) (by omega) (by omega)] at hW
        refine lv_aload hx hb dX8_readBlock_81 (lv_at hl 0 rfl) ?_
        refine lv_astore_n (lv' := [(3, .ref s9.2.2.2.2.2), (5, .ref s9.2.2.2.2.2), (0, .ref px), (1, .int (nI (6 - d))), (2, .ref a1), (4, .int (nI i9))]) hx hb dX8_readBlock_83 rfl hl (by decide) rfl (fun ls hl => ?_)
        refine lv_iinc (v := nI (i9 + 1)) (lv' := [(4, .int (nI (i9 + 1))), (3, .ref s9.2.2.2.2.2), (5, .ref s9.2.2.2.2.2), (0, .ref px), (1, .int (nI (6 - d))), (2, .ref a1)]) hx hb dX8_readBlock_84 hl (k := 5) rfl (nI_1 i9) (by decide) rfl (fun ls hl => ?_)
        refine lv_goto (tgt := 37) hx hb dX8_readBlock_87 (by decide) ?_
        refine W.widen (k := s1.2.2.2.2.2 - u.2.2.2.2.2) (n := 9 * (s1.2.2.2.2.2 - u.2.2.2.2.2)) (by omega) (by omega) ?_
        exact ih (i9 + 1) s1 (va_up g_60 a (some (rX1 (some (E.2.2.2 kd)) x1 x2 x3 x4 x5 x6 x7 (some s9.2.2.2.2.2)))) a1 s9.2.2.2.2.2 _ pan rcp pm val lc blk oth (by omega) ok_s1 (by omega) (by omega) (fun q hq h7 h8 h9 => ((va_up_ne _ _ (by omega)).trans (fi_60 q hq h7 h8 h9))) ((va_up_ne _ _ (by omega)).trans obj_60) eA1 (fun G o hG ha hr0 => hcont G (some s9.2.2.2.2.2) (fun q h1 h2 h7 h8 h9 => (hG q (by omega) (by omega) h7 h8 h9).trans ((va_up_ne _ _ h2).trans ((fr_60 q (by omega) h7 h8 h9).trans (pS_out h7 h8 h9)))) ((hG a (by omega) (by omega) (by omega) (by omega) (by omega)).trans q_eq) (fun k1 k2 => by
          obtain ⟨m, hr⟩ := hr0 k1 k2
          refine ⟨m + 1, ?_⟩
          rw [show p_actsS (p_act K Wd pN pn rN rc (p_blk K Wd pN pn rN rc d0)) (p_actS K Wd pN pn rN rc RS (p_blk K Wd pN pn rN rc d0) (p_blkS K Wd pN pn rN rc RS d0)) (m9 + 1) s9 = k_cons ((p_actS K Wd pN pn rN rc RS (p_blk K Wd pN pn rN rc d0) (p_blkS K Wd pN pn rN rc RS d0)) s9) (p_actsS (p_act K Wd pN pn rN rc (p_blk K Wd pN pn rN rc d0)) (p_actS K Wd pN pn rN rc RS (p_blk K Wd pN pn rN rc d0) (p_blkS K Wd pN pn rN rc RS d0)) m9 s1) from by show (if b_act s9.2.1 = true then k_cons ((p_actS K Wd pN pn rN rc RS (p_blk K Wd pN pn rN rc d0) (p_blkS K Wd pN pn rN rc RS d0)) s9) (p_actsS (p_act K Wd pN pn rN rc (p_blk K Wd pN pn rN rc d0)) (p_actS K Wd pN pn rN rc RS (p_blk K Wd pN pn rN rc d0) (p_blkS K Wd pN pn rN rc RS d0)) m9 ((p_act K Wd pN pn rN rc (p_blk K Wd pN pn rN rc d0)) s9)) else k_nil) = _; rw [if_pos hb9, hu_s1]]
          have R1 := rep_60 (goM.2.2.1 k1) (goM.2.2.2 k2)
          refine rL_cons (n1 := s1.2.2.2.2.2) (g := va_up g_60 a (some (rX1 (some (E.2.2.2 kd)) x1 x2 x3 x4 x5 x6 x7 (some s9.2.2.2.2.2)))) (by omega) hM ?_ (fun q h1 h2 => hG q h2 (by omega) (by omega) (by omega) (by omega)) ha hr
          intro o9
          have R2 := R1 o9
          have eg : va_up (va_up g_60 a (some (rX1 (some (E.2.2.2 kd)) x1 x2 x3 x4 x5 x6 x7 (some s9.2.2.2.2.2)))) s9.2.2.2.2.2 (some (cAct E s9.2.1 pan rcp pm val lc blk oth o9)) = va_up (va_up g_60 s9.2.2.2.2.2 (some (cAct E s9.2.1 pan rcp pm val lc blk oth o9))) a (some (cAct E kd x1 x2 x3 x4 x5 x6 x7 (some s9.2.2.2.2.2))) := by
            funext q
            by_cases e1 : q = a <;> by_cases e2 : q = s9.2.2.2.2.2
            · omega
            · simp [va_up, va_rf, e1, show ¬ a = s9.2.2.2.2.2 by omega]
            · simp [va_up, va_rf, e2, show ¬ s9.2.2.2.2.2 = a by omega]
            · simp [va_up, va_rf, e1, e2]
          rw [eg]
          exact rA_frame (fun q h1 h2 => va_up_ne _ _ (by omega)) (Nat.le_refl _) (Nat.le_refl _) (Nat.le_refl _) (fun _ _ => rfl) d _ _ R2)) _ _ _ hW hS (lv_sub hl [3, 4, 5, 1, 0] rfl)
  have hkT : (p_take K 27 u).2.1 < 41 := by rcases okT.2.1 with h9 | h9 <;> rw [h9]; decide; exact hK41 _
  have hk9 := hkT
  have hM0 : u.2.2.2.2.2 ≤ (p_blk K Wd pN pn rN rc d u).2.2.2.2.2 := by rw [eB0]; exact ((go_acts (A := (p_act K Wd pN pn rN rc (p_blk K Wd pN pn rN rc d0))) (fun s h => go_act (Wd := Wd) (pN := pN) (pn := pn) (rN := rN) (rc := rc) hKT (go_blk hKT d0) h) 400 (p_take K 27 u)).trans (go_take (w := 28) hKT (by decide)) okT).2.2.1
  refine lv_aload_n hx hb dX8_readBlock_0 rfl (lv_at hl 0 rfl) ?_
  refine q_get hx hb hts hown hA hW iX8 pS_p rfl 0 (by decide) (hts (.fieldLink RX8 10 "HighRecipes$Parser" "tokens" "LHighRecipes$Tokens;") (by decide +kernel)) (fun _ h9 => h9) (v := .ref (px + 1)) rfl dX8_readBlock_1 ?_
  refine lv_aload_n hx hb dX8_readBlock_4 rfl (lv_at hl 0 rfl) ?_
  refine q_get hx hb hts hown hA hW iX8 pS_p rfl 0 (by decide) (hts (.fieldLink RX8 10 "HighRecipes$Parser" "tokens" "LHighRecipes$Tokens;") (by decide +kernel)) (fun _ h9 => h9) (v := .ref (px + 1)) rfl dX8_readBlock_5 ?_
  refine q_getN hx hb hts hown hA hW iX10 pS_t rfl 5 (by decide) (va_Nw.use rfl (hA.2.2.2.1 ("HighRecipes$Parser", 31, "HighRecipes$Tokens", "kind", "LHighRecipes$Kind;", "HighRecipes") (by decide +kernel))) (fun _ h9 => h9) (v := .ref (E.2.2.2 (u).2.1)) rfl dX8_readBlock_8 ?_
  refine va_gets (n := "OPEN") (v := .ref (E.2.2.2 27)) hx hb (hA.2.2.1.1.1 27 (by decide)).1 hS hown (hts (.fieldLink RX8 124 "HighRecipes$Kind" "OPEN" "LHighRecipes$Kind;") (by decide +kernel)) (fun _ h9 => h9) dX8_readBlock_11 ?_
  refine lv_acmp_ne (rx := (some (E.2.2.2 (u).2.1))) (ry := (some (E.2.2.2 27))) (tgt := 26) hx hb dX8_readBlock_14 (by decide) (fun c_14 => ?_) (fun c_14 => ?_)
  · have e14 : ¬ u.2.1 = 27 := fun h9 => c_14 (by rw [h9])
    refine lv_iconst (v := 0) hx hb dX8_readBlock_26 (by decide) ?_
    refine q_cv (va_runV (As := [.int 0]) (rest := []) ⟨hx, hb, hml, hown, hts⟩ (kX10_step l E (pS E f px bk T pn rc u) u.2.2.2.2.2 (px + 1) T u kk K false pS_t ((pS_out (by omega) (by omega) (by omega)).trans f2) (by assumption) (by assumption) (fun h9 => by cases h9)) (cwV 1 hts gX8_readBlock_X10_step rfl rfl rfl (by decide +kernel) ⟨(by show 0 + 1 ≤ 10 * d + 45; omega), (by show 8 + (3 + 11) + 0 ≤ 100 * d + 1050; omega)⟩) (q_pV hA hW hS (ci := 10) rfl pS_t) rfl rfl hl.1 rfl (lv_room (Nat.le_of_ble_eq_true rfl)) dX8_readBlock_27 ⟨(by show 0 + 0 ≤ (p_blk K Wd pN pn rN rc d u).2.2.2.2.2 - u.2.2.2.2.2; omega), (by show 0 + 0 ≤ 9 * ((p_blk K Wd pN pn rN rc d u).2.2.2.2.2 - u.2.2.2.2.2); omega)⟩) hS (fun f_27 n_27 H locs hp hW hS => ?_)
    obtain ⟨rfl, rfl⟩ := hp
    have hW : q_W E (va_up (pS E f px bk T pn rc u) (px + 1) (some (cTS E (px + 1) T (p_step K false u)))) u.2.2.2.2.2 H := hW
    have hW : q_W E (pS E f px bk T pn rc (p_step K false u)) u.2.2.2.2.2 H := by rw [← pS_st (s := u) (s' := p_step K false u) rfl rfl]; exact hW
    have hW : q_W E (pS E f px bk T pn rc (p_step K false u)) u.2.2.2.2.2 H := hW
    have eT : p_take K 27 u = p_step K (decide (u.2.1 = 27)) u := rfl
    first | rw [decide_eq_true e14] at eT | rw [decide_eq_false e14] at eT
    rw [← eT] at hW
    refine lv_null hx hb dX8_readBlock_30 ?_
    refine lv_astore_nN (lv' := [(2, .null), (0, .ref px), (1, .int (nI (6 - d)))]) hx hb dX8_readBlock_31 rfl hl (by decide) rfl (fun ls hl => ?_)
    refine lv_null hx hb dX8_readBlock_32 ?_
    refine lv_astore_nN (lv' := [(3, .null), (2, .null), (0, .ref px), (1, .int (nI (6 - d)))]) hx hb dX8_readBlock_33 rfl hl (by decide) rfl (fun ls hl => ?_)
    refine lv_iconst (v := 0) hx hb dX8_readBlock_34 (by decide) ?_
    refine lv_istore (lv' := [(4, .int 0), (3, .null), (2, .null), (0, .ref px), (1, .int (nI (6 - d)))]) hx hb dX8_readBlock_35 hl (by decide) rfl (fun ls hl => ?_)
    refine lv_iload hx hb dX8_readBlock_37 (lv_at hl 0 rfl) ?_
    refine lv_sipush (v := 400) hx hb dX8_readBlock_39 (by decide) ?_
    refine lv_icmp_ge (tgt := 90) hx hb dX8_readBlock_42 (by decide) (fun c_42 => absurd c_42 (by decide)) (fun c_42 => ?_)
    refine lv_aload_n hx hb dX8_readBlock_45 rfl (lv_at hl 3 rfl) ?_
    refine q_get hx hb hts hown hA hW iX8 pS_p rfl 0 (by decide) (hts (.fieldLink RX8 10 "HighRecipes$Parser" "tokens" "LHighRecipes$Tokens;") (by decide +kernel)) (fun _ h9 => h9) (v := .ref (px + 1)) rfl dX8_readBlock_46 ?_
    refine q_getN hx hb hts hown hA hW iX10 pS_t rfl 5 (by decide) (va_Nw.use rfl (hA.2.2.2.1 ("HighRecipes$Parser", 31, "HighRecipes$Tokens", "kind", "LHighRecipes$Kind;", "HighRecipes") (by decide +kernel))) (fun _ h9 => h9) (v := .ref (E.2.2.2 ((p_take K 27 u)).2.1)) rfl dX8_readBlock_49 ?_
    refine q_ci (va_runV (As := []) (rest := []) ⟨hx, hb, hml, hown, hts⟩ (kX5_beginsAct l E (pS E f px bk T pn rc (p_take K 27 u)) u.2.2.2.2.2 (((p_take K 27 u)).2.1) hk9) (cwV 0 hts gX8_readBlock_X5_beginsAct rfl rfl rfl (by decide +kernel) ⟨(by show 0 + 1 ≤ 10 * d + 45; omega), (by show 8 + (1 + 11) + 0 ≤ 100 * d + 1050; omega)⟩) (q_pK hA hW hS hk9) rfl rfl hl.1 rfl (lv_room (Nat.le_of_ble_eq_true rfl)) dX8_readBlock_52 ⟨(by show 0 + 0 ≤ (p_blk K Wd pN pn rN rc d u).2.2.2.2.2 - u.2.2.2.2.2; omega), (by show 0 + 0 ≤ 9 * ((p_blk K Wd pN pn rN rc d u).2.2.2.2.2 - u.2.2.2.2.2); omega)⟩) hS (fun r_52 f_52 n_52 H locs hp hW hS => ?_)
    obtain ⟨rfl, rfl, rfl⟩ := hp
    have hW : q_W E (pS E f px bk T pn rc (p_take K 27 u)) u.2.2.2.2.2 H := hW
    refine lv_if_eq (tgt := 90) hx hb dX8_readBlock_55 (by decide) (fun c_55 => ?_) (fun c_55 => ?_)
    · have hb9 : ¬ b_act (p_take K 27 u).2.1 = true := by rw [b01_0 c_55]; decide
      refine lv_aload_n hx hb dX8_readBlock_90 rfl (lv_at hl 3 rfl) ?_
      refine q_get hx hb hts hown hA hW iX8 pS_p rfl 0 (by decide) (hts (.fieldLink RX8 10 "HighRecipes$Parser" "tokens" "LHighRecipes$Tokens;") (by decide +kernel)) (fun _ h9 => h9) (v := .ref (px + 1)) rfl dX8_readBlock_91 ?_
      refine va_gets (n := "CLOSE") (v := .ref (E.2.2.2 28)) hx hb (hA.2.2.1.1.1 28 (by decide)).1 hS hown (hts (.fieldLink RX8 140 "HighRecipes$Kind" "CLOSE" "LHighRecipes$Kind;") (by decide +kernel)) (fun _ h9 => h9) dX8_readBlock_94 ?_
      refine q_cv (va_runV (As := [.ref (E.2.2.2 28)]) (rest := []) ⟨hx, hb, hml, hown, hts⟩ (kX10_take l E (pS E f px bk T pn rc (p_take K 27 u)) u.2.2.2.2.2 (px + 1) T (p_take K 27 u) kk K 28 pS_t ((pS_out (by omega) (by omega) (by omega)).trans f2) (by assumption) (by assumption) (by assumption) (by assumption) okT (by first | assumption | decide)) (cwV 1 hts gX8_readBlock_X10_take rfl rfl rfl (by decide +kernel) ⟨(by show 1 + 1 ≤ 10 * d + 45; omega), (by show 8 + (2 + 11) + 22 ≤ 100 * d + 1050; omega)⟩) (q_pV hA hW hS (ci := 10) rfl pS_t) rfl rfl hl.1 rfl (lv_room (Nat.le_of_ble_eq_true rfl)) dX8_readBlock_97 ⟨(by show 0 + 0 ≤ (p_blk K Wd pN pn rN rc d u).2.2.2.2.2 - u.2.2.2.2.2; omega), (by show 0 + 0 ≤ 9 * ((p_blk K Wd pN pn rN rc d u).2.2.2.2.2 - u.2.2.2.2.2); omega)⟩) hS (fun f_97 n_97 H locs hp hW hS => ?_)
      obtain ⟨rfl, rfl⟩ := hp
      have hW : q_W E (va_up (pS E f px bk T pn rc (p_take K 27 u)) (px + 1) (some (cTS E (px + 1) T (p_take K 28 (p_take K 27 u))))) u.2.2.2.2.2 H := hW
      have hW : q_W E (pS E f px bk T pn rc (p_take K 28 (p_take K 27 u))) u.2.2.2.2.2 H := by rw [← pS_st (s := p_take K 27 u) (s' := p_take K 28 (p_take K 27 u)) rfl rfl]; exact hW
      have hok_97 : p_ok K T (p_take K 28 (p_take K 27 u)) := okT.take hKT (by first | assumption | decide)
      have hW : q_W E (pS E f px bk T pn rc (p_take K 28 (p_take K 27 u))) u.2.2.2.2.2 H := hW
      refine lv_aload_nN hx hb dX8_readBlock_100 rfl (lv_at hl 2 rfl) ?_
      have e9 : p_acts (p_act K Wd pN pn rN rc (p_blk K Wd pN pn rN rc d0)) 400 (p_take K 27 u) = p_take K 27 u := by show (if b_act _ = true then _ else _) = _; rw [if_neg hb9]
      have eX : p_blk K Wd pN pn rN rc d u = p_take K 28 (p_take K 27 u) := by rw [eB0, e9]
      have eSX : p_blkS K Wd pN pn rN rc RS d u = k_nil := by rw [eS0]; show (if b_act _ = true then _ else _) = _; rw [if_neg hb9]
      exact q_aret (v := none) hx hb hr (Or.inl ⟨_, rfl⟩) hlocks hW hS ⟨f, by rw [eX], by rw [eX]; rfl, fun q hq _ _ _ => rfl, (fun a h9 => by cases h9), fun k1 k2 => ⟨0, rfl, by rw [eSX]⟩⟩ (by show 0 ≤ (p_blk K Wd pN pn rN rc d u).2.2.2.2.2 - u.2.2.2.2.2; omega) (by show 0 ≤ 9 * ((p_blk K Wd pN pn rN rc d u).2.2.2.2.2 - u.2.2.2.2.2); omega) dX8_readBlock_101
    · have hb9 : b_act (p_take K 27 u).2.1 = true := b01_1 c_55
      obtain ⟨s1, hu_s1⟩ : ∃ z, (p_act K Wd pN pn rN rc (p_blk K Wd pN pn rN rc d0)) (p_take K 27 u) = z := ⟨_, rfl⟩
      have b_s1 := go_act (Wd := Wd) (pN := pN) (pn := pn) (rN := rN) (rc := rc) hKT (go_blk (Wd := Wd) (pN := pN) (pn := pn) (rN := rN) (rc := rc) hKT d0) hb9 okT
      rw [hu_s1] at b_s1
      have ok_s1 := b_s1.1
      have sn1 : u.2.2.2.2.2 + 1 ≤ s1.2.2.2.2.2 := by rw [← hu_s1]; exact act_n hKT hb9 okT
      have eA1 : p_acts (p_act K Wd pN pn rN rc (p_blk K Wd pN pn rN rc d0)) 400 (p_take K 27 u) = p_acts (p_act K Wd pN pn rN rc (p_blk K Wd pN pn rN rc d0)) 399 s1 := by show (if b_act (p_take K 27 u).2.1 = true then p_acts (p_act K Wd pN pn rN rc (p_blk K Wd pN pn rN rc d0)) 399 ((p_act K Wd pN pn rN rc (p_blk K Wd pN pn rN rc d0)) (p_take K 27 u)) else (p_take K 27 u)) = _; rw [if_pos hb9, hu_s1]
      have eB1 : p_blk K Wd pN pn rN rc d u = p_take K 28 (p_acts (p_act K Wd pN pn rN rc (p_blk K Wd pN pn rN rc d0)) 399 s1) := by rw [eB0, eA1]
      have goM := ((go_acts (A := (p_act K Wd pN pn rN rc (p_blk K Wd pN pn rN rc d0))) (fun s h => go_act (Wd := Wd) (pN := pN) (pn := pn) (rN := rN) (rc := rc) hKT (go_blk hKT d0) h) 399 s1).trans (go_take (w := 28) hKT (by decide)) ok_s1).2
      rw [← eB1] at goM
      have hM : s1.2.2.2.2.2 ≤ (p_blk K Wd pN pn rN rc d u).2.2.2.2.2 := goM.2.1
      refine lv_aload_n hx hb dX8_readBlock_58 rfl (lv_at hl 3 rfl) ?_
      refine lv_iload_n hx hb dX8_readBlock_59 rfl (lv_at hl 4 rfl) ?_
      refine q_cq (va_runV (As := [.int (nI (6 - d))]) (rest := []) ⟨hx, hb, hml, hown, hts⟩ (ihA (pS E f px bk T pn rc (p_take K 27 u)) px bk T pn rc (p_take K 27 u) kk wo pN rN K Wd  ((pS_out (by omega) (by omega) (by omega)).trans f2) ((pS_out (by omega) (by omega) (by omega)).trans f4) ((pS_out (by omega) (by omega) (by omega)).trans g1) ((pS_out (by omega) (by omega) (by omega)).trans g3) (pS_K hbk) hbk (by show bk + 5 ≤ u.2.2.2.2.2; omega) hT hkk hKT hK41 hWd hpn hrc okT hb9) (cwV 1 hts gX8_readBlock_X8_readAct rfl rfl rfl (by decide +kernel) ⟨(by show (10 * d + 40) + 1 ≤ 10 * d + 45; omega), (by show 8 + (3 + 11) + (100 * d + 1000) ≤ 100 * d + 1050; omega)⟩) (q_pV hA hW hS (ci := 8) rfl pS_p) rfl rfl hl.1 rfl (lv_room (Nat.le_of_ble_eq_true rfl)) dX8_readBlock_60 ⟨(by rw [hu_s1]; show 0 + (s1.2.2.2.2.2 - (u.2.2.2.2.2)) ≤ (p_blk K Wd pN pn rN rc d u).2.2.2.2.2 - u.2.2.2.2.2; omega), (by rw [hu_s1]; show 0 + (9 * (s1.2.2.2.2.2 - (u.2.2.2.2.2))) ≤ 9 * ((p_blk K Wd pN pn rN rc d u).2.2.2.2.2 - u.2.2.2.2.2); omega)⟩) hS (fun r_60 f_60 n_60 H locs hp hW hS => ?_)
      obtain ⟨g_60, pan, rcp, pm, val, lc, blk, oth, rfl, rfl, rfl, fr_60, obj_60, rep_60⟩ := hp
      rw [hu_s1] at hW rep_60
      rw [hu_s1]
      have fr_60 : ∀ q, q < u.2.2.2.2.2 → q ≠ px → q ≠ px + 1 → q ≠ bk → g_60 q = (pS E f px bk T pn rc (p_take K 27 u)) q := fr_60
      have fi_60 : ∀ q, q < u.2.2.2.2.2 → q ≠ px → q ≠ px + 1 → q ≠ bk → g_60 q = f q := fun q hq h7 h8 h9 => (fr_60 q (by omega) h7 h8 h9).trans ((pS_out h7 h8 h9).trans (rfl))
      have hW : q_W E (pS E g_60 px bk T pn rc s1) (s1.2.2.2.2.2) H := hW
      refine lv_astore (lv' := [(5, .ref u.2.2.2.2.2), (4, .int 0), (3, .null), (2, .null), (0, .ref px), (1, .int (nI (6 - d)))]) hx hb dX8_readBlock_63 hl (by decide) rfl (fun ls hl => ?_)
      refine lv_aload_nN hx hb dX8_readBlock_65 rfl (lv_at hl 2 rfl) ?_
      refine lv_ifnonnullN hx hb dX8_readBlock_66 ?_
      refine lv_aload hx hb dX8_readBlock_69 (lv_at hl 0 rfl) ?_
      refine lv_astore_n (lv' := [(2, .ref u.2.2.2.2.2), (5, .ref u.2.2.2.2.2), (4, .int 0), (3, .null), (0, .ref px), (1, .int (nI (6 - d)))]) hx hb dX8_readBlock_71 rfl hl (by decide) rfl (fun ls hl => ?_)
      refine lv_goto (tgt := 81) hx hb dX8_readBlock_72 (by decide) ?_
      refine lv_aload hx hb dX8_readBlock_81 (lv_at hl 1 rfl) ?_
      refine lv_astore_n (lv' := [(3, .ref u.2.2.2.2.2), (2, .ref u.2.2.2.2.2), (5, .ref u.2.2.2.2.2), (4, .int 0), (0, .ref px), (1, .int (nI (6 - d)))]) hx hb dX8_readBlock_83 rfl hl (by decide) rfl (fun ls hl => ?_)
      refine lv_iinc (v := 1) (lv' := [(4, .int 1), (3, .ref u.2.2.2.2.2), (2, .ref u.2.2.2.2.2), (5, .ref u.2.2.2.2.2), (0, .ref px), (1, .int (nI (6 - d)))]) hx hb dX8_readBlock_84 hl (k := 3) rfl (by decide) (by decide) rfl (fun ls hl => ?_)
      refine lv_goto (tgt := 37) hx hb dX8_readBlock_87 (by decide) ?_
      refine W.widen (k := s1.2.2.2.2.2 - u.2.2.2.2.2) (n := 9 * (s1.2.2.2.2.2 - u.2.2.2.2.2)) (by omega) (by omega) ?_
      exact K9 399 1 s1 (g_60) u.2.2.2.2.2 u.2.2.2.2.2 _ pan rcp pm val lc blk oth (by omega) ok_s1 (Nat.le_refl _) (by omega) (fun q hq h7 h8 h9 => (fi_60 q hq h7 h8 h9)) obj_60 eA1 (fun G o hG ha hr0 => ⟨fun q hq h7 h8 h9 => (hG q (by omega) (by omega) h7 h8 h9).trans ((fi_60 q hq h7 h8 h9)), (fun a h9 => by cases h9; exact ⟨Nat.le_refl _, _, _, _, _, _, _, _, _, _, ha⟩), fun k1 k2 => by
        obtain ⟨m, hr⟩ := hr0 k1 k2
        refine ⟨m + 1, ?_⟩
        rw [eS0, show p_actsS (p_act K Wd pN pn rN rc (p_blk K Wd pN pn rN rc d0)) (p_actS K Wd pN pn rN rc RS (p_blk K Wd pN pn rN rc d0) (p_blkS K Wd pN pn rN rc RS d0)) 400 (p_take K 27 u) = k_cons ((p_actS K Wd pN pn rN rc RS (p_blk K Wd pN pn rN rc d0) (p_blkS K Wd pN pn rN rc RS d0)) (p_take K 27 u)) (p_actsS (p_act K Wd pN pn rN rc (p_blk K Wd pN pn rN rc d0)) (p_actS K Wd pN pn rN rc RS (p_blk K Wd pN pn rN rc d0) (p_blkS K Wd pN pn rN rc RS d0)) 399 s1) from by show (if b_act (p_take K 27 u).2.1 = true then k_cons ((p_actS K Wd pN pn rN rc RS (p_blk K Wd pN pn rN rc d0) (p_blkS K Wd pN pn rN rc RS d0)) (p_take K 27 u)) (p_actsS (p_act K Wd pN pn rN rc (p_blk K Wd pN pn rN rc d0)) (p_actS K Wd pN pn rN rc RS (p_blk K Wd pN pn rN rc d0) (p_blkS K Wd pN pn rN rc RS d0)) 399 ((p_act K Wd pN pn rN rc (p_blk K Wd pN pn rN rc d0)) (p_take K 27 u))) else k_nil) = _; rw [if_pos hb9, hu_s1]]
        exact rL_cons (n1 := s1.2.2.2.2.2) (g := g_60) (by omega) hM (rep_60 (goM.2.2.1 k1) (goM.2.2.2 k2)) (fun q h1 h2 => hG q h2 (by omega) (by omega) (by omega) (by omega)) ha hr⟩) _ _ _ hW hS (lv_sub hl [4, 5, 2, 1, 0] rfl)
  · have e14 : u.2.1 = 27 := q_kinj hA hk41 (by decide) c_14
    refine lv_iload_n hx hb dX8_readBlock_17 rfl (lv_at hl 1 rfl) ?_
    refine lv_iconst (v := 5) hx hb dX8_readBlock_18 (by decide) ?_
    refine lv_icmp_gt (tgt := 26) hx hb dX8_readBlock_19 (by decide) (fun c_19 => absurd c_19 (show ¬ nI 5 < nI (6 - d) from nI_nlt (by omega) (by decide))) (fun c_19 => ?_)
    refine lv_iconst (v := 1) hx hb dX8_readBlock_22 (by decide) ?_
    refine lv_goto (tgt := 27) hx hb dX8_readBlock_23 (by decide) ?_
    refine q_cv (va_runV (As := [.int 1]) (rest := []) ⟨hx, hb, hml, hown, hts⟩ (kX10_step l E (pS E f px bk T pn rc u) u.2.2.2.2.2 (px + 1) T u kk K true pS_t ((pS_out (by omega) (by omega) (by omega)).trans f2) (by assumption) (by assumption) (fun h9 => (hok.step hKT (r := true) (fun _ => by rw [e14]; decide)).2 h9)) (cwV 1 hts gX8_readBlock_X10_step rfl rfl rfl (by decide +kernel) ⟨(by show 0 + 1 ≤ 10 * d + 45; omega), (by show 8 + (3 + 11) + 0 ≤ 100 * d + 1050; omega)⟩) (q_pV hA hW hS (ci := 10) rfl pS_t) rfl rfl hl.1 rfl (lv_room (Nat.le_of_ble_eq_true rfl)) dX8_readBlock_27 ⟨(by show 0 + 0 ≤ (p_blk K Wd pN pn rN rc d u).2.2.2.2.2 - u.2.2.2.2.2; omega), (by show 0 + 0 ≤ 9 * ((p_blk K Wd pN pn rN rc d u).2.2.2.2.2 - u.2.2.2.2.2); omega)⟩) hS (fun f_27 n_27 H locs hp hW hS => ?_)
    obtain ⟨rfl, rfl⟩ := hp
    have hW : q_W E (va_up (pS E f px bk T pn rc u) (px + 1) (some (cTS E (px + 1) T (p_step K true u)))) u.2.2.2.2.2 H := hW
    have hW : q_W E (pS E f px bk T pn rc (p_step K true u)) u.2.2.2.2.2 H := by rw [← pS_st (s := u) (s' := p_step K true u) rfl rfl]; exact hW
    have hW : q_W E (pS E f px bk T pn rc (p_step K true u)) u.2.2.2.2.2 H := hW
    have eT : p_take K 27 u = p_step K (decide (u.2.1 = 27)) u := rfl
    first | rw [decide_eq_true e14] at eT | rw [decide_eq_false e14] at eT
    rw [← eT] at hW
    refine lv_null hx hb dX8_readBlock_30 ?_
    refine lv_astore_nN (lv' := [(2, .null), (0, .ref px), (1, .int (nI (6 - d)))]) hx hb dX8_readBlock_31 rfl hl (by decide) rfl (fun ls hl => ?_)
    refine lv_null hx hb dX8_readBlock_32 ?_
    refine lv_astore_nN (lv' := [(3, .null), (2, .null), (0, .ref px), (1, .int (nI (6 - d)))]) hx hb dX8_readBlock_33 rfl hl (by decide) rfl (fun ls hl => ?_)
    refine lv_iconst (v := 0) hx hb dX8_readBlock_34 (by decide) ?_
    refine lv_istore (lv' := [(4, .int 0), (3, .null), (2, .null), (0, .ref px), (1, .int (nI (6 - d)))]) hx hb dX8_readBlock_35 hl (by decide) rfl (fun ls hl => ?_)
    refine lv_iload hx hb dX8_readBlock_37 (lv_at hl 0 rfl) ?_
    refine lv_sipush (v := 400) hx hb dX8_readBlock_39 (by decide) ?_
    refine lv_icmp_ge (tgt := 90) hx hb dX8_readBlock_42 (by decide) (fun c_42 => absurd c_42 (by decide)) (fun c_42 => ?_)
    refine lv_aload_n hx hb dX8_readBlock_45 rfl (lv_at hl 3 rfl) ?_
    refine q_get hx hb hts hown hA hW iX8 pS_p rfl 0 (by decide) (hts (.fieldLink RX8 10 "HighRecipes$Parser" "tokens" "LHighRecipes$Tokens;") (by decide +kernel)) (fun _ h9 => h9) (v := .ref (px + 1)) rfl dX8_readBlock_46 ?_
    refine q_getN hx hb hts hown hA hW iX10 pS_t rfl 5 (by decide) (va_Nw.use rfl (hA.2.2.2.1 ("HighRecipes$Parser", 31, "HighRecipes$Tokens", "kind", "LHighRecipes$Kind;", "HighRecipes") (by decide +kernel))) (fun _ h9 => h9) (v := .ref (E.2.2.2 ((p_take K 27 u)).2.1)) rfl dX8_readBlock_49 ?_
    refine q_ci (va_runV (As := []) (rest := []) ⟨hx, hb, hml, hown, hts⟩ (kX5_beginsAct l E (pS E f px bk T pn rc (p_take K 27 u)) u.2.2.2.2.2 (((p_take K 27 u)).2.1) hk9) (cwV 0 hts gX8_readBlock_X5_beginsAct rfl rfl rfl (by decide +kernel) ⟨(by show 0 + 1 ≤ 10 * d + 45; omega), (by show 8 + (1 + 11) + 0 ≤ 100 * d + 1050; omega)⟩) (q_pK hA hW hS hk9) rfl rfl hl.1 rfl (lv_room (Nat.le_of_ble_eq_true rfl)) dX8_readBlock_52 ⟨(by show 0 + 0 ≤ (p_blk K Wd pN pn rN rc d u).2.2.2.2.2 - u.2.2.2.2.2; omega), (by show 0 + 0 ≤ 9 * ((p_blk K Wd pN pn rN rc d u).2.2.2.2.2 - u.2.2.2.2.2); omega)⟩) hS (fun r_52 f_52 n_52 H locs hp hW hS => ?_)
    obtain ⟨rfl, rfl, rfl⟩ := hp
    have hW : q_W E (pS E f px bk T pn rc (p_take K 27 u)) u.2.2.2.2.2 H := hW
    refine lv_if_eq (tgt := 90) hx hb dX8_readBlock_55 (by decide) (fun c_55 => ?_) (fun c_55 => ?_)
    · have hb9 : ¬ b_act (p_take K 27 u).2.1 = true := by rw [b01_0 c_55]; decide
      refine lv_aload_n hx hb dX8_readBlock_90 rfl (lv_at hl 3 rfl) ?_
      refine q_get hx hb hts hown hA hW iX8 pS_p rfl 0 (by decide) (hts (.fieldLink RX8 10 "HighRecipes$Parser" "tokens" "LHighRecipes$Tokens;") (by decide +kernel)) (fun _ h9 => h9) (v := .ref (px + 1)) rfl dX8_readBlock_91 ?_
      refine va_gets (n := "CLOSE") (v := .ref (E.2.2.2 28)) hx hb (hA.2.2.1.1.1 28 (by decide)).1 hS hown (hts (.fieldLink RX8 140 "HighRecipes$Kind" "CLOSE" "LHighRecipes$Kind;") (by decide +kernel)) (fun _ h9 => h9) dX8_readBlock_94 ?_
      refine q_cv (va_runV (As := [.ref (E.2.2.2 28)]) (rest := []) ⟨hx, hb, hml, hown, hts⟩ (kX10_take l E (pS E f px bk T pn rc (p_take K 27 u)) u.2.2.2.2.2 (px + 1) T (p_take K 27 u) kk K 28 pS_t ((pS_out (by omega) (by omega) (by omega)).trans f2) (by assumption) (by assumption) (by assumption) (by assumption) okT (by first | assumption | decide)) (cwV 1 hts gX8_readBlock_X10_take rfl rfl rfl (by decide +kernel) ⟨(by show 1 + 1 ≤ 10 * d + 45; omega), (by show 8 + (2 + 11) + 22 ≤ 100 * d + 1050; omega)⟩) (q_pV hA hW hS (ci := 10) rfl pS_t) rfl rfl hl.1 rfl (lv_room (Nat.le_of_ble_eq_true rfl)) dX8_readBlock_97 ⟨(by show 0 + 0 ≤ (p_blk K Wd pN pn rN rc d u).2.2.2.2.2 - u.2.2.2.2.2; omega), (by show 0 + 0 ≤ 9 * ((p_blk K Wd pN pn rN rc d u).2.2.2.2.2 - u.2.2.2.2.2); omega)⟩) hS (fun f_97 n_97 H locs hp hW hS => ?_)
      obtain ⟨rfl, rfl⟩ := hp
      have hW : q_W E (va_up (pS E f px bk T pn rc (p_take K 27 u)) (px + 1) (some (cTS E (px + 1) T (p_take K 28 (p_take K 27 u))))) u.2.2.2.2.2 H := hW
      have hW : q_W E (pS E f px bk T pn rc (p_take K 28 (p_take K 27 u))) u.2.2.2.2.2 H := by rw [← pS_st (s := p_take K 27 u) (s' := p_take K 28 (p_take K 27 u)) rfl rfl]; exact hW
      have hok_97 : p_ok K T (p_take K 28 (p_take K 27 u)) := okT.take hKT (by first | assumption | decide)
      have hW : q_W E (pS E f px bk T pn rc (p_take K 28 (p_take K 27 u))) u.2.2.2.2.2 H := hW
      refine lv_aload_nN hx hb dX8_readBlock_100 rfl (lv_at hl 2 rfl) ?_
      have e9 : p_acts (p_act K Wd pN pn rN rc (p_blk K Wd pN pn rN rc d0)) 400 (p_take K 27 u) = p_take K 27 u := by show (if b_act _ = true then _ else _) = _; rw [if_neg hb9]
      have eX : p_blk K Wd pN pn rN rc d u = p_take K 28 (p_take K 27 u) := by rw [eB0, e9]
      have eSX : p_blkS K Wd pN pn rN rc RS d u = k_nil := by rw [eS0]; show (if b_act _ = true then _ else _) = _; rw [if_neg hb9]
      exact q_aret (v := none) hx hb hr (Or.inl ⟨_, rfl⟩) hlocks hW hS ⟨f, by rw [eX], by rw [eX]; rfl, fun q hq _ _ _ => rfl, (fun a h9 => by cases h9), fun k1 k2 => ⟨0, rfl, by rw [eSX]⟩⟩ (by show 0 ≤ (p_blk K Wd pN pn rN rc d u).2.2.2.2.2 - u.2.2.2.2.2; omega) (by show 0 ≤ 9 * ((p_blk K Wd pN pn rN rc d u).2.2.2.2.2 - u.2.2.2.2.2); omega) dX8_readBlock_101
    · have hb9 : b_act (p_take K 27 u).2.1 = true := b01_1 c_55
      obtain ⟨s1, hu_s1⟩ : ∃ z, (p_act K Wd pN pn rN rc (p_blk K Wd pN pn rN rc d0)) (p_take K 27 u) = z := ⟨_, rfl⟩
      have b_s1 := go_act (Wd := Wd) (pN := pN) (pn := pn) (rN := rN) (rc := rc) hKT (go_blk (Wd := Wd) (pN := pN) (pn := pn) (rN := rN) (rc := rc) hKT d0) hb9 okT
      rw [hu_s1] at b_s1
      have ok_s1 := b_s1.1
      have sn1 : u.2.2.2.2.2 + 1 ≤ s1.2.2.2.2.2 := by rw [← hu_s1]; exact act_n hKT hb9 okT
      have eA1 : p_acts (p_act K Wd pN pn rN rc (p_blk K Wd pN pn rN rc d0)) 400 (p_take K 27 u) = p_acts (p_act K Wd pN pn rN rc (p_blk K Wd pN pn rN rc d0)) 399 s1 := by show (if b_act (p_take K 27 u).2.1 = true then p_acts (p_act K Wd pN pn rN rc (p_blk K Wd pN pn rN rc d0)) 399 ((p_act K Wd pN pn rN rc (p_blk K Wd pN pn rN rc d0)) (p_take K 27 u)) else (p_take K 27 u)) = _; rw [if_pos hb9, hu_s1]
      have eB1 : p_blk K Wd pN pn rN rc d u = p_take K 28 (p_acts (p_act K Wd pN pn rN rc (p_blk K Wd pN pn rN rc d0)) 399 s1) := by rw [eB0, eA1]
      have goM := ((go_acts (A := (p_act K Wd pN pn rN rc (p_blk K Wd pN pn rN rc d0))) (fun s h => go_act (Wd := Wd) (pN := pN) (pn := pn) (rN := rN) (rc := rc) hKT (go_blk hKT d0) h) 399 s1).trans (go_take (w := 28) hKT (by decide)) ok_s1).2
      rw [← eB1] at goM
      have hM : s1.2.2.2.2.2 ≤ (p_blk K Wd pN pn rN rc d u).2.2.2.2.2 := goM.2.1
      refine lv_aload_n hx hb dX8_readBlock_58 rfl (lv_at hl 3 rfl) ?_
      refine lv_iload_n hx hb dX8_readBlock_59 rfl (lv_at hl 4 rfl) ?_
      refine q_cq (va_runV (As := [.int (nI (6 - d))]) (rest := []) ⟨hx, hb, hml, hown, hts⟩ (ihA (pS E f px bk T pn rc (p_take K 27 u)) px bk T pn rc (p_take K 27 u) kk wo pN rN K Wd  ((pS_out (by omega) (by omega) (by omega)).trans f2) ((pS_out (by omega) (by omega) (by omega)).trans f4) ((pS_out (by omega) (by omega) (by omega)).trans g1) ((pS_out (by omega) (by omega) (by omega)).trans g3) (pS_K hbk) hbk (by show bk + 5 ≤ u.2.2.2.2.2; omega) hT hkk hKT hK41 hWd hpn hrc okT hb9) (cwV 1 hts gX8_readBlock_X8_readAct rfl rfl rfl (by decide +kernel) ⟨(by show (10 * d + 40) + 1 ≤ 10 * d + 45; omega), (by show 8 + (3 + 11) + (100 * d + 1000) ≤ 100 * d + 1050; omega)⟩) (q_pV hA hW hS (ci := 8) rfl pS_p) rfl rfl hl.1 rfl (lv_room (Nat.le_of_ble_eq_true rfl)) dX8_readBlock_60 ⟨(by rw [hu_s1]; show 0 + (s1.2.2.2.2.2 - (u.2.2.2.2.2)) ≤ (p_blk K Wd pN pn rN rc d u).2.2.2.2.2 - u.2.2.2.2.2; omega), (by rw [hu_s1]; show 0 + (9 * (s1.2.2.2.2.2 - (u.2.2.2.2.2))) ≤ 9 * ((p_blk K Wd pN pn rN rc d u).2.2.2.2.2 - u.2.2.2.2.2); omega)⟩) hS (fun r_60 f_60 n_60 H locs hp hW hS => ?_)
      obtain ⟨g_60, pan, rcp, pm, val, lc, blk, oth, rfl, rfl, rfl, fr_60, obj_60, rep_60⟩ := hp
      rw [hu_s1] at hW rep_60
      rw [hu_s1]
      have fr_60 : ∀ q, q < u.2.2.2.2.2 → q ≠ px → q ≠ px + 1 → q ≠ bk → g_60 q = (pS E f px bk T pn rc (p_take K 27 u)) q := fr_60
      have fi_60 : ∀ q, q < u.2.2.2.2.2 → q ≠ px → q ≠ px + 1 → q ≠ bk → g_60 q = f q := fun q hq h7 h8 h9 => (fr_60 q (by omega) h7 h8 h9).trans ((pS_out h7 h8 h9).trans (rfl))
      have hW : q_W E (pS E g_60 px bk T pn rc s1) (s1.2.2.2.2.2) H := hW
      refine lv_astore (lv' := [(5, .ref u.2.2.2.2.2), (4, .int 0), (3, .null), (2, .null), (0, .ref px), (1, .int (nI (6 - d)))]) hx hb dX8_readBlock_63 hl (by decide) rfl (fun ls hl => ?_)
      refine lv_aload_nN hx hb dX8_readBlock_65 rfl (lv_at hl 2 rfl) ?_
      refine lv_ifnonnullN hx hb dX8_readBlock_66 ?_
      refine lv_aload hx hb dX8_readBlock_69 (lv_at hl 0 rfl) ?_
      refine lv_astore_n (lv' := [(2, .ref u.2.2.2.2.2), (5, .ref u.2.2.2.2.2), (4, .int 0), (3, .null), (0, .ref px), (1, .int (nI (6 - d)))]) hx hb dX8_readBlock_71 rfl hl (by decide) rfl (fun ls hl => ?_)
      refine lv_goto (tgt := 81) hx hb dX8_readBlock_72 (by decide) ?_
      refine lv_aload hx hb dX8_readBlock_81 (lv_at hl 1 rfl) ?_
      refine lv_astore_n (lv' := [(3, .ref u.2.2.2.2.2), (2, .ref u.2.2.2.2.2), (5, .ref u.2.2.2.2.2), (4, .int 0), (0, .ref px), (1, .int (nI (6 - d)))]) hx hb dX8_readBlock_83 rfl hl (by decide) rfl (fun ls hl => ?_)
      refine lv_iinc (v := 1) (lv' := [(4, .int 1), (3, .ref u.2.2.2.2.2), (2, .ref u.2.2.2.2.2), (5, .ref u.2.2.2.2.2), (0, .ref px), (1, .int (nI (6 - d)))]) hx hb dX8_readBlock_84 hl (k := 3) rfl (by decide) (by decide) rfl (fun ls hl => ?_)
      refine lv_goto (tgt := 37) hx hb dX8_readBlock_87 (by decide) ?_
      refine W.widen (k := s1.2.2.2.2.2 - u.2.2.2.2.2) (n := 9 * (s1.2.2.2.2.2 - u.2.2.2.2.2)) (by omega) (by omega) ?_
      exact K9 399 1 s1 (g_60) u.2.2.2.2.2 u.2.2.2.2.2 _ pan rcp pm val lc blk oth (by omega) ok_s1 (Nat.le_refl _) (by omega) (fun q hq h7 h8 h9 => (fi_60 q hq h7 h8 h9)) obj_60 eA1 (fun G o hG ha hr0 => ⟨fun q hq h7 h8 h9 => (hG q (by omega) (by omega) h7 h8 h9).trans ((fi_60 q hq h7 h8 h9)), (fun a h9 => by cases h9; exact ⟨Nat.le_refl _, _, _, _, _, _, _, _, _, _, ha⟩), fun k1 k2 => by
        obtain ⟨m, hr⟩ := hr0 k1 k2
        refine ⟨m + 1, ?_⟩
        rw [eS0, show p_actsS (p_act K Wd pN pn rN rc (p_blk K Wd pN pn rN rc d0)) (p_actS K Wd pN pn rN rc RS (p_blk K Wd pN pn rN rc d0) (p_blkS K Wd pN pn rN rc RS d0)) 400 (p_take K 27 u) = k_cons ((p_actS K Wd pN pn rN rc RS (p_blk K Wd pN pn rN rc d0) (p_blkS K Wd pN pn rN rc RS d0)) (p_take K 27 u)) (p_actsS (p_act K Wd pN pn rN rc (p_blk K Wd pN pn rN rc d0)) (p_actS K Wd pN pn rN rc RS (p_blk K Wd pN pn rN rc d0) (p_blkS K Wd pN pn rN rc RS d0)) 399 s1) from by show (if b_act (p_take K 27 u).2.1 = true then k_cons ((p_actS K Wd pN pn rN rc RS (p_blk K Wd pN pn rN rc d0) (p_blkS K Wd pN pn rN rc RS d0)) (p_take K 27 u)) (p_actsS (p_act K Wd pN pn rN rc (p_blk K Wd pN pn rN rc d0)) (p_actS K Wd pN pn rN rc RS (p_blk K Wd pN pn rN rc d0) (p_blkS K Wd pN pn rN rc RS d0)) 399 ((p_act K Wd pN pn rN rc (p_blk K Wd pN pn rN rc d0)) (p_take K 27 u))) else k_nil) = _; rw [if_pos hb9, hu_s1]]
        exact rL_cons (n1 := s1.2.2.2.2.2) (g := g_60) (by omega) hM (rep_60 (goM.2.2.1 k1) (goM.2.2.2 k2)) (fun q h1 h2 => hG q h2 (by omega) (by omega) (by omega) (by omega)) ha hr⟩) _ _ _ hW hS (lv_sub hl [4, 5, 2, 1, 0] rfl)

theorem blk_all (l : Launch) (E : q_E) (RS : Nat → q_S) : ∀ d, d ≤ 6 → RBK l E RS d
  | 0, _ => fun f px bk T pn rc u kk wo pN rN K Wd f2 f4 g1 g3 hp hbk hn hT hkk hKT hK41 hWd hpn hrc hok => kX8_readBlock0 l E f _ px bk T pn rc u kk wo pN rN K Wd RS f2 f4 g1 g3 hp hbk hn hT hkk hKT hK41 hWd hpn hrc hok rfl
  | d + 1, hd => fun f px bk T pn rc u kk wo pN rN K Wd f2 f4 g1 g3 hp hbk hn hT hkk hKT hK41 hWd hpn hrc hok => kX8_readBlock l E f _ px bk T pn rc u kk wo pN rN K Wd RS (d + 1) d f2 f4 g1 g3 hp hbk hn hT hkk hKT hK41 hWd hpn hrc hok rfl rfl hd (act_all l E RS (d + 1) d rfl hd (blk_all l E RS d (by omega)))

