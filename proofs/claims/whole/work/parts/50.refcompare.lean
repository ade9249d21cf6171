/-! compares -/
theorem r_Q.cmp {r r1 : q_R} {K : Nat → Nat} {T : Nat} {u1 : p_S} {tk nd cc ac tk1 nd1 cc1 ac1 : Nat} (h : r_Q r r1 K T u1 tk nd cc ac tk1 nd1 cc1 ac1) (hs : cc1 + tk + 1 ≤ cc + tk1) (ht : cc ≤ tk) {x y z : Int32} : r_Q r (rp (rp (rp (rp r1 36 (upd (r1 36) cc1 x)) 37 (upd (r1 37) cc1 y)) 38 (upd (r1 38) cc1 z)) 133 (fun _ => nI (cc1 + 1))) K T u1 tk nd cc ac tk1 nd1 (cc1 + 1) ac1 := by
  obtain ⟨⟨⟨a1, a2, a3, a4, a5, a6, a7, a8⟩, hc⟩, hG, hn⟩ := h
  unfold r_num at hn
  exact ⟨⟨⟨a1, a2, a3, a4, rfl, by omega, a7, a8⟩, hc⟩, ((((hG.upA (by omega)).upA (by omega)).upA (by omega)).upS (by decide)), by unfold r_num; omega⟩
theorem cmp_rows {r : q_R} {nd : Nat} {x y z : Int32} : (rp (rp (rp (rp r 36 (upd (r 36) nd x)) 37 (upd (r 37) nd y)) 38 (upd (r 38) nd z)) 133 (fun _ => nI (nd + 1))) 36 nd = x ∧ (rp (rp (rp (rp r 36 (upd (r 36) nd x)) 37 (upd (r 37) nd y)) 38 (upd (r 38) nd z)) 133 (fun _ => nI (nd + 1))) 37 nd = y ∧ (rp (rp (rp (rp r 36 (upd (r 36) nd x)) 37 (upd (r 37) nd y)) 38 (upd (r 38) nd z)) 133 (fun _ => nI (nd + 1))) 38 nd = z := ⟨z_us, z_us, z_us⟩
theorem cs_bad {K : Nat → Nat} {u : p_S} (h : b_csign u.2.1 = false) : (p_cs K u).1 = u.1 ∧ (p_cs K u).2.1 = 40 := step_bad (u := p_new u) h

set_option maxHeartbeats 4000000 in
set_option maxRecDepth 100000 in
theorem kX14_compare (l : Launch) (E : q_E) (f : q_H) (n : Nat) (M : Nat) (r : q_R) (K : Nat → Nat) (Wd : Nat → Int64) (T : Nat) (u : p_S) (tk nd cc ac : Nat) (pN : Nat → Int64) (pn : Nat)  (hm : RM E f M r) (hTK : r_T r K Wd T) (hT : T ≤ 400) (hKT : 39 ≤ K T) (hK41 : ∀ j, K j < 41) (hP : r_P r K T u tk nd cc ac) (hok : p_ok K T u) (hnm : r_nm r K Wd T 6 pn pN) (hpn : pn ≤ 8) (hpn9 : r 130 0 = nI pn) (hv8 : r 108 0 = nI (4 - 4)) : Met l yX14_compare wsX14_compare ({ frames := 29, cells := 0, slots := 0, locals := 721 }) (q_P E [.ref M] f n) (q_Qv E (fun f1 n1 => ∃ (r1 : q_R) (tk1 nd1 cc1 ac1 : Nat), r_Q r r1 K T (p_cmp K Wd pN pn u) tk nd cc ac tk1 nd1 cc1 ac1 ∧ r1 107 0 = r 107 0 ∧ ((p_cmp K Wd pN pn u).2.1 ≠ 40 → r1 108 0 = r 108 0) ∧ (ac1 = ac) ∧ (((p_cmp K Wd pN pn u).2.1 ≠ 40 → (p_cmp K Wd pN pn u).2.2.1 = 0 → cc1 = cc + 1 ∧ tk + 1 ≤ tk1 ∧ ∃ kd x y D1 D2, r1 36 cc = nI (m_kd kd) ∧ 30 ≤ kd ∧ kd ≤ 32 ∧ r1 37 cc = nI x ∧ r1 38 cc = nI y ∧ mV (bR r1 25) pn nd1 5 x D1 ∧ mV (bR r1 25) pn nd1 5 y D2 ∧ ∀ C, p_cmpC K Wd pN pn u C = fun hd v => c_cmp kd (D1 hd v) (D2 hd v) && C hd v)) ∧ rO E f M r1 = f1 ∧ n = n1)) 0 0 (q_ge E) := by
  refine Met.ofW (cc := cX14_compare) (maxL := 5) (ret := none) (by decide) rfl ?_
  intro p e s m args below meth c s₁ B hml hv
  obtain ⟨rfl, hA, hW⟩ := hv
  have hx := B.exec
  have hb := B.bytes
  have hr := B.returns
  have hts := atoms_spec (ws := wsX14_compare) B.pre
  have hown : s.vm.findClass RX14 = some m.cls := findClass_of_methodNamed B.named
  have hlocks := B.notSynchronized
  have hS : va_S (q_ge E) s.heap s.heap [] := va_S.rf
  have iX13 : ∀ w ∈ wsX130, w ∈ wsX14_compare := by decide +kernel
  have iX14 : ∀ w ∈ wsX140, w ∈ wsX14_compare := by decide +kernel
  have hl := lv_entry ([.ref M]) (n := 5) (Nat.le_of_ble_eq_true rfl)
  rw [lg_entry_eq]
  generalize (lg_sl ([.ref M]) ++ List.replicate (5 - (lg_sl ([.ref M])).length) Slot.unset).toArray = ls at hl ⊢
  have hl : lv_has ls 5 [(0, .ref M)] := hl
  have hmE := hm.eq
  rw [hm.eq] at hW
  have Q0 := r_Q.rf hP
  have htk := hP.1.2.1
  have hnd := hP.1.2.2.2.1
  have hcc := hP.1.2.2.2.2.2.1
  have hac := hP.1.2.2.2.2.2.2.2
  refine lv_aload_n hx hb dX14_compare_0 rfl (lv_at hl 0 rfl) ?_
  refine q_ci (va_runV (As := []) (rest := []) ⟨hx, hb, hml, hown, hts⟩ (rval_all l E 4 (rO E f M r) n M r K Wd T u tk nd cc ac pN pn rO_K hTK hT hKT hK41 Q0.1 hok (hnm.mv (Q0.2.1.1 6 (by decide) (by decide) (by decide))) hpn hpn9 hv8 (by decide)) (cwV 0 hts gX14_compare_X14_value rfl rfl rfl (by decide +kernel) ⟨(Nat.le_of_ble_eq_true rfl), (Nat.le_of_ble_eq_true rfl)⟩) (q_pV hA hW hS (ci := 12) rfl rO_0) rfl rfl hl.1 rfl (lv_room (Nat.le_of_ble_eq_true rfl)) dX14_compare_1 ⟨Nat.le_of_ble_eq_true rfl, Nat.le_of_ble_eq_true rfl⟩) hS (fun r_1 f_1 n_1 H locs hp hW hS => ?_)
  obtain ⟨R_1, tk_1, nd_1, cc_1, ac_1, q_1, e7_1, e8_1, ec_1, ex_1, rfl, rfl⟩ := hp
  have G_1 : p_go K T u (p_val K Wd pN pn 4 u) := (go_val0 hKT 4 _)
  have GG_1 := G_1 hok
  have ok_1 := GG_1.1
  have le_1 := GG_1.2.2.2.1
  have er_1 := GG_1.2.2.2.2
  have Q_1 := Q0.trans q_1
  have T_1 := Q_1.tok hTK
  have num_1 := Q_1.2.2
  unfold r_num at num_1
  have bt_1 := Q_1.1.1.2.1
  have bn_1 := Q_1.1.1.2.2.2.1
  have bc_1 := Q_1.1.1.2.2.2.2.2.1
  have ba_1 := Q_1.1.1.2.2.2.2.2.2.2
  have qn_1 := q_1.2.2
  unfold r_num at qn_1
  have Gm1_1 : r_G R_1 R_1 nd_1 cc_1 ac_1 := r_G.rf
  rw [rO_rO] at hW
  have hW : q_W E (rO E f M R_1) n H := hW
  refine lv_istore_n (lv' := [(1, .int r_1), (0, .ref M)]) hx hb dX14_compare_4 rfl hl (by decide) rfl (fun ls hl => ?_)
  refine lv_aload_n hx hb dX14_compare_5 rfl (lv_at hl 1 rfl) ?_
  refine q_get hx hb hts hown hA hW iX14 rO_0 rfl 4 (by decide) (hts (.fieldLink RX14 17 "HighRecipesModel" "kind" "[I") (by decide +kernel)) (fun _ h9 => h9) (v := .ref (M + 2)) rfl dX14_compare_6 ?_
  refine lv_aload_n hx hb dX14_compare_9 rfl (lv_at hl 1 rfl) ?_
  refine q_get hx hb hts hown hA hW iX14 rO_0 rfl 8 (by decide) (hts (.fieldLink RX14 120 "HighRecipesModel" "token" "I") (by decide +kernel)) (fun _ h9 => h9) (v := .int (nI tk_1)) (congrArg (fun z => some (Value.int z)) Q_1.1.1.1) dX14_compare_10 ?_
  refine q_ald hx hb hA hW (rO_2 (g := R_1 2) rfl) tk_1 rfl (by omega) (by decide) (x := nI (m_kd (K tk_1))) (T_1.1 tk_1 bt_1) dX14_compare_13 ?_
  refine lv_istore_n (lv' := [(2, .int (nI (m_kd (K tk_1)))), (1, .int r_1), (0, .ref M)]) hx hb dX14_compare_14 rfl hl (by decide) rfl (fun ls hl => ?_)
  refine lv_aload_n hx hb dX14_compare_15 rfl (lv_at hl 2 rfl) ?_
  refine q_get hx hb hts hown hA hW iX14 rO_0 rfl 9 (by decide) (hts (.fieldLink RX14 116 "HighRecipesModel" "isWrong" "Z") (by decide +kernel)) (fun _ h9 => h9) (v := .int (R_1 104 0)) rfl dX14_compare_16 ?_
  refine lv_if_ne (tgt := 33) hx hb dX14_compare_19 (by decide) (fun c_19 => ?_) (fun c_19 => ?_)
  · have w9 := Q_1.1.w1 c_19
    have ev : b_csign (p_val K Wd pN pn 4 u).2.1 = false := by rw [w9.2.1]; rfl
    refine lv_aload_n hx hb dX14_compare_33 rfl (lv_at hl 2 rfl) ?_
    refine q_cv (va_runV (As := []) (rest := []) ⟨hx, hb, hml, hown, hts⟩ (kX14_wrong l E (rO E f M R_1) n M R_1 K Wd T (p_val K Wd pN pn 4 u) tk_1 nd_1 cc_1 ac_1 rO_K T_1 hT hKT hK41 Q_1.1 ok_1) (cwV 0 hts gX14_compare_X14_wrong rfl rfl rfl (by decide +kernel) ⟨(Nat.le_of_ble_eq_true rfl), (Nat.le_of_ble_eq_true rfl)⟩) (q_pV hA hW hS (ci := 12) rfl rO_0) rfl rfl hl.1 rfl (lv_room (Nat.le_of_ble_eq_true rfl)) dX14_compare_34 ⟨Nat.le_of_ble_eq_true rfl, Nat.le_of_ble_eq_true rfl⟩) hS (fun f_34 n_34 H locs hp hW hS => ?_)
    obtain ⟨R_34, tk_34, nd_34, cc_34, ac_34, q_34, e7_34, e8_34, ec_34, ex_34, rfl, rfl⟩ := hp
    have G_34 : p_go K T (p_val K Wd pN pn 4 u) (p_step K false (p_val K Wd pN pn 4 u)) := (go_step hKT (fun h9 => by cases h9))
    have GG_34 := G_34 ok_1
    have ok_34 := GG_34.1
    have le_34 := GG_34.2.2.2.1
    have er_34 := GG_34.2.2.2.2
    have Q_34 := Q_1.trans q_34
    have T_34 := Q_34.tok hTK
    have num_34 := Q_34.2.2
    unfold r_num at num_34
    have bt_34 := Q_34.1.1.2.1
    have bn_34 := Q_34.1.1.2.2.2.1
    have bc_34 := Q_34.1.1.2.2.2.2.2.1
    have ba_34 := Q_34.1.1.2.2.2.2.2.2.2
    have qn_34 := q_34.2.2
    unfold r_num at qn_34
    have Gm1_34 := Gm1_1.trans q_34.2.1 (by omega) (by omega) (by omega)
    rw [rO_rO] at hW
    have hW : q_W E (rO E f M R_34) n H := hW
    exact q_vret hx hb hr hlocks hW hS ⟨_, _, _, _, _, (Q_34.cg ex_34 (show (p_val K Wd pN pn 4 (p_cs K (p_val K Wd pN pn 4 u))).1 = _ from (val_bad (cs_bad ev).2).1.trans (cs_bad ev).1) (val_bad (cs_bad ev).2).2), (e7_34.trans (e7_1.trans rfl)), (fun h1 => absurd (val_bad (cs_bad ev).2).2 h1), (ec_34.2.trans (ec_1.2.trans rfl)), (fun h1 h2 => absurd (val_bad (cs_bad ev).2).2 h1), rfl, rfl⟩ (Nat.le_of_ble_eq_true rfl) (Nat.le_of_ble_eq_true rfl) dX14_compare_37
  · have w9 := Q_1.1.nw0 c_19
    refine lv_iload_n hx hb dX14_compare_22 rfl (lv_at hl 0 rfl) ?_
    refine lv_bipush (v := 53) hx hb dX14_compare_23 (by decide) ?_
    refine lv_bipush (v := 55) hx hb dX14_compare_25 (by decide) ?_
    refine q_ci (va_runS (As := [.int (nI (m_kd (K tk_1))), .int 53, .int 55]) (rest := []) ⟨hx, hb, hml, hown, hts⟩ (kX14_isIn l E (rO E f M R_1) n (nI (m_kd (K tk_1))) 53 55) (va_cwS 3 hts gX14_compare_X14_isIn rfl rfl rfl (by decide +kernel) ⟨(Nat.le_of_ble_eq_true rfl), (Nat.le_of_ble_eq_true rfl)⟩) (q_pS hA hW hS) rfl rfl hl.1 rfl (lv_room (Nat.le_of_ble_eq_true rfl)) dX14_compare_27 ⟨Nat.le_of_ble_eq_true rfl, Nat.le_of_ble_eq_true rfl⟩) hS (fun r_27 f_27 n_27 H locs hp hW hS => ?_)
    obtain ⟨rfl, rfl, rfl⟩ := hp
    have hW : q_W E (rO E f M R_1) n H := hW
    refine lv_if_ne (tgt := 38) hx hb dX14_compare_30 (by decide) (fun c_30 => ?_) (fun c_30 => ?_)
    · have ev : b_csign (p_val K Wd pN pn 4 u).2.1 = true := by rw [w9.2.1, ← w9.1, ← b_in_cs _ (hK41 _)]; exact b01_1 c_30
      have ek := (b_csign_lt ev).1
      have h8_1 : R_1 108 0 = nI (4 - 4) := (e8_1 (by omega)).trans hv8
      refine lv_aload_n hx hb dX14_compare_38 rfl (lv_at hl 2 rfl) ?_
      refine lv_dup hx hb dX14_compare_39 rfl ?_
      refine q_get hx hb hts hown hA hW iX14 rO_0 rfl 8 (by decide) (hts (.fieldLink RX14 120 "HighRecipesModel" "token" "I") (by decide +kernel)) (fun _ h9 => h9) (v := .int (nI tk_1)) (congrArg (fun z => some (Value.int z)) Q_1.1.1.1) dX14_compare_40 ?_
      refine lv_iconst (v := 1) hx hb dX14_compare_43 (by decide) ?_
      refine lv_iadd hx hb dX14_compare_44 ?_
      refine q_put hx hb hts hown hA hW hS iX14 tyX14 tyX14_ok nmX14 rO_0 rfl 8 (by decide) (hts (.fieldLink RX14 120 "HighRecipesModel" "token" "I") (by decide +kernel)) (fun _ h9 => h9) rfl rfl rfl (Nat.le_of_ble_eq_true rfl) dX14_compare_45 (fun H locs hW hS => ?_)
      rw [show (nI tk_1) + 1 = nI (tk_1 + 1) from nI_1 tk_1] at hW
      have hW := q_s0 103 (nI (tk_1 + 1)) hW rfl (by decide)
      obtain ⟨R_48, hR_48⟩ : ∃ z, z = rp R_1 103 (fun _ => nI (tk_1 + 1)) := ⟨_, rfl⟩
      rw [← hR_48] at hW
      have Q_48 : r_Q r R_48 K T (p_cs K (p_val K Wd pN pn 4 u)) tk nd cc ac (tk_1 + 1) nd_1 cc_1 ac_1 := by rw [hR_48]; exact (by unfold p_cs; rw [ev]; exact Q_1.inc ek hKT)
      have T_48 := Q_48.tok hTK
      have num_48 := Q_48.2.2
      unfold r_num at num_48
      have bt_48 := Q_48.1.1.2.1
      have bn_48 := Q_48.1.1.2.2.2.1
      have bc_48 := Q_48.1.1.2.2.2.2.2.1
      have ba_48 := Q_48.1.1.2.2.2.2.2.2.2
      have Gm1_48 : r_G R_1 R_48 nd_1 cc_1 ac_1 := by rw [hR_48]; exact (r_G.upS Gm1_1 (by decide))
      have G_48 : p_go K T (p_val K Wd pN pn 4 u) (p_cs K (p_val K Wd pN pn 4 u)) := (go_cs hKT)
      have GG_48 := G_48 ok_1
      have ok_48 := GG_48.1
      have le_48 := GG_48.2.2.2.1
      have er_48 := GG_48.2.2.2.2
      refine lv_aload_n hx hb dX14_compare_48 rfl (lv_at hl 2 rfl) ?_
      refine q_ci (va_runV (As := []) (rest := []) ⟨hx, hb, hml, hown, hts⟩ (rval_all l E 4 (rO E f M R_48) n M R_48 K Wd T (p_cs K (p_val K Wd pN pn 4 u)) (tk_1 + 1) nd_1 cc_1 ac_1 pN pn rO_K T_48 hT hKT hK41 Q_48.1 ok_48 (hnm.mv (Q_48.2.1.1 6 (by decide) (by decide) (by decide))) hpn (show R_48 130 0 = nI pn from by rw [hR_48]; exact ((congrFun (q_1.2.1.1 130 (by decide) (by decide) (by decide)) 0).trans hpn9)) (show R_48 108 0 = nI (4 - 4) from by rw [hR_48]; exact h8_1) (by decide)) (cwV 0 hts gX14_compare_X14_value rfl rfl rfl (by decide +kernel) ⟨(Nat.le_of_ble_eq_true rfl), (Nat.le_of_ble_eq_true rfl)⟩) (q_pV hA hW hS (ci := 12) rfl rO_0) rfl rfl hl.1 rfl (lv_room (Nat.le_of_ble_eq_true rfl)) dX14_compare_49 ⟨Nat.le_of_ble_eq_true rfl, Nat.le_of_ble_eq_true rfl⟩) hS (fun r_49 f_49 n_49 H locs hp hW hS => ?_)
      obtain ⟨R_49, tk_49, nd_49, cc_49, ac_49, q_49, e7_49, e8_49, ec_49, ex_49, rfl, rfl⟩ := hp
      have G_49 : p_go K T (p_cs K (p_val K Wd pN pn 4 u)) (p_val K Wd pN pn 4 (p_cs K (p_val K Wd pN pn 4 u))) := (go_val0 hKT 4 _)
      have GG_49 := G_49 ok_48
      have ok_49 := GG_49.1
      have le_49 := GG_49.2.2.2.1
      have er_49 := GG_49.2.2.2.2
      have Q_49 := Q_48.trans q_49
      have T_49 := Q_49.tok hTK
      have num_49 := Q_49.2.2
      unfold r_num at num_49
      have bt_49 := Q_49.1.1.2.1
      have bn_49 := Q_49.1.1.2.2.2.1
      have bc_49 := Q_49.1.1.2.2.2.2.2.1
      have ba_49 := Q_49.1.1.2.2.2.2.2.2.2
      have qn_49 := q_49.2.2
      unfold r_num at qn_49
      have Gm1_49 := Gm1_48.trans q_49.2.1 (by omega) (by omega) (by omega)
      have Gm49_49 : r_G R_49 R_49 nd_49 cc_49 ac_49 := r_G.rf
      rw [rO_rO] at hW
      have hW : q_W E (rO E f M R_49) n H := hW
      refine lv_istore_n (lv' := [(3, .int r_49), (2, .int (nI (m_kd (K tk_1)))), (1, .int r_1), (0, .ref M)]) hx hb dX14_compare_52 rfl hl (by decide) rfl (fun ls hl => ?_)
      refine lv_aload_n hx hb dX14_compare_53 rfl (lv_at hl 3 rfl) ?_
      refine q_get hx hb hts hown hA hW iX14 rO_0 rfl 18 (by decide) (hts (.fieldLink RX14 42 "HighRecipesModel" "fresh" "LHighRecipesModel$Book;") (by decide +kernel)) (fun _ h9 => h9) (v := .ref (M + 25)) rfl dX14_compare_54 ?_
      refine q_getN hx hb hts hown hA hW iX13 rO_25 rfl 13 (by decide) (va_Nw.use rfl (hA.2.2.2.1 ("HighRecipesModel", 194, "HighRecipesModel$Book", "compares", "I", "HighRecipesModel") (by decide +kernel))) (fun _ h9 => h9) (v := .int (nI cc_49)) (congrArg (fun z => some (Value.int z)) Q_49.1.1.2.2.2.2.1) dX14_compare_57 ?_
      refine lv_istore (lv' := [(4, .int (nI cc_49)), (3, .int r_49), (2, .int (nI (m_kd (K tk_1)))), (1, .int r_1), (0, .ref M)]) hx hb dX14_compare_60 hl (by decide) rfl (fun ls hl => ?_)
      refine lv_aload_n hx hb dX14_compare_62 rfl (lv_at hl 4 rfl) ?_
      refine q_get hx hb hts hown hA hW iX14 rO_0 rfl 18 (by decide) (hts (.fieldLink RX14 42 "HighRecipesModel" "fresh" "LHighRecipesModel$Book;") (by decide +kernel)) (fun _ h9 => h9) (v := .ref (M + 25)) rfl dX14_compare_63 ?_
      refine q_getN hx hb hts hown hA hW iX13 rO_25 rfl 14 (by decide) (va_Nw.use rfl (hA.2.2.2.1 ("HighRecipesModel", 197, "HighRecipesModel$Book", "sign", "[I", "HighRecipesModel") (by decide +kernel))) (fun _ h9 => h9) (v := .ref (M + 36)) rfl dX14_compare_66 ?_
      refine lv_iload hx hb dX14_compare_69 (lv_at hl 0 rfl) ?_
      refine lv_iload_n hx hb dX14_compare_71 rfl (lv_at hl 2 rfl) ?_
      refine q_ast hx hb hA hW hS (rO_36 (g := R_49 36) rfl) cc_49 rfl (by omega) (by decide) dX14_compare_72 (fun H locs hW hS => ?_)
      have hW := q_sa 36 hW rfl rfl
      refine lv_aload_n hx hb dX14_compare_73 rfl (lv_at hl 4 rfl) ?_
      refine q_get hx hb hts hown hA hW iX14 rO_0 rfl 18 (by decide) (hts (.fieldLink RX14 42 "HighRecipesModel" "fresh" "LHighRecipesModel$Book;") (by decide +kernel)) (fun _ h9 => h9) (v := .ref (M + 25)) rfl dX14_compare_74 ?_
      refine q_getN hx hb hts hown hA hW iX13 rO_25 rfl 15 (by decide) (va_Nw.use rfl (hA.2.2.2.1 ("HighRecipesModel", 200, "HighRecipesModel$Book", "one", "[I", "HighRecipesModel") (by decide +kernel))) (fun _ h9 => h9) (v := .ref (M + 37)) rfl dX14_compare_77 ?_
      refine lv_iload hx hb dX14_compare_80 (lv_at hl 0 rfl) ?_
      refine lv_iload_n hx hb dX14_compare_82 rfl (lv_at hl 3 rfl) ?_
      refine q_ast hx hb hA hW hS (rO_37 (g := R_49 37) rfl) cc_49 rfl (by omega) (by decide) dX14_compare_83 (fun H locs hW hS => ?_)
      have hW := q_sa 37 hW rfl rfl
      refine lv_aload_n hx hb dX14_compare_84 rfl (lv_at hl 4 rfl) ?_
      refine q_get hx hb hts hown hA hW iX14 rO_0 rfl 18 (by decide) (hts (.fieldLink RX14 42 "HighRecipesModel" "fresh" "LHighRecipesModel$Book;") (by decide +kernel)) (fun _ h9 => h9) (v := .ref (M + 25)) rfl dX14_compare_85 ?_
      refine q_getN hx hb hts hown hA hW iX13 rO_25 rfl 16 (by decide) (va_Nw.use rfl (hA.2.2.2.1 ("HighRecipesModel", 203, "HighRecipesModel$Book", "two", "[I", "HighRecipesModel") (by decide +kernel))) (fun _ h9 => h9) (v := .ref (M + 38)) rfl dX14_compare_88 ?_
      refine lv_iload hx hb dX14_compare_91 (lv_at hl 0 rfl) ?_
      refine lv_iload_n hx hb dX14_compare_93 rfl (lv_at hl 1 rfl) ?_
      refine q_ast hx hb hA hW hS (rO_38 (g := R_49 38) rfl) cc_49 rfl (by omega) (by decide) dX14_compare_94 (fun H locs hW hS => ?_)
      have hW := q_sa 38 hW rfl rfl
      refine lv_aload_n hx hb dX14_compare_95 rfl (lv_at hl 4 rfl) ?_
      refine q_get hx hb hts hown hA hW iX14 rO_0 rfl 18 (by decide) (hts (.fieldLink RX14 42 "HighRecipesModel" "fresh" "LHighRecipesModel$Book;") (by decide +kernel)) (fun _ h9 => h9) (v := .ref (M + 25)) rfl dX14_compare_96 ?_
      refine lv_dup hx hb dX14_compare_99 rfl ?_
      refine q_getN hx hb hts hown hA hW iX13 rO_25 rfl 13 (by decide) (va_Nw.use rfl (hA.2.2.2.1 ("HighRecipesModel", 194, "HighRecipesModel$Book", "compares", "I", "HighRecipesModel") (by decide +kernel))) (fun _ h9 => h9) (v := .int (nI cc_49)) (congrArg (fun z => some (Value.int z)) Q_49.1.1.2.2.2.2.1) dX14_compare_100 ?_
      refine lv_iconst (v := 1) hx hb dX14_compare_103 (by decide) ?_
      refine lv_iadd hx hb dX14_compare_104 ?_
      refine q_putN hx hb hts hown hA hW hS iX13 tyX13 tyX13_ok nmX13 rO_25 rfl 13 (by decide) (va_Nw.use rfl (hA.2.2.2.1 ("HighRecipesModel", 194, "HighRecipesModel$Book", "compares", "I", "HighRecipesModel") (by decide +kernel))) (fun _ h9 => h9) rfl rfl rfl (Nat.le_of_ble_eq_true rfl) dX14_compare_105 (fun H locs hW hS => ?_)
      rw [show (nI cc_49) + 1 = nI (cc_49 + 1) from nI_1 cc_49] at hW
      have hW := q_s25 133 (nI (cc_49 + 1)) hW rfl (by decide)
      have hcc9 : cc_49 = cc := (ec_49.1.trans (ec_1.1.trans rfl))
      obtain ⟨R_108, hR_108⟩ : ∃ z, z = rp (rp (rp (rp R_49 36 (upd (R_49 36) cc_49 (nI (m_kd (K tk_1))))) 37 (upd (R_49 37) cc_49 r_1)) 38 (upd (R_49 38) cc_49 r_49)) 133 (fun _ => nI (cc_49 + 1)) := ⟨_, rfl⟩
      rw [← hR_108] at hW
      have Q_108 : r_Q r R_108 K T (p_val K Wd pN pn 4 (p_cs K (p_val K Wd pN pn 4 u))) tk nd cc ac tk_49 nd_49 (cc_49 + 1) ac_49 := by rw [hR_108]; exact (Q_49.cmp (by omega) hcc)
      have T_108 := Q_108.tok hTK
      have num_108 := Q_108.2.2
      unfold r_num at num_108
      have bt_108 := Q_108.1.1.2.1
      have bn_108 := Q_108.1.1.2.2.2.1
      have bc_108 := Q_108.1.1.2.2.2.2.2.1
      have ba_108 := Q_108.1.1.2.2.2.2.2.2.2
      have Gm1_108 : r_G R_1 R_108 nd_1 cc_1 ac_1 := by rw [hR_108]; exact (r_G.upS (r_G.upA (r_G.upA (r_G.upA Gm1_49 (by omega)) (by omega)) (by omega)) (by decide))
      have Gm49_108 : r_G R_49 R_108 nd_49 cc_49 ac_49 := by rw [hR_108]; exact (r_G.upS (r_G.upA (r_G.upA (r_G.upA Gm49_49 (by omega)) (by omega)) (by omega)) (by decide))
      have z36_108 : R_108 36 cc = nI (m_kd (K tk_1)) := by rw [← hcc9, hR_108]; exact cmp_rows.1
      have z37_108 : R_108 37 cc = r_1 := by rw [← hcc9, hR_108]; exact cmp_rows.2.1
      have z38_108 : R_108 38 cc = r_49 := by rw [← hcc9, hR_108]; exact cmp_rows.2.2
      exact q_vret hx hb hr hlocks hW hS ⟨_, _, _, _, _, Q_108, (show R_108 107 0 = r 107 0 from by rw [hR_108]; exact (e7_49.trans (show R_48 107 0 = r 107 0 from by rw [hR_48]; exact (e7_1.trans rfl)))), (fun z => (show R_108 108 0 = r 108 0 from by rw [hR_108]; exact (fun z => (e8_49 z).trans ((fun z => (show R_48 108 0 = r 108 0 from by rw [hR_48]; exact (fun z => (e8_1 z).trans rfl) (le_48 z))) (le_49 z))) z)), (ec_49.2.trans (ec_1.2.trans rfl)), (fun h1 h2 => by obtain ⟨a1, i1, m1⟩ := ex_1 (le_48 (le_49 h1)) (er_48 (er_49 h2)); obtain ⟨a2, i2, m2⟩ := ex_49 h1 h2; exact ⟨by omega, by omega, (p_val K Wd pN pn 4 u).2.1, a1, a2, _, _, (by rw [w9.2.1, ← w9.1]; exact z36_108), (b_csign_lt ev).2.1, (b_csign_lt ev).2.2, z37_108.trans i1, z38_108.trans i2, mV_G m1 Gm1_108 (by omega), mV_G m2 Gm49_108 (by omega), fun C => rfl⟩), rfl, rfl⟩ (Nat.le_of_ble_eq_true rfl) (Nat.le_of_ble_eq_true rfl) dX14_compare_108
    · have ev : b_csign (p_val K Wd pN pn 4 u).2.1 = false := by rw [w9.2.1, ← w9.1, ← b_in_cs _ (hK41 _)]; exact b01_0 c_30
      refine lv_aload_n hx hb dX14_compare_33 rfl (lv_at hl 2 rfl) ?_
      refine q_cv (va_runV (As := []) (rest := []) ⟨hx, hb, hml, hown, hts⟩ (kX14_wrong l E (rO E f M R_1) n M R_1 K Wd T (p_val K Wd pN pn 4 u) tk_1 nd_1 cc_1 ac_1 rO_K T_1 hT hKT hK41 Q_1.1 ok_1) (cwV 0 hts gX14_compare_X14_wrong rfl rfl rfl (by decide +kernel) ⟨(Nat.le_of_ble_eq_true rfl), (Nat.le_of_ble_eq_true rfl)⟩) (q_pV hA hW hS (ci := 12) rfl rO_0) rfl rfl hl.1 rfl (lv_room (Nat.le_of_ble_eq_true rfl)) dX14_compare_34 ⟨Nat.le_of_ble_eq_true rfl, Nat.le_of_ble_eq_true rfl⟩) hS (fun f_34 n_34 H locs hp hW hS => ?_)
      obtain ⟨R_34, tk_34, nd_34, cc_34, ac_34, q_34, e7_34, e8_34, ec_34, ex_34, rfl, rfl⟩ := hp
      have G_34 : p_go K T (p_val K Wd pN pn 4 u) (p_step K false (p_val K Wd pN pn 4 u)) := (go_step hKT (fun h9 => by cases h9))
      have GG_34 := G_34 ok_1
      have ok_34 := GG_34.1
      have le_34 := GG_34.2.2.2.1
      have er_34 := GG_34.2.2.2.2
      have Q_34 := Q_1.trans q_34
      have T_34 := Q_34.tok hTK
      have num_34 := Q_34.2.2
      unfold r_num at num_34
      have bt_34 := Q_34.1.1.2.1
      have bn_34 := Q_34.1.1.2.2.2.1
      have bc_34 := Q_34.1.1.2.2.2.2.2.1
      have ba_34 := Q_34.1.1.2.2.2.2.2.2.2
      have qn_34 := q_34.2.2
      unfold r_num at qn_34
      have Gm1_34 := Gm1_1.trans q_34.2.1 (by omega) (by omega) (by omega)
      rw [rO_rO] at hW
      have hW : q_W E (rO E f M R_34) n H := hW
      exact q_vret hx hb hr hlocks hW hS ⟨_, _, _, _, _, (Q_34.cg ex_34 (show (p_val K Wd pN pn 4 (p_cs K (p_val K Wd pN pn 4 u))).1 = _ from (val_bad (cs_bad ev).2).1.trans (cs_bad ev).1) (val_bad (cs_bad ev).2).2), (e7_34.trans (e7_1.trans rfl)), (fun h1 => absurd (val_bad (cs_bad ev).2).2 h1), (ec_34.2.trans (ec_1.2.trans rfl)), (fun h1 h2 => absurd (val_bad (cs_bad ev).2).2 h1), rfl, rfl⟩ (Nat.le_of_ble_eq_true rfl) (Nat.le_of_ble_eq_true rfl) dX14_compare_37
