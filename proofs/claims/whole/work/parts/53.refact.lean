/-! an act, whole -/
theorem r_Q.beg {r r1 : q_R} {K : Nat → Nat} {T : Nat} {u : p_S} {tk nd cc fa tk1 nd1 cc1 ac1 : Nat} (h : r_Q r r1 K T (p_ci (decide (ac1 = 80)) 4 u) tk nd cc fa tk1 nd1 cc1 ac1) (hk : u.2.1 < 39) (hKT : 39 ≤ K T) : r_Q r (rp (rp r1 132 (fun _ => nI (min 80 (ac1 + 1)))) 103 (fun _ => nI (tk1 + 1))) K T (p_beg K u) tk nd cc fa (tk1 + 1) nd1 cc1 (min 80 (ac1 + 1)) := by
  obtain ⟨hP, hG, hn⟩ := h
  obtain ⟨w1, w2, w3, w4, w5, w6⟩ := hP.nw (show u.2.1 ≠ 40 by omega)
  obtain ⟨⟨a1, a2, a3, a4, a5, a6, a7, a8⟩, -⟩ := hP
  have w6 : ac1 = min 80 u.2.2.2.2.1 := w6
  have w3 : u.2.1 = K u.1 := w3
  have w2 : tk1 = u.1 := w2
  have hd : decide (ac1 = 80) = decide (80 < u.2.2.2.2.1 + 1) := by
    rw [decide_eq_decide]
    omega
  have eu : p_beg K u = p_step K true (p_ci (decide (ac1 = 80)) 4 (p_setac (p_new u) (u.2.2.2.2.1 + 1))) := by rw [hd]; rfl
  have hlt : tk1 < T := by
    rcases Nat.lt_or_ge tk1 T with h | h
    · exact h
    · have e : T = u.1 := by omega
      rw [e, ← w3] at hKT
      omega
  unfold r_num at hn
  rw [eu]
  refine ⟨⟨⟨rfl, hlt, a3, by omega, a5, by omega, rfl, by omega⟩, Or.inr ⟨w1, by rw [w2]; rfl, rfl, w4, w5, ?_⟩⟩, (hG.upS (by decide)).upS (by decide), by unfold r_num; omega⟩
  show min 80 (ac1 + 1) = min 80 (u.2.2.2.2.1 + 1)
  omega
theorem beg_ok {K : Nat → Nat} {u : p_S} (h : (p_beg K u).2.2.1 = 0) : u.2.2.2.2.1 + 1 ≤ 80 := by
  have z : (if decide (80 < u.2.2.2.2.1 + 1) = true ∧ u.2.2.1 = 0 then 4 else u.2.2.1) = 0 := h
  split at z
  · cases z
  · next hn =>
    rcases Nat.lt_or_ge 80 (u.2.2.2.2.1 + 1) with h9 | h9
    · exact absurd ⟨decide_eq_true h9, z⟩ hn
    · exact h9
theorem blk_w0 {K : Nat → Nat} {Wd pN rN : Nat → Int64} {pn rc : Nat} {s : p_S} : (p_blk K Wd pN pn rN rc 0 s).2.1 = 40 := (take_bad (step_bad rfl).2 (by decide)).2

theorem kd_no : ∀ k, k < 41 → ¬ b_act k = true → ¬ nI (m_kd k) = 3 ∧ ¬ nI (m_kd k) = 7 ∧ ¬ nI (m_kd k) = 9 ∧ b_in (nI (m_kd k)) 11 16 = false := by decide +kernel

set_option maxHeartbeats 4000000 in
set_option maxRecDepth 100000 in
theorem kX14_act_W (l : Launch) (E : q_E) (f : q_H) (n : Nat) (M : Nat) (r : q_R) (K : Nat → Nat) (Wd : Nat → Int64) (T : Nat) (u : p_S) (tk nd cc ac : Nat) (pN : Nat → Int64) (pn : Nat) (rN : Nat → Int64) (rc : Nat) (RS : Nat → q_S) (d0 : Nat)  (hm : RM E f M r) (hTK : r_T r K Wd T) (hT : T ≤ 400) (hKT : 39 ≤ K T) (hK41 : ∀ j, K j < 41) (hP : r_P r K T u tk nd cc ac) (hok : p_ok K T u) (hnm : r_nm r K Wd T 6 pn pN) (hpn : pn ≤ 8) (hpn9 : r 130 0 = nI pn) (hnr : r_nm r K Wd T 7 rc rN) (hrc : rc ≤ 6) (hrc9 : r 109 0 = nI rc) (ihB : RBLK l E RS d0) (hd6 : d0 + 1 ≤ 6) (hv7 : r 107 0 = nI (6 - d0)) (hno : ¬ b_act u.2.1 = true) (hw0 : r 104 0 = 0) : Met l yX14_act wsX14_act ({ frames := 4 * d0 + 42, cells := 0, slots := 0, locals := 100 * d0 + 1060 }) (q_P E [.ref M] f n) (q_Qi E (fun r0 f1 n1 => ∃ (r1 : q_R) (tk1 nd1 cc1 ac1 : Nat), r_Q r r1 K T (p_step K false u) tk nd cc ac tk1 nd1 cc1 ac1 ∧ r1 107 0 = r 107 0 ∧ ((p_step K false u).2.1 ≠ 40 → r1 108 0 = r 108 0) ∧ (True) ∧ (r1 104 0 = 1 ∧ nI ac = r0) ∧ rO E f M r1 = f1 ∧ n = n1)) 0 0 (q_ge E) := by
  refine Met.ofW (cc := cX14_act) (maxL := 3) (ret := (some .int)) (by decide) rfl ?_
  intro p e s m args below meth c s₁ B hml hv
  obtain ⟨rfl, hA, hW⟩ := hv
  have hx := B.exec
  have hb := B.bytes
  have hr := B.returns
  have hts := atoms_spec (ws := wsX14_act) B.pre
  have hown : s.vm.findClass RX14 = some m.cls := findClass_of_methodNamed B.named
  have hlocks := B.notSynchronized
  have hS : va_S (q_ge E) s.heap s.heap [] := va_S.rf
  have iX13 : ∀ w ∈ wsX130, w ∈ wsX14_act := by decide +kernel
  have iX14 : ∀ w ∈ wsX140, w ∈ wsX14_act := by decide +kernel
  have hl := lv_entry ([.ref M]) (n := 3) (Nat.le_of_ble_eq_true rfl)
  rw [lg_entry_eq]
  generalize (lg_sl ([.ref M]) ++ List.replicate (3 - (lg_sl ([.ref M])).length) Slot.unset).toArray = ls at hl ⊢
  have hl : lv_has ls 3 [(0, .ref M)] := hl
  have hmE := hm.eq
  rw [hm.eq] at hW
  have Q0 := r_Q.rf hP
  have htk := hP.1.2.1
  have hnd := hP.1.2.2.2.1
  have hcc := hP.1.2.2.2.2.2.1
  have hac := hP.1.2.2.2.2.2.2.2
  have hnk : ¬ b_act (K tk) = true := by have z := hP.nw0 hw0; rw [z.1, ← z.2.1]; exact hno
  refine lv_bipush (v := 80) hx hb dX14_act_0 (by decide) ?_
  refine lv_aload_n hx hb dX14_act_2 rfl (lv_at hl 0 rfl) ?_
  refine q_get hx hb hts hown hA hW iX14 rO_0 rfl 18 (by decide) (hts (.fieldLink RX14 42 "HighRecipesModel" "fresh" "LHighRecipesModel$Book;") (by decide +kernel)) (fun _ h9 => h9) (v := .ref (M + 25)) rfl dX14_act_3 ?_
  refine q_getN hx hb hts hown hA hW iX13 rO_25 rfl 4 (by decide) (va_Nw.use rfl (hA.2.2.2.1 ("HighRecipesModel", 215, "HighRecipesModel$Book", "acts", "I", "HighRecipesModel") (by decide +kernel))) (fun _ h9 => h9) (v := .int (nI ac)) (congrArg (fun z => some (Value.int z)) hP.1.2.2.2.2.2.2.1) dX14_act_6 ?_
  refine va_mmin hx hb (hml.trans hl.1.symm) hown (hts (.methodLink RX14 57 Lib.Math.min.name) (by decide +kernel)) (hts (.static Lib.Math.min.name) (by decide +kernel)) (hts (.initialized "java/lang/Math") (by decide +kernel)) (hts (.code Lib.Math.min.name Lib.Math.min.code 2 (some .int)) (by decide +kernel)) (by show 1 ≤ 4 * d0 + 42; omega) (by show 13 ≤ 100 * d0 + 1060; omega) (Nat.le_of_ble_eq_true rfl) (Nat.le_of_ble_eq_true rfl) dX14_act_9 ?_
  rw [show (if nI ac < 80 then nI ac else 80) = nI ac from (q_min_n (a := 80) (b := ac) (by decide) (by omega)).trans (by rw [Nat.min_eq_right hac])]
  refine lv_istore_n (lv' := [(1, .int (nI ac)), (0, .ref M)]) hx hb dX14_act_12 rfl hl (by decide) rfl (fun ls hl => ?_)
  refine lv_aload_n hx hb dX14_act_13 rfl (lv_at hl 1 rfl) ?_
  refine q_get hx hb hts hown hA hW iX14 rO_0 rfl 4 (by decide) (hts (.fieldLink RX14 17 "HighRecipesModel" "kind" "[I") (by decide +kernel)) (fun _ h9 => h9) (v := .ref (M + 2)) rfl dX14_act_14 ?_
  refine lv_aload_n hx hb dX14_act_17 rfl (lv_at hl 1 rfl) ?_
  refine q_get hx hb hts hown hA hW iX14 rO_0 rfl 8 (by decide) (hts (.fieldLink RX14 120 "HighRecipesModel" "token" "I") (by decide +kernel)) (fun _ h9 => h9) (v := .int (nI tk)) (congrArg (fun z => some (Value.int z)) hP.1.1) dX14_act_18 ?_
  refine q_ald hx hb hA hW (rO_2 (g := r 2) rfl) tk rfl (by omega) (by decide) (x := nI (m_kd (K tk))) (hTK.1 tk htk) dX14_act_21 ?_
  refine lv_istore_n (lv' := [(2, .int (nI (m_kd (K tk)))), (1, .int (nI ac)), (0, .ref M)]) hx hb dX14_act_22 rfl hl (by decide) rfl (fun ls hl => ?_)
  refine lv_iload_n hx hb dX14_act_23 rfl (lv_at hl 0 rfl) ?_
  refine lv_iconst (v := 3) hx hb dX14_act_24 (by decide) ?_
  refine lv_icmp_eq (tgt := 57) hx hb dX14_act_25 (by decide) (fun c_25 => False.elim ((fun h9 => (kd_no _ (hK41 tk) hnk).1 h9) c_25)) (fun c_25 => ?_)
  refine lv_iload_n hx hb dX14_act_28 rfl (lv_at hl 0 rfl) ?_
  refine lv_bipush (v := 7) hx hb dX14_act_29 (by decide) ?_
  refine lv_icmp_eq (tgt := 57) hx hb dX14_act_31 (by decide) (fun c_31 => False.elim ((fun h9 => (kd_no _ (hK41 tk) hnk).2.1 h9) c_31)) (fun c_31 => ?_)
  refine lv_iload_n hx hb dX14_act_34 rfl (lv_at hl 0 rfl) ?_
  refine lv_bipush (v := 9) hx hb dX14_act_35 (by decide) ?_
  refine lv_icmp_eq (tgt := 57) hx hb dX14_act_37 (by decide) (fun c_37 => False.elim ((fun h9 => (kd_no _ (hK41 tk) hnk).2.2.1 h9) c_37)) (fun c_37 => ?_)
  refine lv_iload_n hx hb dX14_act_40 rfl (lv_at hl 0 rfl) ?_
  refine lv_bipush (v := 11) hx hb dX14_act_41 (by decide) ?_
  refine lv_bipush (v := 16) hx hb dX14_act_43 (by decide) ?_
  refine q_ci (va_runS (As := [.int (nI (m_kd (K tk))), .int 11, .int 16]) (rest := []) ⟨hx, hb, hml, hown, hts⟩ (kX14_isIn l E (rO E f M r) n (nI (m_kd (K tk))) 11 16) (va_cwS 3 hts gX14_act_X14_isIn rfl rfl rfl (by decide +kernel) ⟨(by show 0 + 1 ≤ 4 * d0 + 42; omega), (by show 8 + (3 + 11) + 0 ≤ 100 * d0 + 1060; omega)⟩) (q_pS hA hW hS) rfl rfl hl.1 rfl (lv_room (Nat.le_of_ble_eq_true rfl)) dX14_act_45 ⟨Nat.le_of_ble_eq_true rfl, Nat.le_of_ble_eq_true rfl⟩) hS (fun r_45 f_45 n_45 H locs hp hW hS => ?_)
  obtain ⟨rfl, rfl, rfl⟩ := hp
  have hW : q_W E (rO E f M r) n H := hW
  refine lv_if_ne (tgt := 57) hx hb dX14_act_48 (by decide) (fun c_48 => False.elim ((fun h9 => h9 (by rw [(kd_no _ (hK41 tk) hnk).2.2.2]; rfl)) c_48)) (fun c_48 => ?_)
  refine lv_aload_n hx hb dX14_act_51 rfl (lv_at hl 2 rfl) ?_
  refine q_cv (va_runV (As := []) (rest := []) ⟨hx, hb, hml, hown, hts⟩ (kX14_wrong l E (rO E f M r) n M r K Wd T u tk nd cc ac rO_K hTK hT hKT hK41 Q0.1 hok) (cwV 0 hts gX14_act_X14_wrong rfl rfl rfl (by decide +kernel) ⟨(by show 0 + 1 ≤ 4 * d0 + 42; omega), (by show 8 + (1 + 11) + 0 ≤ 100 * d0 + 1060; omega)⟩) (q_pV hA hW hS (ci := 12) rfl rO_0) rfl rfl hl.1 rfl (lv_room (Nat.le_of_ble_eq_true rfl)) dX14_act_52 ⟨Nat.le_of_ble_eq_true rfl, Nat.le_of_ble_eq_true rfl⟩) hS (fun f_52 n_52 H locs hp hW hS => ?_)
  obtain ⟨R_52, tk_52, nd_52, cc_52, ac_52, q_52, e7_52, e8_52, ec_52, ex_52, rfl, rfl⟩ := hp
  have G_52 : p_go K T u (p_step K false u) := (go_step hKT (fun h9 => by cases h9))
  have GG_52 := G_52 hok
  have ok_52 := GG_52.1
  have le_52 := GG_52.2.2.2.1
  have er_52 := GG_52.2.2.2.2
  have Q_52 := Q0.trans q_52
  have T_52 := Q_52.tok hTK
  have num_52 := Q_52.2.2
  unfold r_num at num_52
  have bt_52 := Q_52.1.1.2.1
  have bn_52 := Q_52.1.1.2.2.2.1
  have bc_52 := Q_52.1.1.2.2.2.2.2.1
  have ba_52 := Q_52.1.1.2.2.2.2.2.2.2
  have qn_52 := q_52.2.2
  unfold r_num at qn_52
  rw [rO_rO] at hW
  have hW : q_W E (rO E f M R_52) n H := hW
  refine lv_iload_n hx hb dX14_act_55 rfl (lv_at hl 1 rfl) ?_
  exact q_iret hx hb hr hlocks hW hS ⟨_, _, _, _, _, Q_52, (e7_52.trans rfl), (fun h1 => absurd (step_bad rfl).2 h1), trivial, ⟨ex_52, rfl⟩, rfl, rfl⟩ (Nat.le_of_ble_eq_true rfl) (Nat.le_of_ble_eq_true rfl) dX14_act_56

set_option maxHeartbeats 4000000 in
set_option maxRecDepth 100000 in
theorem kX14_act_3 (l : Launch) (E : q_E) (f : q_H) (n : Nat) (M : Nat) (r : q_R) (K : Nat → Nat) (Wd : Nat → Int64) (T : Nat) (u : p_S) (tk nd cc ac : Nat) (pN : Nat → Int64) (pn : Nat) (rN : Nat → Int64) (rc : Nat) (RS : Nat → q_S) (d0 : Nat)  (hm : RM E f M r) (hTK : r_T r K Wd T) (hT : T ≤ 400) (hKT : 39 ≤ K T) (hK41 : ∀ j, K j < 41) (hP : r_P r K T u tk nd cc ac) (hok : p_ok K T u) (hnm : r_nm r K Wd T 6 pn pN) (hpn : pn ≤ 8) (hpn9 : r 130 0 = nI pn) (hnr : r_nm r K Wd T 7 rc rN) (hrc : rc ≤ 6) (hrc9 : r 109 0 = nI rc) (hv8 : r 108 0 = nI (4 - 4)) (ihB : RBLK l E RS d0) (hd6 : d0 + 1 ≤ 6) (hv7 : r 107 0 = nI (6 - d0)) (hw : u.2.1 = 3) : Met l yX14_act wsX14_act ({ frames := 4 * d0 + 42, cells := 0, slots := 0, locals := 100 * d0 + 1060 }) (q_P E [.ref M] f n) (q_Qi E (fun r0 f1 n1 => ∃ (r1 : q_R) (tk1 nd1 cc1 ac1 : Nat), r_Q r r1 K T ((p_act K Wd pN pn rN rc (p_blk K Wd pN pn rN rc d0) u)) tk nd cc ac tk1 nd1 cc1 ac1 ∧ r1 107 0 = r 107 0 ∧ (((p_act K Wd pN pn rN rc (p_blk K Wd pN pn rN rc d0) u)).2.1 ≠ 40 → r1 108 0 = r 108 0) ∧ (True) ∧ (nI ac = r0 ∧ ((p_act K Wd pN pn rN rc (p_blk K Wd pN pn rN rc d0) u).2.1 ≠ 40 → (p_act K Wd pN pn rN rc (p_blk K Wd pN pn rN rc d0) u).2.2.1 = 0 → ac < 80 ∧ ac + 1 ≤ ac1 ∧ r1 35 ac = -1 ∧ mA (bR r1 25) pn nd1 cc1 ac1 RS rc (d0 + 1) ac (p_actS K Wd pN pn rN rc RS (p_blk K Wd pN pn rN rc d0) (p_blkS K Wd pN pn rN rc RS d0) u))) ∧ rO E f M r1 = f1 ∧ n = n1)) 0 0 (q_ge E) := by
  refine Met.ofW (cc := cX14_act) (maxL := 3) (ret := (some .int)) (by decide) rfl ?_
  intro p e s m args below meth c s₁ B hml hv
  obtain ⟨rfl, hA, hW⟩ := hv
  have hx := B.exec
  have hb := B.bytes
  have hr := B.returns
  have hts := atoms_spec (ws := wsX14_act) B.pre
  have hown : s.vm.findClass RX14 = some m.cls := findClass_of_methodNamed B.named
  have hlocks := B.notSynchronized
  have hS : va_S (q_ge E) s.heap s.heap [] := va_S.rf
  have iX13 : ∀ w ∈ wsX130, w ∈ wsX14_act := by decide +kernel
  have iX14 : ∀ w ∈ wsX140, w ∈ wsX14_act := by decide +kernel
  have hl := lv_entry ([.ref M]) (n := 3) (Nat.le_of_ble_eq_true rfl)
  rw [lg_entry_eq]
  generalize (lg_sl ([.ref M]) ++ List.replicate (3 - (lg_sl ([.ref M])).length) Slot.unset).toArray = ls at hl ⊢
  have hl : lv_has ls 3 [(0, .ref M)] := hl
  have hmE := hm.eq
  rw [hm.eq] at hW
  have Q0 := r_Q.rf hP
  have htk := hP.1.2.1
  have hnd := hP.1.2.2.2.1
  have hcc := hP.1.2.2.2.2.2.1
  have hac := hP.1.2.2.2.2.2.2.2
  have hnw := hP.nw (show u.2.1 ≠ 40 by omega)
  have h39 : u.2.1 < 39 := by omega
  refine lv_bipush (v := 80) hx hb dX14_act_0 (by decide) ?_
  refine lv_aload_n hx hb dX14_act_2 rfl (lv_at hl 0 rfl) ?_
  refine q_get hx hb hts hown hA hW iX14 rO_0 rfl 18 (by decide) (hts (.fieldLink RX14 42 "HighRecipesModel" "fresh" "LHighRecipesModel$Book;") (by decide +kernel)) (fun _ h9 => h9) (v := .ref (M + 25)) rfl dX14_act_3 ?_
  refine q_getN hx hb hts hown hA hW iX13 rO_25 rfl 4 (by decide) (va_Nw.use rfl (hA.2.2.2.1 ("HighRecipesModel", 215, "HighRecipesModel$Book", "acts", "I", "HighRecipesModel") (by decide +kernel))) (fun _ h9 => h9) (v := .int (nI ac)) (congrArg (fun z => some (Value.int z)) hP.1.2.2.2.2.2.2.1) dX14_act_6 ?_
  refine va_mmin hx hb (hml.trans hl.1.symm) hown (hts (.methodLink RX14 57 Lib.Math.min.name) (by decide +kernel)) (hts (.static Lib.Math.min.name) (by decide +kernel)) (hts (.initialized "java/lang/Math") (by decide +kernel)) (hts (.code Lib.Math.min.name Lib.Math.min.code 2 (some .int)) (by decide +kernel)) (by show 1 ≤ 4 * d0 + 42; omega) (by show 13 ≤ 100 * d0 + 1060; omega) (Nat.le_of_ble_eq_true rfl) (Nat.le_of_ble_eq_true rfl) dX14_act_9 ?_
  rw [show (if nI ac < 80 then nI ac else 80) = nI ac from (q_min_n (a := 80) (b := ac) (by decide) (by omega)).trans (by rw [Nat.min_eq_right hac])]
  refine lv_istore_n (lv' := [(1, .int (nI ac)), (0, .ref M)]) hx hb dX14_act_12 rfl hl (by decide) rfl (fun ls hl => ?_)
  refine lv_aload_n hx hb dX14_act_13 rfl (lv_at hl 1 rfl) ?_
  refine q_get hx hb hts hown hA hW iX14 rO_0 rfl 4 (by decide) (hts (.fieldLink RX14 17 "HighRecipesModel" "kind" "[I") (by decide +kernel)) (fun _ h9 => h9) (v := .ref (M + 2)) rfl dX14_act_14 ?_
  refine lv_aload_n hx hb dX14_act_17 rfl (lv_at hl 1 rfl) ?_
  refine q_get hx hb hts hown hA hW iX14 rO_0 rfl 8 (by decide) (hts (.fieldLink RX14 120 "HighRecipesModel" "token" "I") (by decide +kernel)) (fun _ h9 => h9) (v := .int (nI tk)) (congrArg (fun z => some (Value.int z)) hP.1.1) dX14_act_18 ?_
  refine q_ald hx hb hA hW (rO_2 (g := r 2) rfl) tk rfl (by omega) (by decide) (x := 3) (by rw [hTK.1 tk htk, hnw.2.1, ← hnw.2.2.1, hw]; rfl) dX14_act_21 ?_
  refine lv_istore_n (lv' := [(2, .int 3), (1, .int (nI ac)), (0, .ref M)]) hx hb dX14_act_22 rfl hl (by decide) rfl (fun ls hl => ?_)
  refine lv_iload_n hx hb dX14_act_23 rfl (lv_at hl 0 rfl) ?_
  refine lv_iconst (v := 3) hx hb dX14_act_24 (by decide) ?_
  refine lv_icmp_eq (tgt := 57) hx hb dX14_act_25 (by decide) (fun c_25 => ?_) (fun c_25 => False.elim ((fun h9 => h9 rfl) c_25))
  refine lv_iload_n hx hb dX14_act_57 rfl (lv_at hl 1 rfl) ?_
  refine lv_bipush (v := 80) hx hb dX14_act_58 (by decide) ?_
  refine lv_icmp_ne (tgt := 68) hx hb dX14_act_60 (by decide) (fun c_60 => ?_) (fun c_60 => ?_)
  · have e80 : ¬ ac = 80 := fun h9 => c_60 (by rw [h9]; rfl)
    refine lv_aload_n hx hb dX14_act_68 rfl (lv_at hl 2 rfl) ?_
    refine q_get hx hb hts hown hA hW iX14 rO_0 rfl 18 (by decide) (hts (.fieldLink RX14 42 "HighRecipesModel" "fresh" "LHighRecipesModel$Book;") (by decide +kernel)) (fun _ h9 => h9) (v := .ref (M + 25)) rfl dX14_act_69 ?_
    refine lv_bipush (v := 80) hx hb dX14_act_72 (by decide) ?_
    refine lv_iload_n hx hb dX14_act_74 rfl (lv_at hl 1 rfl) ?_
    refine lv_iconst (v := 1) hx hb dX14_act_75 (by decide) ?_
    refine lv_iadd hx hb dX14_act_76 ?_
    rw [nI_1]
    refine va_mmin hx hb (hml.trans hl.1.symm) hown (hts (.methodLink RX14 57 Lib.Math.min.name) (by decide +kernel)) (hts (.static Lib.Math.min.name) (by decide +kernel)) (hts (.initialized "java/lang/Math") (by decide +kernel)) (hts (.code Lib.Math.min.name Lib.Math.min.code 2 (some .int)) (by decide +kernel)) (by show 1 ≤ 4 * d0 + 42; omega) (by show 14 ≤ 100 * d0 + 1060; omega) (Nat.le_of_ble_eq_true rfl) (Nat.le_of_ble_eq_true rfl) dX14_act_77 ?_
    rw [show (if nI (ac + 1) < 80 then nI (ac + 1) else 80) = nI (min 80 (ac + 1)) from q_min_n (a := 80) (b := ac + 1) (by decide) (by omega)]
    refine q_putN hx hb hts hown hA hW hS iX13 tyX13 tyX13_ok nmX13 rO_25 rfl 4 (by decide) (va_Nw.use rfl (hA.2.2.2.1 ("HighRecipesModel", 215, "HighRecipesModel$Book", "acts", "I", "HighRecipesModel") (by decide +kernel))) (fun _ h9 => h9) rfl rfl rfl (Nat.le_of_ble_eq_true rfl) dX14_act_80 (fun H locs hW hS => ?_)
    have hW := q_s25 132 (nI (min 80 (ac + 1))) hW rfl (by decide)
    refine lv_aload_n hx hb dX14_act_83 rfl (lv_at hl 2 rfl) ?_
    refine lv_dup hx hb dX14_act_84 rfl ?_
    refine q_get hx hb hts hown hA hW iX14 rO_0 rfl 8 (by decide) (hts (.fieldLink RX14 120 "HighRecipesModel" "token" "I") (by decide +kernel)) (fun _ h9 => h9) (v := .int (nI tk)) (congrArg (fun z => some (Value.int z)) hP.1.1) dX14_act_85 ?_
    refine lv_iconst (v := 1) hx hb dX14_act_88 (by decide) ?_
    refine lv_iadd hx hb dX14_act_89 ?_
    refine q_put hx hb hts hown hA hW hS iX14 tyX14 tyX14_ok nmX14 rO_0 rfl 8 (by decide) (hts (.fieldLink RX14 120 "HighRecipesModel" "token" "I") (by decide +kernel)) (fun _ h9 => h9) rfl rfl rfl (Nat.le_of_ble_eq_true rfl) dX14_act_90 (fun H locs hW hS => ?_)
    rw [show (nI tk) + 1 = nI (tk + 1) from nI_1 tk] at hW
    have hW := q_s0 103 (nI (tk + 1)) hW rfl (by decide)
    obtain ⟨R_93, hR_93⟩ : ∃ z, z = rp (rp r 132 (fun _ => nI (min 80 (ac + 1)))) 103 (fun _ => nI (tk + 1)) := ⟨_, rfl⟩
    rw [← hR_93] at hW
    have Q_93 : r_Q r R_93 K T (p_beg K u) tk nd cc ac (tk + 1) nd cc (min 80 (ac + 1)) := by rw [hR_93]; exact (r_Q.beg (by rw [decide_eq_false e80]; exact Q0) h39 hKT)
    have T_93 := Q_93.tok hTK
    have num_93 := Q_93.2.2
    unfold r_num at num_93
    have bt_93 := Q_93.1.1.2.1
    have bn_93 := Q_93.1.1.2.2.2.1
    have bc_93 := Q_93.1.1.2.2.2.2.2.1
    have ba_93 := Q_93.1.1.2.2.2.2.2.2.2
    have G_93 : p_go K T u (p_beg K u) := (go_beg hKT h39)
    have GG_93 := G_93 hok
    have ok_93 := GG_93.1
    have le_93 := GG_93.2.2.2.1
    have er_93 := GG_93.2.2.2.2
    have h8_93 : (p_beg K u).2.1 ≠ 40 → R_93 108 0 = nI (4 - 4) := fun z => by rw [hR_93]; exact (fun _ => hv8) (le_93 z)
    refine lv_aload_n hx hb dX14_act_93 rfl (lv_at hl 2 rfl) ?_
    refine q_get hx hb hts hown hA hW iX14 rO_0 rfl 18 (by decide) (hts (.fieldLink RX14 42 "HighRecipesModel" "fresh" "LHighRecipesModel$Book;") (by decide +kernel)) (fun _ h9 => h9) (v := .ref (M + 25)) rfl dX14_act_94 ?_
    refine q_getN hx hb hts hown hA hW iX13 rO_25 rfl 5 (by decide) (va_Nw.use rfl (hA.2.2.2.1 ("HighRecipesModel", 218, "HighRecipesModel$Book", "does", "[I", "HighRecipesModel") (by decide +kernel))) (fun _ h9 => h9) (v := .ref (M + 28)) rfl dX14_act_97 ?_
    refine lv_iload_n hx hb dX14_act_100 rfl (lv_at hl 1 rfl) ?_
    refine lv_iload_n hx hb dX14_act_101 rfl (lv_at hl 0 rfl) ?_
    refine q_ast hx hb hA hW hS (rO_28 (g := R_93 28) rfl) ac rfl (by omega) (by decide) dX14_act_102 (fun H locs hW hS => ?_)
    have hW := q_sa 28 hW rfl rfl
    refine lv_aload_n hx hb dX14_act_103 rfl (lv_at hl 2 rfl) ?_
    refine q_get hx hb hts hown hA hW iX14 rO_0 rfl 18 (by decide) (hts (.fieldLink RX14 42 "HighRecipesModel" "fresh" "LHighRecipesModel$Book;") (by decide +kernel)) (fun _ h9 => h9) (v := .ref (M + 25)) rfl dX14_act_104 ?_
    refine q_getN hx hb hts hown hA hW iX13 rO_25 rfl 12 (by decide) (va_Nw.use rfl (hA.2.2.2.1 ("HighRecipesModel", 212, "HighRecipesModel$Book", "next", "[I", "HighRecipesModel") (by decide +kernel))) (fun _ h9 => h9) (v := .ref (M + 35)) rfl dX14_act_107 ?_
    refine lv_iload_n hx hb dX14_act_110 rfl (lv_at hl 1 rfl) ?_
    refine lv_iconst (v := (-1)) hx hb dX14_act_111 (by decide) ?_
    refine q_ast hx hb hA hW hS (rO_35 (g := R_93 35) rfl) ac rfl (by omega) (by decide) dX14_act_112 (fun H locs hW hS => ?_)
    have hW := q_sa 35 hW rfl rfl
    refine lv_aload_n hx hb dX14_act_113 rfl (lv_at hl 2 rfl) ?_
    refine q_get hx hb hts hown hA hW iX14 rO_0 rfl 18 (by decide) (hts (.fieldLink RX14 42 "HighRecipesModel" "fresh" "LHighRecipesModel$Book;") (by decide +kernel)) (fun _ h9 => h9) (v := .ref (M + 25)) rfl dX14_act_114 ?_
    refine q_getN hx hb hts hown hA hW iX13 rO_25 rfl 10 (by decide) (va_Nw.use rfl (hA.2.2.2.1 ("HighRecipesModel", 221, "HighRecipesModel$Book", "block", "[I", "HighRecipesModel") (by decide +kernel))) (fun _ h9 => h9) (v := .ref (M + 33)) rfl dX14_act_117 ?_
    refine lv_iload_n hx hb dX14_act_120 rfl (lv_at hl 1 rfl) ?_
    refine lv_iconst (v := (-1)) hx hb dX14_act_121 (by decide) ?_
    refine q_ast hx hb hA hW hS (rO_33 (g := R_93 33) rfl) ac rfl (by omega) (by decide) dX14_act_122 (fun H locs hW hS => ?_)
    have hW := q_sa 33 hW rfl rfl
    refine lv_aload_n hx hb dX14_act_123 rfl (lv_at hl 2 rfl) ?_
    refine q_get hx hb hts hown hA hW iX14 rO_0 rfl 18 (by decide) (hts (.fieldLink RX14 42 "HighRecipesModel" "fresh" "LHighRecipesModel$Book;") (by decide +kernel)) (fun _ h9 => h9) (v := .ref (M + 25)) rfl dX14_act_124 ?_
    refine q_getN hx hb hts hown hA hW iX13 rO_25 rfl 11 (by decide) (va_Nw.use rfl (hA.2.2.2.1 ("HighRecipesModel", 224, "HighRecipesModel$Book", "other", "[I", "HighRecipesModel") (by decide +kernel))) (fun _ h9 => h9) (v := .ref (M + 34)) rfl dX14_act_127 ?_
    refine lv_iload_n hx hb dX14_act_130 rfl (lv_at hl 1 rfl) ?_
    refine lv_iconst (v := (-1)) hx hb dX14_act_131 (by decide) ?_
    refine q_ast hx hb hA hW hS (rO_34 (g := R_93 34) rfl) ac rfl (by omega) (by decide) dX14_act_132 (fun H locs hW hS => ?_)
    have hW := q_sa 34 hW rfl rfl
    obtain ⟨R_133, hR_133⟩ : ∃ z, z = rp (rp (rp (rp R_93 28 (upd (R_93 28) ac 3)) 35 (upd (R_93 35) ac (-1))) 33 (upd (R_93 33) ac (-1))) 34 (upd (R_93 34) ac (-1)) := ⟨_, rfl⟩
    rw [← hR_133] at hW
    have Q_133 : r_Q r R_133 K T (p_beg K u) tk nd cc ac (tk + 1) nd cc (min 80 (ac + 1)) := by rw [hR_133]; exact ((((Q_93.st (by decide) (by omega)).st (by decide) (by omega)).st (by decide) (by omega)).st (by decide) (by omega))
    have T_133 := Q_133.tok hTK
    have num_133 := Q_133.2.2
    unfold r_num at num_133
    have bt_133 := Q_133.1.1.2.1
    have bn_133 := Q_133.1.1.2.2.2.1
    have bc_133 := Q_133.1.1.2.2.2.2.2.1
    have ba_133 := Q_133.1.1.2.2.2.2.2.2.2
    have y28_133 : True → R_133 28 ac = 3 := fun _ => by rw [hR_133]; exact st_row (r := R_93) (j := 28) (q0 := ac) (x := 3)
    have y35_133 : True → R_133 35 ac = -1 := fun _ => by rw [hR_133]; exact st_row (r := R_93) (j := 35) (q0 := ac) (x := -1)
    have y33_133 : True → R_133 33 ac = -1 := fun _ => by rw [hR_133]; exact st_row (r := R_93) (j := 33) (q0 := ac) (x := -1)
    have y34_133 : True → R_133 34 ac = -1 := fun _ => by rw [hR_133]; exact st_row (r := R_93) (j := 34) (q0 := ac) (x := -1)
    have h8_133 : (p_beg K u).2.1 ≠ 40 → R_133 108 0 = nI (4 - 4) := fun z => by rw [hR_133]; exact h8_93 z
    refine lv_iload_n hx hb dX14_act_133 rfl (lv_at hl 0 rfl) ?_
    refine lv_bipush (v := 15) hx hb dX14_act_134 (by decide) ?_
    refine lv_icmp_ne (tgt := 147) hx hb dX14_act_136 (by decide) (fun c_136 => ?_) (fun c_136 => False.elim ((fun h9 => absurd h9 (by decide)) c_136))
    refine lv_iload_n hx hb dX14_act_147 rfl (lv_at hl 0 rfl) ?_
    refine lv_bipush (v := 16) hx hb dX14_act_148 (by decide) ?_
    refine lv_icmp_ne (tgt := 161) hx hb dX14_act_150 (by decide) (fun c_150 => ?_) (fun c_150 => False.elim ((fun h9 => absurd h9 (by decide)) c_150))
    refine lv_aload_n hx hb dX14_act_161 rfl (lv_at hl 2 rfl) ?_
    refine lv_iload_n hx hb dX14_act_162 rfl (lv_at hl 1 rfl) ?_
    refine lv_iload_n hx hb dX14_act_163 rfl (lv_at hl 0 rfl) ?_
    refine q_cv (va_runV (As := [.int (nI ac), .int 3]) (rest := []) ⟨hx, hb, hml, hown, hts⟩ (kX14_plain_3 l E (rO E f M R_133) n M R_133 K Wd T (p_beg K u) (tk + 1) nd cc (min 80 (ac + 1)) pN pn rN rc ac rO_K T_133 hT hKT hK41 Q_133.1 ok_93 (hnm.mv (Q_133.2.1.1 6 (by decide) (by decide) (by decide))) hpn (show R_133 130 0 = nI pn from by rw [hR_133]; exact (show R_93 130 0 = nI pn from by rw [hR_93]; exact hpn9)) (hnr.mv (Q_133.2.1.1 7 (by decide) (by decide) (by decide))) hrc (show R_133 109 0 = nI rc from by rw [hR_133]; exact (show R_93 109 0 = nI rc from by rw [hR_93]; exact hrc9)) (show R_133 108 0 = nI (4 - 4) from by rw [hR_133]; exact (show R_93 108 0 = nI (4 - 4) from by rw [hR_93]; exact hv8)) (by omega)) (cwV 2 hts gX14_act_X14_plain rfl rfl rfl (by decide +kernel) ⟨(by show 29 + 1 ≤ 4 * d0 + 42; omega), (by show 8 + (3 + 11) + 721 ≤ 100 * d0 + 1060; omega)⟩) (q_pV hA hW hS (ci := 12) rfl rO_0) rfl rfl hl.1 rfl (lv_room (Nat.le_of_ble_eq_true rfl)) dX14_act_164 ⟨Nat.le_of_ble_eq_true rfl, Nat.le_of_ble_eq_true rfl⟩) hS (fun f_164 n_164 H locs hp hW hS => ?_)
    obtain ⟨R_164, tk_164, nd_164, cc_164, ac_164, q_164, e7_164, e8_164, ec_164, ex_164, rfl, rfl⟩ := hp
    have G_164 : p_go K T (p_beg K u) (p_take K 29 (p_known K Wd pN pn (p_what K (p_val K Wd pN pn 4 (p_beg K u))))) := ((((go_val0 hKT 4 _).trans (go_what hKT)).trans (go_known hKT)).trans (go_take hKT (by decide)))
    have GG_164 := G_164 ok_93
    have ok_164 := GG_164.1
    have le_164 := GG_164.2.2.2.1
    have er_164 := GG_164.2.2.2.2
    have Q_164 := Q_133.trans9 q_164 (by omega)
    have T_164 := Q_164.tok hTK
    have num_164 := Q_164.2.2
    unfold r_num at num_164
    have bt_164 := Q_164.1.1.2.1
    have bn_164 := Q_164.1.1.2.2.2.1
    have bc_164 := Q_164.1.1.2.2.2.2.2.1
    have ba_164 := Q_164.1.1.2.2.2.2.2.2.2
    have qn_164 := q_164.2.2
    unfold r_num at qn_164
    have h8_164 : (p_take K 29 (p_known K Wd pN pn (p_what K (p_val K Wd pN pn 4 (p_beg K u))))).2.1 ≠ 40 → R_164 108 0 = nI (4 - 4) := fun z => (e8_164 z).trans (h8_133 (le_164 z))
    rw [rO_rO] at hW
    have hW : q_W E (rO E f M R_164) n H := hW
    have eA : p_act K Wd pN pn rN rc (p_blk K Wd pN pn rN rc d0) u = p_take K 29 (p_known K Wd pN pn (p_what K (p_val K Wd pN pn 4 (p_beg K u)))) := by unfold p_act; rw [hw]; rfl
    have eS : p_actS K Wd pN pn rN rc RS (p_blk K Wd pN pn rN rc d0) (p_blkS K Wd pN pn rN rc RS d0) u = k_pour pn (ix pN pn (Wd (p_what K (p_val K Wd pN pn 4 (p_beg K u))).1)).toNatClampNeg (if (p_val K Wd pN pn 4 (p_beg K u)).2.1 = 5 then 1 else 0) (p_valD K Wd pN pn 4 (p_beg K u)) := by unfold p_actS; rw [hw]; rfl
    have EX : (p_act K Wd pN pn rN rc (p_blk K Wd pN pn rN rc d0) u).2.1 ≠ 40 → (p_act K Wd pN pn rN rc (p_blk K Wd pN pn rN rc d0) u).2.2.1 = 0 → ac < 80 ∧ ac + 1 ≤ ac_164 ∧ R_164 35 ac = -1 ∧ mA (bR R_164 25) pn nd_164 cc_164 ac_164 RS rc (d0 + 1) ac (p_actS K Wd pN pn rN rc RS (p_blk K Wd pN pn rN rc d0) (p_blkS K Wd pN pn rN rc RS d0) u) := by
      intro h1 h2
      rw [eA] at h1 h2
      have k1 := le_164 h1
      have hb9 := beg_ok (er_164 h2)
      have hac8 : ac < 80 := by have z := hnw.2.2.2.2.2; rw [z]; exact Nat.lt_of_le_of_lt (Nat.min_le_right _ _) hb9
      have h0 : ac < min 80 (ac + 1) := Nat.lt_min.mpr ⟨hac8, Nat.lt_succ_self _⟩
      have rr := ex_164.1 h0
      have mm := ex_164.2 h0 h1 h2
      have y35 := rr.trans (y35_133 trivial)
      refine ⟨hac8, by omega, y35, by omega, ?_⟩
      rw [eS]
      obtain ⟨i, x, m1, m2, m3, m4, m5, m6⟩ := mm
      by_cases e5 : (p_val K Wd pN pn 4 (p_beg K u)).2.1 = 5
      · rw [if_pos e5] at m6 ⊢
        exact Or.inr (Or.inl (⟨m6, i, x, _, m1, m3, m4, m5, by rw [m2, nI_clamp (by omega)]⟩))
      · rw [if_neg e5] at m6 ⊢
        exact Or.inl (⟨m6, i, x, _, m1, m3, m4, m5, by rw [m2, nI_clamp (by omega)]⟩)
    refine lv_iload_n hx hb dX14_act_167 rfl (lv_at hl 1 rfl) ?_
    exact q_iret hx hb hr hlocks hW hS ⟨_, _, _, _, _, (by rw [eA]; exact Q_164), (e7_164.trans (show R_133 107 0 = r 107 0 from by rw [hR_133]; exact (show R_93 107 0 = r 107 0 from by rw [hR_93]; exact rfl))), (fun h1 => by rw [eA] at h1; exact (fun z => (e8_164 z).trans (show R_133 108 0 = r 108 0 from by rw [hR_133]; exact (show R_93 108 0 = r 108 0 from by rw [hR_93]; exact rfl))) h1), trivial, ⟨rfl, EX⟩, rfl, rfl⟩ (Nat.le_of_ble_eq_true rfl) (Nat.le_of_ble_eq_true rfl) dX14_act_168
  · have e80 : ac = 80 := (nI_eq (by omega) (by decide)).1 c_60
    refine lv_aload_n hx hb dX14_act_63 rfl (lv_at hl 2 rfl) ?_
    refine lv_iconst (v := 4) hx hb dX14_act_64 (by decide) ?_
    refine q_cv (va_runV (As := [.int 4]) (rest := []) ⟨hx, hb, hml, hown, hts⟩ (kX14_mark l E (rO E f M r) n M r K Wd T u tk nd cc ac 4 rO_K hTK hT hKT hK41 Q0.1 hok) (cwV 1 hts gX14_act_X14_mark rfl rfl rfl (by decide +kernel) ⟨(by show 0 + 1 ≤ 4 * d0 + 42; omega), (by show 8 + (2 + 11) + 0 ≤ 100 * d0 + 1060; omega)⟩) (q_pV hA hW hS (ci := 12) rfl rO_0) rfl rfl hl.1 rfl (lv_room (Nat.le_of_ble_eq_true rfl)) dX14_act_65 ⟨Nat.le_of_ble_eq_true rfl, Nat.le_of_ble_eq_true rfl⟩) hS (fun f_65 n_65 H locs hp hW hS => ?_)
    obtain ⟨R_65, tk_65, nd_65, cc_65, ac_65, q_65, e7_65, e8_65, ec_65, ex_65, rfl, rfl⟩ := hp
    have G_65 : p_go K T u (p_ci true 4 u) := (go_ci (by decide) (by decide))
    have GG_65 := G_65 hok
    have ok_65 := GG_65.1
    have le_65 := GG_65.2.2.2.1
    have er_65 := GG_65.2.2.2.2
    have Q_65 := Q0.trans q_65
    have T_65 := Q_65.tok hTK
    have num_65 := Q_65.2.2
    unfold r_num at num_65
    have bt_65 := Q_65.1.1.2.1
    have bn_65 := Q_65.1.1.2.2.2.1
    have bc_65 := Q_65.1.1.2.2.2.2.2.1
    have ba_65 := Q_65.1.1.2.2.2.2.2.2.2
    have qn_65 := q_65.2.2
    unfold r_num at qn_65
    have h8_65 : (p_ci true 4 u).2.1 ≠ 40 → R_65 108 0 = nI (4 - 4) := fun z => (e8_65).trans ((fun _ => hv8) (le_65 z))
    rw [rO_rO] at hW
    have hW : q_W E (rO E f M R_65) n H := hW
    have eac9 : ac_65 = ac := (ec_65.2.trans rfl)
    rw [eac9] at Q_65
    refine lv_aload_n hx hb dX14_act_68 rfl (lv_at hl 2 rfl) ?_
    refine q_get hx hb hts hown hA hW iX14 rO_0 rfl 18 (by decide) (hts (.fieldLink RX14 42 "HighRecipesModel" "fresh" "LHighRecipesModel$Book;") (by decide +kernel)) (fun _ h9 => h9) (v := .ref (M + 25)) rfl dX14_act_69 ?_
    refine lv_bipush (v := 80) hx hb dX14_act_72 (by decide) ?_
    refine lv_iload_n hx hb dX14_act_74 rfl (lv_at hl 1 rfl) ?_
    refine lv_iconst (v := 1) hx hb dX14_act_75 (by decide) ?_
    refine lv_iadd hx hb dX14_act_76 ?_
    rw [nI_1]
    refine va_mmin hx hb (hml.trans hl.1.symm) hown (hts (.methodLink RX14 57 Lib.Math.min.name) (by decide +kernel)) (hts (.static Lib.Math.min.name) (by decide +kernel)) (hts (.initialized "java/lang/Math") (by decide +kernel)) (hts (.code Lib.Math.min.name Lib.Math.min.code 2 (some .int)) (by decide +kernel)) (by show 1 ≤ 4 * d0 + 42; omega) (by show 14 ≤ 100 * d0 + 1060; omega) (Nat.le_of_ble_eq_true rfl) (Nat.le_of_ble_eq_true rfl) dX14_act_77 ?_
    rw [show (if nI (ac + 1) < 80 then nI (ac + 1) else 80) = nI (min 80 (ac + 1)) from q_min_n (a := 80) (b := ac + 1) (by decide) (by omega)]
    refine q_putN hx hb hts hown hA hW hS iX13 tyX13 tyX13_ok nmX13 rO_25 rfl 4 (by decide) (va_Nw.use rfl (hA.2.2.2.1 ("HighRecipesModel", 215, "HighRecipesModel$Book", "acts", "I", "HighRecipesModel") (by decide +kernel))) (fun _ h9 => h9) rfl rfl rfl (Nat.le_of_ble_eq_true rfl) dX14_act_80 (fun H locs hW hS => ?_)
    have hW := q_s25 132 (nI (min 80 (ac + 1))) hW rfl (by decide)
    refine lv_aload_n hx hb dX14_act_83 rfl (lv_at hl 2 rfl) ?_
    refine lv_dup hx hb dX14_act_84 rfl ?_
    refine q_get hx hb hts hown hA hW iX14 rO_0 rfl 8 (by decide) (hts (.fieldLink RX14 120 "HighRecipesModel" "token" "I") (by decide +kernel)) (fun _ h9 => h9) (v := .int (nI tk_65)) (congrArg (fun z => some (Value.int z)) Q_65.1.1.1) dX14_act_85 ?_
    refine lv_iconst (v := 1) hx hb dX14_act_88 (by decide) ?_
    refine lv_iadd hx hb dX14_act_89 ?_
    refine q_put hx hb hts hown hA hW hS iX14 tyX14 tyX14_ok nmX14 rO_0 rfl 8 (by decide) (hts (.fieldLink RX14 120 "HighRecipesModel" "token" "I") (by decide +kernel)) (fun _ h9 => h9) rfl rfl rfl (Nat.le_of_ble_eq_true rfl) dX14_act_90 (fun H locs hW hS => ?_)
    rw [show (nI tk_65) + 1 = nI (tk_65 + 1) from nI_1 tk_65] at hW
    have hW := q_s0 103 (nI (tk_65 + 1)) hW rfl (by decide)
    obtain ⟨R_93, hR_93⟩ : ∃ z, z = rp (rp R_65 132 (fun _ => nI (min 80 (ac + 1)))) 103 (fun _ => nI (tk_65 + 1)) := ⟨_, rfl⟩
    rw [← hR_93] at hW
    have Q_93 : r_Q r R_93 K T (p_beg K u) tk nd cc ac (tk_65 + 1) nd_65 cc_65 (min 80 (ac + 1)) := by rw [hR_93]; exact (r_Q.beg (by rw [decide_eq_true e80]; exact Q_65) h39 hKT)
    have T_93 := Q_93.tok hTK
    have num_93 := Q_93.2.2
    unfold r_num at num_93
    have bt_93 := Q_93.1.1.2.1
    have bn_93 := Q_93.1.1.2.2.2.1
    have bc_93 := Q_93.1.1.2.2.2.2.2.1
    have ba_93 := Q_93.1.1.2.2.2.2.2.2.2
    have G_93 : p_go K T u (p_beg K u) := (go_beg hKT h39)
    have GG_93 := G_93 hok
    have ok_93 := GG_93.1
    have le_93 := GG_93.2.2.2.1
    have er_93 := GG_93.2.2.2.2
    have h8_93 : (p_beg K u).2.1 ≠ 40 → R_93 108 0 = nI (4 - 4) := fun z => by rw [hR_93]; exact h8_65 (le_93 z)
    refine lv_aload_n hx hb dX14_act_93 rfl (lv_at hl 2 rfl) ?_
    refine q_get hx hb hts hown hA hW iX14 rO_0 rfl 18 (by decide) (hts (.fieldLink RX14 42 "HighRecipesModel" "fresh" "LHighRecipesModel$Book;") (by decide +kernel)) (fun _ h9 => h9) (v := .ref (M + 25)) rfl dX14_act_94 ?_
    refine q_getN hx hb hts hown hA hW iX13 rO_25 rfl 5 (by decide) (va_Nw.use rfl (hA.2.2.2.1 ("HighRecipesModel", 218, "HighRecipesModel$Book", "does", "[I", "HighRecipesModel") (by decide +kernel))) (fun _ h9 => h9) (v := .ref (M + 28)) rfl dX14_act_97 ?_
    refine lv_iload_n hx hb dX14_act_100 rfl (lv_at hl 1 rfl) ?_
    refine lv_iload_n hx hb dX14_act_101 rfl (lv_at hl 0 rfl) ?_
    refine q_ast hx hb hA hW hS (rO_28 (g := R_93 28) rfl) ac rfl (by omega) (by decide) dX14_act_102 (fun H locs hW hS => ?_)
    have hW := q_sa 28 hW rfl rfl
    refine lv_aload_n hx hb dX14_act_103 rfl (lv_at hl 2 rfl) ?_
    refine q_get hx hb hts hown hA hW iX14 rO_0 rfl 18 (by decide) (hts (.fieldLink RX14 42 "HighRecipesModel" "fresh" "LHighRecipesModel$Book;") (by decide +kernel)) (fun _ h9 => h9) (v := .ref (M + 25)) rfl dX14_act_104 ?_
    refine q_getN hx hb hts hown hA hW iX13 rO_25 rfl 12 (by decide) (va_Nw.use rfl (hA.2.2.2.1 ("HighRecipesModel", 212, "HighRecipesModel$Book", "next", "[I", "HighRecipesModel") (by decide +kernel))) (fun _ h9 => h9) (v := .ref (M + 35)) rfl dX14_act_107 ?_
    refine lv_iload_n hx hb dX14_act_110 rfl (lv_at hl 1 rfl) ?_
    refine lv_iconst (v := (-1)) hx hb dX14_act_111 (by decide) ?_
    refine q_ast hx hb hA hW hS (rO_35 (g := R_93 35) rfl) ac rfl (by omega) (by decide) dX14_act_112 (fun H locs hW hS => ?_)
    have hW := q_sa 35 hW rfl rfl
    refine lv_aload_n hx hb dX14_act_113 rfl (lv_at hl 2 rfl) ?_
    refine q_get hx hb hts hown hA hW iX14 rO_0 rfl 18 (by decide) (hts (.fieldLink RX14 42 "HighRecipesModel" "fresh" "LHighRecipesModel$Book;") (by decide +kernel)) (fun _ h9 => h9) (v := .ref (M + 25)) rfl dX14_act_114 ?_
    refine q_getN hx hb hts hown hA hW iX13 rO_25 rfl 10 (by decide) (va_Nw.use rfl (hA.2.2.2.1 ("HighRecipesModel", 221, "HighRecipesModel$Book", "block", "[I", "HighRecipesModel") (by decide +kernel))) (fun _ h9 => h9) (v := .ref (M + 33)) rfl dX14_act_117 ?_
    refine lv_iload_n hx hb dX14_act_120 rfl (lv_at hl 1 rfl) ?_
    refine lv_iconst (v := (-1)) hx hb dX14_act_121 (by decide) ?_
    refine q_ast hx hb hA hW hS (rO_33 (g := R_93 33) rfl) ac rfl (by omega) (by decide) dX14_act_122 (fun H locs hW hS => ?_)
    have hW := q_sa 33 hW rfl rfl
    refine lv_aload_n hx hb dX14_act_123 rfl (lv_at hl 2 rfl) ?_
    refine q_get hx hb hts hown hA hW iX14 rO_0 rfl 18 (by decide) (hts (.fieldLink RX14 42 "HighRecipesModel" "fresh" "LHighRecipesModel$Book;") (by decide +kernel)) (fun _ h9 => h9) (v := .ref (M + 25)) rfl dX14_act_124 ?_
    refine q_getN hx hb hts hown hA hW iX13 rO_25 rfl 11 (by decide) (va_Nw.use rfl (hA.2.2.2.1 ("HighRecipesModel", 224, "HighRecipesModel$Book", "other", "[I", "HighRecipesModel") (by decide +kernel))) (fun _ h9 => h9) (v := .ref (M + 34)) rfl dX14_act_127 ?_
    refine lv_iload_n hx hb dX14_act_130 rfl (lv_at hl 1 rfl) ?_
    refine lv_iconst (v := (-1)) hx hb dX14_act_131 (by decide) ?_
    refine q_ast hx hb hA hW hS (rO_34 (g := R_93 34) rfl) ac rfl (by omega) (by decide) dX14_act_132 (fun H locs hW hS => ?_)
    have hW := q_sa 34 hW rfl rfl
    obtain ⟨R_133, hR_133⟩ : ∃ z, z = rp (rp (rp (rp R_93 28 (upd (R_93 28) ac 3)) 35 (upd (R_93 35) ac (-1))) 33 (upd (R_93 33) ac (-1))) 34 (upd (R_93 34) ac (-1)) := ⟨_, rfl⟩
    rw [← hR_133] at hW
    have Q_133 : r_Q r R_133 K T (p_beg K u) tk nd cc ac (tk_65 + 1) nd_65 cc_65 (min 80 (ac + 1)) := by rw [hR_133]; exact ((((Q_93.st (by decide) (by omega)).st (by decide) (by omega)).st (by decide) (by omega)).st (by decide) (by omega))
    have T_133 := Q_133.tok hTK
    have num_133 := Q_133.2.2
    unfold r_num at num_133
    have bt_133 := Q_133.1.1.2.1
    have bn_133 := Q_133.1.1.2.2.2.1
    have bc_133 := Q_133.1.1.2.2.2.2.2.1
    have ba_133 := Q_133.1.1.2.2.2.2.2.2.2
    have y28_133 : True → R_133 28 ac = 3 := fun _ => by rw [hR_133]; exact st_row (r := R_93) (j := 28) (q0 := ac) (x := 3)
    have y35_133 : True → R_133 35 ac = -1 := fun _ => by rw [hR_133]; exact st_row (r := R_93) (j := 35) (q0 := ac) (x := -1)
    have y33_133 : True → R_133 33 ac = -1 := fun _ => by rw [hR_133]; exact st_row (r := R_93) (j := 33) (q0 := ac) (x := -1)
    have y34_133 : True → R_133 34 ac = -1 := fun _ => by rw [hR_133]; exact st_row (r := R_93) (j := 34) (q0 := ac) (x := -1)
    have h8_133 : (p_beg K u).2.1 ≠ 40 → R_133 108 0 = nI (4 - 4) := fun z => by rw [hR_133]; exact h8_93 z
    refine lv_iload_n hx hb dX14_act_133 rfl (lv_at hl 0 rfl) ?_
    refine lv_bipush (v := 15) hx hb dX14_act_134 (by decide) ?_
    refine lv_icmp_ne (tgt := 147) hx hb dX14_act_136 (by decide) (fun c_136 => ?_) (fun c_136 => False.elim ((fun h9 => absurd h9 (by decide)) c_136))
    refine lv_iload_n hx hb dX14_act_147 rfl (lv_at hl 0 rfl) ?_
    refine lv_bipush (v := 16) hx hb dX14_act_148 (by decide) ?_
    refine lv_icmp_ne (tgt := 161) hx hb dX14_act_150 (by decide) (fun c_150 => ?_) (fun c_150 => False.elim ((fun h9 => absurd h9 (by decide)) c_150))
    refine lv_aload_n hx hb dX14_act_161 rfl (lv_at hl 2 rfl) ?_
    refine lv_iload_n hx hb dX14_act_162 rfl (lv_at hl 1 rfl) ?_
    refine lv_iload_n hx hb dX14_act_163 rfl (lv_at hl 0 rfl) ?_
    refine q_cv (va_runV (As := [.int (nI ac), .int 3]) (rest := []) ⟨hx, hb, hml, hown, hts⟩ (kX14_plain_3 l E (rO E f M R_133) n M R_133 K Wd T (p_beg K u) (tk_65 + 1) nd_65 cc_65 (min 80 (ac + 1)) pN pn rN rc ac rO_K T_133 hT hKT hK41 Q_133.1 ok_93 (hnm.mv (Q_133.2.1.1 6 (by decide) (by decide) (by decide))) hpn (show R_133 130 0 = nI pn from by rw [hR_133]; exact (show R_93 130 0 = nI pn from by rw [hR_93]; exact ((congrFun (q_65.2.1.1 130 (by decide) (by decide) (by decide)) 0).trans hpn9))) (hnr.mv (Q_133.2.1.1 7 (by decide) (by decide) (by decide))) hrc (show R_133 109 0 = nI rc from by rw [hR_133]; exact (show R_93 109 0 = nI rc from by rw [hR_93]; exact ((congrFun (q_65.2.1.1 109 (by decide) (by decide) (by decide)) 0).trans hrc9))) (show R_133 108 0 = nI (4 - 4) from by rw [hR_133]; exact (show R_93 108 0 = nI (4 - 4) from by rw [hR_93]; exact (e8_65.trans hv8))) (by omega)) (cwV 2 hts gX14_act_X14_plain rfl rfl rfl (by decide +kernel) ⟨(by show 29 + 1 ≤ 4 * d0 + 42; omega), (by show 8 + (3 + 11) + 721 ≤ 100 * d0 + 1060; omega)⟩) (q_pV hA hW hS (ci := 12) rfl rO_0) rfl rfl hl.1 rfl (lv_room (Nat.le_of_ble_eq_true rfl)) dX14_act_164 ⟨Nat.le_of_ble_eq_true rfl, Nat.le_of_ble_eq_true rfl⟩) hS (fun f_164 n_164 H locs hp hW hS => ?_)
    obtain ⟨R_164, tk_164, nd_164, cc_164, ac_164, q_164, e7_164, e8_164, ec_164, ex_164, rfl, rfl⟩ := hp
    have G_164 : p_go K T (p_beg K u) (p_take K 29 (p_known K Wd pN pn (p_what K (p_val K Wd pN pn 4 (p_beg K u))))) := ((((go_val0 hKT 4 _).trans (go_what hKT)).trans (go_known hKT)).trans (go_take hKT (by decide)))
    have GG_164 := G_164 ok_93
    have ok_164 := GG_164.1
    have le_164 := GG_164.2.2.2.1
    have er_164 := GG_164.2.2.2.2
    have Q_164 := Q_133.trans9 q_164 (by omega)
    have T_164 := Q_164.tok hTK
    have num_164 := Q_164.2.2
    unfold r_num at num_164
    have bt_164 := Q_164.1.1.2.1
    have bn_164 := Q_164.1.1.2.2.2.1
    have bc_164 := Q_164.1.1.2.2.2.2.2.1
    have ba_164 := Q_164.1.1.2.2.2.2.2.2.2
    have qn_164 := q_164.2.2
    unfold r_num at qn_164
    have h8_164 : (p_take K 29 (p_known K Wd pN pn (p_what K (p_val K Wd pN pn 4 (p_beg K u))))).2.1 ≠ 40 → R_164 108 0 = nI (4 - 4) := fun z => (e8_164 z).trans (h8_133 (le_164 z))
    rw [rO_rO] at hW
    have hW : q_W E (rO E f M R_164) n H := hW
    have eA : p_act K Wd pN pn rN rc (p_blk K Wd pN pn rN rc d0) u = p_take K 29 (p_known K Wd pN pn (p_what K (p_val K Wd pN pn 4 (p_beg K u)))) := by unfold p_act; rw [hw]; rfl
    have eS : p_actS K Wd pN pn rN rc RS (p_blk K Wd pN pn rN rc d0) (p_blkS K Wd pN pn rN rc RS d0) u = k_pour pn (ix pN pn (Wd (p_what K (p_val K Wd pN pn 4 (p_beg K u))).1)).toNatClampNeg (if (p_val K Wd pN pn 4 (p_beg K u)).2.1 = 5 then 1 else 0) (p_valD K Wd pN pn 4 (p_beg K u)) := by unfold p_actS; rw [hw]; rfl
    have EX : (p_act K Wd pN pn rN rc (p_blk K Wd pN pn rN rc d0) u).2.1 ≠ 40 → (p_act K Wd pN pn rN rc (p_blk K Wd pN pn rN rc d0) u).2.2.1 = 0 → ac < 80 ∧ ac + 1 ≤ ac_164 ∧ R_164 35 ac = -1 ∧ mA (bR R_164 25) pn nd_164 cc_164 ac_164 RS rc (d0 + 1) ac (p_actS K Wd pN pn rN rc RS (p_blk K Wd pN pn rN rc d0) (p_blkS K Wd pN pn rN rc RS d0) u) := by
      intro h1 h2
      rw [eA] at h1 h2
      have k1 := le_164 h1
      have hb9 := beg_ok (er_164 h2)
      have hac8 : ac < 80 := by have z := hnw.2.2.2.2.2; rw [z]; exact Nat.lt_of_le_of_lt (Nat.min_le_right _ _) hb9
      have h0 : ac < min 80 (ac + 1) := Nat.lt_min.mpr ⟨hac8, Nat.lt_succ_self _⟩
      have rr := ex_164.1 h0
      have mm := ex_164.2 h0 h1 h2
      have y35 := rr.trans (y35_133 trivial)
      refine ⟨hac8, by omega, y35, by omega, ?_⟩
      rw [eS]
      obtain ⟨i, x, m1, m2, m3, m4, m5, m6⟩ := mm
      by_cases e5 : (p_val K Wd pN pn 4 (p_beg K u)).2.1 = 5
      · rw [if_pos e5] at m6 ⊢
        exact Or.inr (Or.inl (⟨m6, i, x, _, m1, m3, m4, m5, by rw [m2, nI_clamp (by omega)]⟩))
      · rw [if_neg e5] at m6 ⊢
        exact Or.inl (⟨m6, i, x, _, m1, m3, m4, m5, by rw [m2, nI_clamp (by omega)]⟩)
    refine lv_iload_n hx hb dX14_act_167 rfl (lv_at hl 1 rfl) ?_
    exact q_iret hx hb hr hlocks hW hS ⟨_, _, _, _, _, (by rw [eA]; exact Q_164), (e7_164.trans (show R_133 107 0 = r 107 0 from by rw [hR_133]; exact (show R_93 107 0 = r 107 0 from by rw [hR_93]; exact (e7_65.trans rfl)))), (fun h1 => by rw [eA] at h1; exact (fun z => (e8_164 z).trans (show R_133 108 0 = r 108 0 from by rw [hR_133]; exact (show R_93 108 0 = r 108 0 from by rw [hR_93]; exact (e8_65.trans rfl)))) h1), trivial, ⟨rfl, EX⟩, rfl, rfl⟩ (Nat.le_of_ble_eq_true rfl) (Nat.le_of_ble_eq_true rfl) dX14_act_168

set_option maxHeartbeats 4000000 in
set_option maxRecDepth 100000 in
theorem kX14_act_7 (l : Launch) (E : q_E) (f : q_H) (n : Nat) (M : Nat) (r : q_R) (K : Nat → Nat) (Wd : Nat → Int64) (T : Nat) (u : p_S) (tk nd cc ac : Nat) (pN : Nat → Int64) (pn : Nat) (rN : Nat → Int64) (rc : Nat) (RS : Nat → q_S) (d0 : Nat)  (hm : RM E f M r) (hTK : r_T r K Wd T) (hT : T ≤ 400) (hKT : 39 ≤ K T) (hK41 : ∀ j, K j < 41) (hP : r_P r K T u tk nd cc ac) (hok : p_ok K T u) (hnm : r_nm r K Wd T 6 pn pN) (hpn : pn ≤ 8) (hpn9 : r 130 0 = nI pn) (hnr : r_nm r K Wd T 7 rc rN) (hrc : rc ≤ 6) (hrc9 : r 109 0 = nI rc) (hv8 : r 108 0 = nI (4 - 4)) (ihB : RBLK l E RS d0) (hd6 : d0 + 1 ≤ 6) (hv7 : r 107 0 = nI (6 - d0)) (hw : u.2.1 = 7) : Met l yX14_act wsX14_act ({ frames := 4 * d0 + 42, cells := 0, slots := 0, locals := 100 * d0 + 1060 }) (q_P E [.ref M] f n) (q_Qi E (fun r0 f1 n1 => ∃ (r1 : q_R) (tk1 nd1 cc1 ac1 : Nat), r_Q r r1 K T ((p_act K Wd pN pn rN rc (p_blk K Wd pN pn rN rc d0) u)) tk nd cc ac tk1 nd1 cc1 ac1 ∧ r1 107 0 = r 107 0 ∧ (((p_act K Wd pN pn rN rc (p_blk K Wd pN pn rN rc d0) u)).2.1 ≠ 40 → r1 108 0 = r 108 0) ∧ (True) ∧ (nI ac = r0 ∧ ((p_act K Wd pN pn rN rc (p_blk K Wd pN pn rN rc d0) u).2.1 ≠ 40 → (p_act K Wd pN pn rN rc (p_blk K Wd pN pn rN rc d0) u).2.2.1 = 0 → ac < 80 ∧ ac + 1 ≤ ac1 ∧ r1 35 ac = -1 ∧ mA (bR r1 25) pn nd1 cc1 ac1 RS rc (d0 + 1) ac (p_actS K Wd pN pn rN rc RS (p_blk K Wd pN pn rN rc d0) (p_blkS K Wd pN pn rN rc RS d0) u))) ∧ rO E f M r1 = f1 ∧ n = n1)) 0 0 (q_ge E) := by
  refine Met.ofW (cc := cX14_act) (maxL := 3) (ret := (some .int)) (by decide) rfl ?_
  intro p e s m args below meth c s₁ B hml hv
  obtain ⟨rfl, hA, hW⟩ := hv
  have hx := B.exec
  have hb := B.bytes
  have hr := B.returns
  have hts := atoms_spec (ws := wsX14_act) B.pre
  have hown : s.vm.findClass RX14 = some m.cls := findClass_of_methodNamed B.named
  have hlocks := B.notSynchronized
  have hS : va_S (q_ge E) s.heap s.heap [] := va_S.rf
  have iX13 : ∀ w ∈ wsX130, w ∈ wsX14_act := by decide +kernel
  have iX14 : ∀ w ∈ wsX140, w ∈ wsX14_act := by decide +kernel
  have hl := lv_entry ([.ref M]) (n := 3) (Nat.le_of_ble_eq_true rfl)
  rw [lg_entry_eq]
  generalize (lg_sl ([.ref M]) ++ List.replicate (3 - (lg_sl ([.ref M])).length) Slot.unset).toArray = ls at hl ⊢
  have hl : lv_has ls 3 [(0, .ref M)] := hl
  have hmE := hm.eq
  rw [hm.eq] at hW
  have Q0 := r_Q.rf hP
  have htk := hP.1.2.1
  have hnd := hP.1.2.2.2.1
  have hcc := hP.1.2.2.2.2.2.1
  have hac := hP.1.2.2.2.2.2.2.2
  have hnw := hP.nw (show u.2.1 ≠ 40 by omega)
  have h39 : u.2.1 < 39 := by omega
  refine lv_bipush (v := 80) hx hb dX14_act_0 (by decide) ?_
  refine lv_aload_n hx hb dX14_act_2 rfl (lv_at hl 0 rfl) ?_
  refine q_get hx hb hts hown hA hW iX14 rO_0 rfl 18 (by decide) (hts (.fieldLink RX14 42 "HighRecipesModel" "fresh" "LHighRecipesModel$Book;") (by decide +kernel)) (fun _ h9 => h9) (v := .ref (M + 25)) rfl dX14_act_3 ?_
  refine q_getN hx hb hts hown hA hW iX13 rO_25 rfl 4 (by decide) (va_Nw.use rfl (hA.2.2.2.1 ("HighRecipesModel", 215, "HighRecipesModel$Book", "acts", "I", "HighRecipesModel") (by decide +kernel))) (fun _ h9 => h9) (v := .int (nI ac)) (congrArg (fun z => some (Value.int z)) hP.1.2.2.2.2.2.2.1) dX14_act_6 ?_
  refine va_mmin hx hb (hml.trans hl.1.symm) hown (hts (.methodLink RX14 57 Lib.Math.min.name) (by decide +kernel)) (hts (.static Lib.Math.min.name) (by decide +kernel)) (hts (.initialized "java/lang/Math") (by decide +kernel)) (hts (.code Lib.Math.min.name Lib.Math.min.code 2 (some .int)) (by decide +kernel)) (by show 1 ≤ 4 * d0 + 42; omega) (by show 13 ≤ 100 * d0 + 1060; omega) (Nat.le_of_ble_eq_true rfl) (Nat.le_of_ble_eq_true rfl) dX14_act_9 ?_
  rw [show (if nI ac < 80 then nI ac else 80) = nI ac from (q_min_n (a := 80) (b := ac) (by decide) (by omega)).trans (by rw [Nat.min_eq_right hac])]
  refine lv_istore_n (lv' := [(1, .int (nI ac)), (0, .ref M)]) hx hb dX14_act_12 rfl hl (by decide) rfl (fun ls hl => ?_)
  refine lv_aload_n hx hb dX14_act_13 rfl (lv_at hl 1 rfl) ?_
  refine q_get hx hb hts hown hA hW iX14 rO_0 rfl 4 (by decide) (hts (.fieldLink RX14 17 "HighRecipesModel" "kind" "[I") (by decide +kernel)) (fun _ h9 => h9) (v := .ref (M + 2)) rfl dX14_act_14 ?_
  refine lv_aload_n hx hb dX14_act_17 rfl (lv_at hl 1 rfl) ?_
  refine q_get hx hb hts hown hA hW iX14 rO_0 rfl 8 (by decide) (hts (.fieldLink RX14 120 "HighRecipesModel" "token" "I") (by decide +kernel)) (fun _ h9 => h9) (v := .int (nI tk)) (congrArg (fun z => some (Value.int z)) hP.1.1) dX14_act_18 ?_
  refine q_ald hx hb hA hW (rO_2 (g := r 2) rfl) tk rfl (by omega) (by decide) (x := 7) (by rw [hTK.1 tk htk, hnw.2.1, ← hnw.2.2.1, hw]; rfl) dX14_act_21 ?_
  refine lv_istore_n (lv' := [(2, .int 7), (1, .int (nI ac)), (0, .ref M)]) hx hb dX14_act_22 rfl hl (by decide) rfl (fun ls hl => ?_)
  refine lv_iload_n hx hb dX14_act_23 rfl (lv_at hl 0 rfl) ?_
  refine lv_iconst (v := 3) hx hb dX14_act_24 (by decide) ?_
  refine lv_icmp_eq (tgt := 57) hx hb dX14_act_25 (by decide) (fun c_25 => False.elim ((fun h9 => absurd h9 (by decide)) c_25)) (fun c_25 => ?_)
  refine lv_iload_n hx hb dX14_act_28 rfl (lv_at hl 0 rfl) ?_
  refine lv_bipush (v := 7) hx hb dX14_act_29 (by decide) ?_
  refine lv_icmp_eq (tgt := 57) hx hb dX14_act_31 (by decide) (fun c_31 => ?_) (fun c_31 => False.elim ((fun h9 => h9 rfl) c_31))
  refine lv_iload_n hx hb dX14_act_57 rfl (lv_at hl 1 rfl) ?_
  refine lv_bipush (v := 80) hx hb dX14_act_58 (by decide) ?_
  refine lv_icmp_ne (tgt := 68) hx hb dX14_act_60 (by decide) (fun c_60 => ?_) (fun c_60 => ?_)
  · have e80 : ¬ ac = 80 := fun h9 => c_60 (by rw [h9]; rfl)
    refine lv_aload_n hx hb dX14_act_68 rfl (lv_at hl 2 rfl) ?_
    refine q_get hx hb hts hown hA hW iX14 rO_0 rfl 18 (by decide) (hts (.fieldLink RX14 42 "HighRecipesModel" "fresh" "LHighRecipesModel$Book;") (by decide +kernel)) (fun _ h9 => h9) (v := .ref (M + 25)) rfl dX14_act_69 ?_
    refine lv_bipush (v := 80) hx hb dX14_act_72 (by decide) ?_
    refine lv_iload_n hx hb dX14_act_74 rfl (lv_at hl 1 rfl) ?_
    refine lv_iconst (v := 1) hx hb dX14_act_75 (by decide) ?_
    refine lv_iadd hx hb dX14_act_76 ?_
    rw [nI_1]
    refine va_mmin hx hb (hml.trans hl.1.symm) hown (hts (.methodLink RX14 57 Lib.Math.min.name) (by decide +kernel)) (hts (.static Lib.Math.min.name) (by decide +kernel)) (hts (.initialized "java/lang/Math") (by decide +kernel)) (hts (.code Lib.Math.min.name Lib.Math.min.code 2 (some .int)) (by decide +kernel)) (by show 1 ≤ 4 * d0 + 42; omega) (by show 14 ≤ 100 * d0 + 1060; omega) (Nat.le_of_ble_eq_true rfl) (Nat.le_of_ble_eq_true rfl) dX14_act_77 ?_
    rw [show (if nI (ac + 1) < 80 then nI (ac + 1) else 80) = nI (min 80 (ac + 1)) from q_min_n (a := 80) (b := ac + 1) (by decide) (by omega)]
    refine q_putN hx hb hts hown hA hW hS iX13 tyX13 tyX13_ok nmX13 rO_25 rfl 4 (by decide) (va_Nw.use rfl (hA.2.2.2.1 ("HighRecipesModel", 215, "HighRecipesModel$Book", "acts", "I", "HighRecipesModel") (by decide +kernel))) (fun _ h9 => h9) rfl rfl rfl (Nat.le_of_ble_eq_true rfl) dX14_act_80 (fun H locs hW hS => ?_)
    have hW := q_s25 132 (nI (min 80 (ac + 1))) hW rfl (by decide)
    refine lv_aload_n hx hb dX14_act_83 rfl (lv_at hl 2 rfl) ?_
    refine lv_dup hx hb dX14_act_84 rfl ?_
    refine q_get hx hb hts hown hA hW iX14 rO_0 rfl 8 (by decide) (hts (.fieldLink RX14 120 "HighRecipesModel" "token" "I") (by decide +kernel)) (fun _ h9 => h9) (v := .int (nI tk)) (congrArg (fun z => some (Value.int z)) hP.1.1) dX14_act_85 ?_
    refine lv_iconst (v := 1) hx hb dX14_act_88 (by decide) ?_
    refine lv_iadd hx hb dX14_act_89 ?_
    refine q_put hx hb hts hown hA hW hS iX14 tyX14 tyX14_ok nmX14 rO_0 rfl 8 (by decide) (hts (.fieldLink RX14 120 "HighRecipesModel" "token" "I") (by decide +kernel)) (fun _ h9 => h9) rfl rfl rfl (Nat.le_of_ble_eq_true rfl) dX14_act_90 (fun H locs hW hS => ?_)
    rw [show (nI tk) + 1 = nI (tk + 1) from nI_1 tk] at hW
    have hW := q_s0 103 (nI (tk + 1)) hW rfl (by decide)
    obtain ⟨R_93, hR_93⟩ : ∃ z, z = rp (rp r 132 (fun _ => nI (min 80 (ac + 1)))) 103 (fun _ => nI (tk + 1)) := ⟨_, rfl⟩
    rw [← hR_93] at hW
    have Q_93 : r_Q r R_93 K T (p_beg K u) tk nd cc ac (tk + 1) nd cc (min 80 (ac + 1)) := by rw [hR_93]; exact (r_Q.beg (by rw [decide_eq_false e80]; exact Q0) h39 hKT)
    have T_93 := Q_93.tok hTK
    have num_93 := Q_93.2.2
    unfold r_num at num_93
    have bt_93 := Q_93.1.1.2.1
    have bn_93 := Q_93.1.1.2.2.2.1
    have bc_93 := Q_93.1.1.2.2.2.2.2.1
    have ba_93 := Q_93.1.1.2.2.2.2.2.2.2
    have G_93 : p_go K T u (p_beg K u) := (go_beg hKT h39)
    have GG_93 := G_93 hok
    have ok_93 := GG_93.1
    have le_93 := GG_93.2.2.2.1
    have er_93 := GG_93.2.2.2.2
    have h8_93 : (p_beg K u).2.1 ≠ 40 → R_93 108 0 = nI (4 - 4) := fun z => by rw [hR_93]; exact (fun _ => hv8) (le_93 z)
    refine lv_aload_n hx hb dX14_act_93 rfl (lv_at hl 2 rfl) ?_
    refine q_get hx hb hts hown hA hW iX14 rO_0 rfl 18 (by decide) (hts (.fieldLink RX14 42 "HighRecipesModel" "fresh" "LHighRecipesModel$Book;") (by decide +kernel)) (fun _ h9 => h9) (v := .ref (M + 25)) rfl dX14_act_94 ?_
    refine q_getN hx hb hts hown hA hW iX13 rO_25 rfl 5 (by decide) (va_Nw.use rfl (hA.2.2.2.1 ("HighRecipesModel", 218, "HighRecipesModel$Book", "does", "[I", "HighRecipesModel") (by decide +kernel))) (fun _ h9 => h9) (v := .ref (M + 28)) rfl dX14_act_97 ?_
    refine lv_iload_n hx hb dX14_act_100 rfl (lv_at hl 1 rfl) ?_
    refine lv_iload_n hx hb dX14_act_101 rfl (lv_at hl 0 rfl) ?_
    refine q_ast hx hb hA hW hS (rO_28 (g := R_93 28) rfl) ac rfl (by omega) (by decide) dX14_act_102 (fun H locs hW hS => ?_)
    have hW := q_sa 28 hW rfl rfl
    refine lv_aload_n hx hb dX14_act_103 rfl (lv_at hl 2 rfl) ?_
    refine q_get hx hb hts hown hA hW iX14 rO_0 rfl 18 (by decide) (hts (.fieldLink RX14 42 "HighRecipesModel" "fresh" "LHighRecipesModel$Book;") (by decide +kernel)) (fun _ h9 => h9) (v := .ref (M + 25)) rfl dX14_act_104 ?_
    refine q_getN hx hb hts hown hA hW iX13 rO_25 rfl 12 (by decide) (va_Nw.use rfl (hA.2.2.2.1 ("HighRecipesModel", 212, "HighRecipesModel$Book", "next", "[I", "HighRecipesModel") (by decide +kernel))) (fun _ h9 => h9) (v := .ref (M + 35)) rfl dX14_act_107 ?_
    refine lv_iload_n hx hb dX14_act_110 rfl (lv_at hl 1 rfl) ?_
    refine lv_iconst (v := (-1)) hx hb dX14_act_111 (by decide) ?_
    refine q_ast hx hb hA hW hS (rO_35 (g := R_93 35) rfl) ac rfl (by omega) (by decide) dX14_act_112 (fun H locs hW hS => ?_)
    have hW := q_sa 35 hW rfl rfl
    refine lv_aload_n hx hb dX14_act_113 rfl (lv_at hl 2 rfl) ?_
    refine q_get hx hb hts hown hA hW iX14 rO_0 rfl 18 (by decide) (hts (.fieldLink RX14 42 "HighRecipesModel" "fresh" "LHighRecipesModel$Book;") (by decide +kernel)) (fun _ h9 => h9) (v := .ref (M + 25)) rfl dX14_act_114 ?_
    refine q_getN hx hb hts hown hA hW iX13 rO_25 rfl 10 (by decide) (va_Nw.use rfl (hA.2.2.2.1 ("HighRecipesModel", 221, "HighRecipesModel$Book", "block", "[I", "HighRecipesModel") (by decide +kernel))) (fun _ h9 => h9) (v := .ref (M + 33)) rfl dX14_act_117 ?_
    refine lv_iload_n hx hb dX14_act_120 rfl (lv_at hl 1 rfl) ?_
    refine lv_iconst (v := (-1)) hx hb dX14_act_121 (by decide) ?_
    refine q_ast hx hb hA hW hS (rO_33 (g := R_93 33) rfl) ac rfl (by omega) (by decide) dX14_act_122 (fun H locs hW hS => ?_)
    have hW := q_sa 33 hW rfl rfl
    refine lv_aload_n hx hb dX14_act_123 rfl (lv_at hl 2 rfl) ?_
    refine q_get hx hb hts hown hA hW iX14 rO_0 rfl 18 (by decide) (hts (.fieldLink RX14 42 "HighRecipesModel" "fresh" "LHighRecipesModel$Book;") (by decide +kernel)) (fun _ h9 => h9) (v := .ref (M + 25)) rfl dX14_act_124 ?_
    refine q_getN hx hb hts hown hA hW iX13 rO_25 rfl 11 (by decide) (va_Nw.use rfl (hA.2.2.2.1 ("HighRecipesModel", 224, "HighRecipesModel$Book", "other", "[I", "HighRecipesModel") (by decide +kernel))) (fun _ h9 => h9) (v := .ref (M + 34)) rfl dX14_act_127 ?_
    refine lv_iload_n hx hb dX14_act_130 rfl (lv_at hl 1 rfl) ?_
    refine lv_iconst (v := (-1)) hx hb dX14_act_131 (by decide) ?_
    refine q_ast hx hb hA hW hS (rO_34 (g := R_93 34) rfl) ac rfl (by omega) (by decide) dX14_act_132 (fun H locs hW hS => ?_)
    have hW := q_sa 34 hW rfl rfl
    obtain ⟨R_133, hR_133⟩ : ∃ z, z = rp (rp (rp (rp R_93 28 (upd (R_93 28) ac 7)) 35 (upd (R_93 35) ac (-1))) 33 (upd (R_93 33) ac (-1))) 34 (upd (R_93 34) ac (-1)) := ⟨_, rfl⟩
    rw [← hR_133] at hW
    have Q_133 : r_Q r R_133 K T (p_beg K u) tk nd cc ac (tk + 1) nd cc (min 80 (ac + 1)) := by rw [hR_133]; exact ((((Q_93.st (by decide) (by omega)).st (by decide) (by omega)).st (by decide) (by omega)).st (by decide) (by omega))
    have T_133 := Q_133.tok hTK
    have num_133 := Q_133.2.2
    unfold r_num at num_133
    have bt_133 := Q_133.1.1.2.1
    have bn_133 := Q_133.1.1.2.2.2.1
    have bc_133 := Q_133.1.1.2.2.2.2.2.1
    have ba_133 := Q_133.1.1.2.2.2.2.2.2.2
    have y28_133 : True → R_133 28 ac = 7 := fun _ => by rw [hR_133]; exact st_row (r := R_93) (j := 28) (q0 := ac) (x := 7)
    have y35_133 : True → R_133 35 ac = -1 := fun _ => by rw [hR_133]; exact st_row (r := R_93) (j := 35) (q0 := ac) (x := -1)
    have y33_133 : True → R_133 33 ac = -1 := fun _ => by rw [hR_133]; exact st_row (r := R_93) (j := 33) (q0 := ac) (x := -1)
    have y34_133 : True → R_133 34 ac = -1 := fun _ => by rw [hR_133]; exact st_row (r := R_93) (j := 34) (q0 := ac) (x := -1)
    have h8_133 : (p_beg K u).2.1 ≠ 40 → R_133 108 0 = nI (4 - 4) := fun z => by rw [hR_133]; exact h8_93 z
    refine lv_iload_n hx hb dX14_act_133 rfl (lv_at hl 0 rfl) ?_
    refine lv_bipush (v := 15) hx hb dX14_act_134 (by decide) ?_
    refine lv_icmp_ne (tgt := 147) hx hb dX14_act_136 (by decide) (fun c_136 => ?_) (fun c_136 => False.elim ((fun h9 => absurd h9 (by decide)) c_136))
    refine lv_iload_n hx hb dX14_act_147 rfl (lv_at hl 0 rfl) ?_
    refine lv_bipush (v := 16) hx hb dX14_act_148 (by decide) ?_
    refine lv_icmp_ne (tgt := 161) hx hb dX14_act_150 (by decide) (fun c_150 => ?_) (fun c_150 => False.elim ((fun h9 => absurd h9 (by decide)) c_150))
    refine lv_aload_n hx hb dX14_act_161 rfl (lv_at hl 2 rfl) ?_
    refine lv_iload_n hx hb dX14_act_162 rfl (lv_at hl 1 rfl) ?_
    refine lv_iload_n hx hb dX14_act_163 rfl (lv_at hl 0 rfl) ?_
    refine q_cv (va_runV (As := [.int (nI ac), .int 7]) (rest := []) ⟨hx, hb, hml, hown, hts⟩ (kX14_plain_7 l E (rO E f M R_133) n M R_133 K Wd T (p_beg K u) (tk + 1) nd cc (min 80 (ac + 1)) pN pn rN rc ac rO_K T_133 hT hKT hK41 Q_133.1 ok_93 (hnm.mv (Q_133.2.1.1 6 (by decide) (by decide) (by decide))) hpn (show R_133 130 0 = nI pn from by rw [hR_133]; exact (show R_93 130 0 = nI pn from by rw [hR_93]; exact hpn9)) (hnr.mv (Q_133.2.1.1 7 (by decide) (by decide) (by decide))) hrc (show R_133 109 0 = nI rc from by rw [hR_133]; exact (show R_93 109 0 = nI rc from by rw [hR_93]; exact hrc9)) (show R_133 108 0 = nI (4 - 4) from by rw [hR_133]; exact (show R_93 108 0 = nI (4 - 4) from by rw [hR_93]; exact hv8)) (by omega)) (cwV 2 hts gX14_act_X14_plain rfl rfl rfl (by decide +kernel) ⟨(by show 29 + 1 ≤ 4 * d0 + 42; omega), (by show 8 + (3 + 11) + 721 ≤ 100 * d0 + 1060; omega)⟩) (q_pV hA hW hS (ci := 12) rfl rO_0) rfl rfl hl.1 rfl (lv_room (Nat.le_of_ble_eq_true rfl)) dX14_act_164 ⟨Nat.le_of_ble_eq_true rfl, Nat.le_of_ble_eq_true rfl⟩) hS (fun f_164 n_164 H locs hp hW hS => ?_)
    obtain ⟨R_164, tk_164, nd_164, cc_164, ac_164, q_164, e7_164, e8_164, ec_164, ex_164, rfl, rfl⟩ := hp
    have G_164 : p_go K T (p_beg K u) (p_take K 29 (p_val K Wd pN pn 4 (p_take K 8 (p_known K Wd pN pn (p_beg K u))))) := ((((go_known hKT).trans (go_take (w := 8) hKT (by decide))).trans (go_val0 hKT 4 _)).trans (go_take hKT (by decide)))
    have GG_164 := G_164 ok_93
    have ok_164 := GG_164.1
    have le_164 := GG_164.2.2.2.1
    have er_164 := GG_164.2.2.2.2
    have Q_164 := Q_133.trans9 q_164 (by omega)
    have T_164 := Q_164.tok hTK
    have num_164 := Q_164.2.2
    unfold r_num at num_164
    have bt_164 := Q_164.1.1.2.1
    have bn_164 := Q_164.1.1.2.2.2.1
    have bc_164 := Q_164.1.1.2.2.2.2.2.1
    have ba_164 := Q_164.1.1.2.2.2.2.2.2.2
    have qn_164 := q_164.2.2
    unfold r_num at qn_164
    have h8_164 : (p_take K 29 (p_val K Wd pN pn 4 (p_take K 8 (p_known K Wd pN pn (p_beg K u))))).2.1 ≠ 40 → R_164 108 0 = nI (4 - 4) := fun z => (e8_164 z).trans (h8_133 (le_164 z))
    rw [rO_rO] at hW
    have hW : q_W E (rO E f M R_164) n H := hW
    have eA : p_act K Wd pN pn rN rc (p_blk K Wd pN pn rN rc d0) u = p_take K 29 (p_val K Wd pN pn 4 (p_take K 8 (p_known K Wd pN pn (p_beg K u)))) := by unfold p_act; rw [hw]; rfl
    have eS : p_actS K Wd pN pn rN rc RS (p_blk K Wd pN pn rN rc d0) (p_blkS K Wd pN pn rN rc RS d0) u = k_heat pn (ix pN pn (Wd (p_beg K u).1)).toNatClampNeg (p_valD K Wd pN pn 4 (p_take K 8 (p_known K Wd pN pn (p_beg K u)))) := by unfold p_actS; rw [hw]; rfl
    have EX : (p_act K Wd pN pn rN rc (p_blk K Wd pN pn rN rc d0) u).2.1 ≠ 40 → (p_act K Wd pN pn rN rc (p_blk K Wd pN pn rN rc d0) u).2.2.1 = 0 → ac < 80 ∧ ac + 1 ≤ ac_164 ∧ R_164 35 ac = -1 ∧ mA (bR R_164 25) pn nd_164 cc_164 ac_164 RS rc (d0 + 1) ac (p_actS K Wd pN pn rN rc RS (p_blk K Wd pN pn rN rc d0) (p_blkS K Wd pN pn rN rc RS d0) u) := by
      intro h1 h2
      rw [eA] at h1 h2
      have k1 := le_164 h1
      have hb9 := beg_ok (er_164 h2)
      have hac8 : ac < 80 := by have z := hnw.2.2.2.2.2; rw [z]; exact Nat.lt_of_le_of_lt (Nat.min_le_right _ _) hb9
      have h0 : ac < min 80 (ac + 1) := Nat.lt_min.mpr ⟨hac8, Nat.lt_succ_self _⟩
      have rr := ex_164.1 h0
      have mm := ex_164.2 h0 h1 h2
      have y35 := rr.1.trans (y35_133 trivial)
      have y28 := rr.2.trans (y28_133 trivial)
      refine ⟨hac8, by omega, y35, by omega, ?_⟩
      rw [eS]
      obtain ⟨i, x, m1, m2, m3, m4, m5⟩ := mm
      exact Or.inr (Or.inr (Or.inl (⟨y28, i, x, _, m1, m3, m4, m5, by rw [m2, nI_clamp (by omega)]⟩)))
    refine lv_iload_n hx hb dX14_act_167 rfl (lv_at hl 1 rfl) ?_
    exact q_iret hx hb hr hlocks hW hS ⟨_, _, _, _, _, (by rw [eA]; exact Q_164), (e7_164.trans (show R_133 107 0 = r 107 0 from by rw [hR_133]; exact (show R_93 107 0 = r 107 0 from by rw [hR_93]; exact rfl))), (fun h1 => by rw [eA] at h1; exact (fun z => (e8_164 z).trans (show R_133 108 0 = r 108 0 from by rw [hR_133]; exact (show R_93 108 0 = r 108 0 from by rw [hR_93]; exact rfl))) h1), trivial, ⟨rfl, EX⟩, rfl, rfl⟩ (Nat.le_of_ble_eq_true rfl) (Nat.le_of_ble_eq_true rfl) dX14_act_168
  · have e80 : ac = 80 := (nI_eq (by omega) (by decide)).1 c_60
    refine lv_aload_n hx hb dX14_act_63 rfl (lv_at hl 2 rfl) ?_
    refine lv_iconst (v := 4) hx hb dX14_act_64 (by decide) ?_
    refine q_cv (va_runV (As := [.int 4]) (rest := []) ⟨hx, hb, hml, hown, hts⟩ (kX14_mark l E (rO E f M r) n M r K Wd T u tk nd cc ac 4 rO_K hTK hT hKT hK41 Q0.1 hok) (cwV 1 hts gX14_act_X14_mark rfl rfl rfl (by decide +kernel) ⟨(by show 0 + 1 ≤ 4 * d0 + 42; omega), (by show 8 + (2 + 11) + 0 ≤ 100 * d0 + 1060; omega)⟩) (q_pV hA hW hS (ci := 12) rfl rO_0) rfl rfl hl.1 rfl (lv_room (Nat.le_of_ble_eq_true rfl)) dX14_act_65 ⟨Nat.le_of_ble_eq_true rfl, Nat.le_of_ble_eq_true rfl⟩) hS (fun f_65 n_65 H locs hp hW hS => ?_)
    obtain ⟨R_65, tk_65, nd_65, cc_65, ac_65, q_65, e7_65, e8_65, ec_65, ex_65, rfl, rfl⟩ := hp
    have G_65 : p_go K T u (p_ci true 4 u) := (go_ci (by decide) (by decide))
    have GG_65 := G_65 hok
    have ok_65 := GG_65.1
    have le_65 := GG_65.2.2.2.1
    have er_65 := GG_65.2.2.2.2
    have Q_65 := Q0.trans q_65
    have T_65 := Q_65.tok hTK
    have num_65 := Q_65.2.2
    unfold r_num at num_65
    have bt_65 := Q_65.1.1.2.1
    have bn_65 := Q_65.1.1.2.2.2.1
    have bc_65 := Q_65.1.1.2.2.2.2.2.1
    have ba_65 := Q_65.1.1.2.2.2.2.2.2.2
    have qn_65 := q_65.2.2
    unfold r_num at qn_65
    have h8_65 : (p_ci true 4 u).2.1 ≠ 40 → R_65 108 0 = nI (4 - 4) := fun z => (e8_65).trans ((fun _ => hv8) (le_65 z))
    rw [rO_rO] at hW
    have hW : q_W E (rO E f M R_65) n H := hW
    have eac9 : ac_65 = ac := (ec_65.2.trans rfl)
    rw [eac9] at Q_65
    refine lv_aload_n hx hb dX14_act_68 rfl (lv_at hl 2 rfl) ?_
    refine q_get hx hb hts hown hA hW iX14 rO_0 rfl 18 (by decide) (hts (.fieldLink RX14 42 "HighRecipesModel" "fresh" "LHighRecipesModel$Book;") (by decide +kernel)) (fun _ h9 => h9) (v := .ref (M + 25)) rfl dX14_act_69 ?_
    refine lv_bipush (v := 80) hx hb dX14_act_72 (by decide) ?_
    refine lv_iload_n hx hb dX14_act_74 rfl (lv_at hl 1 rfl) ?_
    refine lv_iconst (v := 1) hx hb dX14_act_75 (by decide) ?_
    refine lv_iadd hx hb dX14_act_76 ?_
    rw [nI_1]
    refine va_mmin hx hb (hml.trans hl.1.symm) hown (hts (.methodLink RX14 57 Lib.Math.min.name) (by decide +kernel)) (hts (.static Lib.Math.min.name) (by decide +kernel)) (hts (.initialized "java/lang/Math") (by decide +kernel)) (hts (.code Lib.Math.min.name Lib.Math.min.code 2 (some .int)) (by decide +kernel)) (by show 1 ≤ 4 * d0 + 42; omega) (by show 14 ≤ 100 * d0 + 1060; omega) (Nat.le_of_ble_eq_true rfl) (Nat.le_of_ble_eq_true rfl) dX14_act_77 ?_
    rw [show (if nI (ac + 1) < 80 then nI (ac + 1) else 80) = nI (min 80 (ac + 1)) from q_min_n (a := 80) (b := ac + 1) (by decide) (by omega)]
    refine q_putN hx hb hts hown hA hW hS iX13 tyX13 tyX13_ok nmX13 rO_25 rfl 4 (by decide) (va_Nw.use rfl (hA.2.2.2.1 ("HighRecipesModel", 215, "HighRecipesModel$Book", "acts", "I", "HighRecipesModel") (by decide +kernel))) (fun _ h9 => h9) rfl rfl rfl (Nat.le_of_ble_eq_true rfl) dX14_act_80 (fun H locs hW hS => ?_)
    have hW := q_s25 132 (nI (min 80 (ac + 1))) hW rfl (by decide)
    refine lv_aload_n hx hb dX14_act_83 rfl (lv_at hl 2 rfl) ?_
    refine lv_dup hx hb dX14_act_84 rfl ?_
    refine q_get hx hb hts hown hA hW iX14 rO_0 rfl 8 (by decide) (hts (.fieldLink RX14 120 "HighRecipesModel" "token" "I") (by decide +kernel)) (fun _ h9 => h9) (v := .int (nI tk_65)) (congrArg (fun z => some (Value.int z)) Q_65.1.1.1) dX14_act_85 ?_
    refine lv_iconst (v := 1) hx hb dX14_act_88 (by decide) ?_
    refine lv_iadd hx hb dX14_act_89 ?_
    refine q_put hx hb hts hown hA hW hS iX14 tyX14 tyX14_ok nmX14 rO_0 rfl 8 (by decide) (hts (.fieldLink RX14 120 "HighRecipesModel" "token" "I") (by decide +kernel)) (fun _ h9 => h9) rfl rfl rfl (Nat.le_of_ble_eq_true rfl) dX14_act_90 (fun H locs hW hS => ?_)
    rw [show (nI tk_65) + 1 = nI (tk_65 + 1) from nI_1 tk_65] at hW
    have hW := q_s0 103 (nI (tk_65 + 1)) hW rfl (by decide)
    obtain ⟨R_93, hR_93⟩ : ∃ z, z = rp (rp R_65 132 (fun _ => nI (min 80 (ac + 1)))) 103 (fun _ => nI (tk_65 + 1)) := ⟨_, rfl⟩
    rw [← hR_93] at hW
    have Q_93 : r_Q r R_93 K T (p_beg K u) tk nd cc ac (tk_65 + 1) nd_65 cc_65 (min 80 (ac + 1)) := by rw [hR_93]; exact (r_Q.beg (by rw [decide_eq_true e80]; exact Q_65) h39 hKT)
    have T_93 := Q_93.tok hTK
    have num_93 := Q_93.2.2
    unfold r_num at num_93
    have bt_93 := Q_93.1.1.2.1
    have bn_93 := Q_93.1.1.2.2.2.1
    have bc_93 := Q_93.1.1.2.2.2.2.2.1
    have ba_93 := Q_93.1.1.2.2.2.2.2.2.2
    have G_93 : p_go K T u (p_beg K u) := (go_beg hKT h39)
    have GG_93 := G_93 hok
    have ok_93 := GG_93.1
    have le_93 := GG_93.2.2.2.1
    have er_93 := GG_93.2.2.2.2
    have h8_93 : (p_beg K u).2.1 ≠ 40 → R_93 108 0 = nI (4 - 4) := fun z => by rw [hR_93]; exact h8_65 (le_93 z)
    refine lv_aload_n hx hb dX14_act_93 rfl (lv_at hl 2 rfl) ?_
    refine q_get hx hb hts hown hA hW iX14 rO_0 rfl 18 (by decide) (hts (.fieldLink RX14 42 "HighRecipesModel" "fresh" "LHighRecipesModel$Book;") (by decide +kernel)) (fun _ h9 => h9) (v := .ref (M + 25)) rfl dX14_act_94 ?_
    refine q_getN hx hb hts hown hA hW iX13 rO_25 rfl 5 (by decide) (va_Nw.use rfl (hA.2.2.2.1 ("HighRecipesModel", 218, "HighRecipesModel$Book", "does", "[I", "HighRecipesModel") (by decide +kernel))) (fun _ h9 => h9) (v := .ref (M + 28)) rfl dX14_act_97 ?_
    refine lv_iload_n hx hb dX14_act_100 rfl (lv_at hl 1 rfl) ?_
    refine lv_iload_n hx hb dX14_act_101 rfl (lv_at hl 0 rfl) ?_
    refine q_ast hx hb hA hW hS (rO_28 (g := R_93 28) rfl) ac rfl (by omega) (by decide) dX14_act_102 (fun H locs hW hS => ?_)
    have hW := q_sa 28 hW rfl rfl
    refine lv_aload_n hx hb dX14_act_103 rfl (lv_at hl 2 rfl) ?_
    refine q_get hx hb hts hown hA hW iX14 rO_0 rfl 18 (by decide) (hts (.fieldLink RX14 42 "HighRecipesModel" "fresh" "LHighRecipesModel$Book;") (by decide +kernel)) (fun _ h9 => h9) (v := .ref (M + 25)) rfl dX14_act_104 ?_
    refine q_getN hx hb hts hown hA hW iX13 rO_25 rfl 12 (by decide) (va_Nw.use rfl (hA.2.2.2.1 ("HighRecipesModel", 212, "HighRecipesModel$Book", "next", "[I", "HighRecipesModel") (by decide +kernel))) (fun _ h9 => h9) (v := .ref (M + 35)) rfl dX14_act_107 ?_
    refine lv_iload_n hx hb dX14_act_110 rfl (lv_at hl 1 rfl) ?_
    refine lv_iconst (v := (-1)) hx hb dX14_act_111 (by decide) ?_
    refine q_ast hx hb hA hW hS (rO_35 (g := R_93 35) rfl) ac rfl (by omega) (by decide) dX14_act_112 (fun H locs hW hS => ?_)
    have hW := q_sa 35 hW rfl rfl
    refine lv_aload_n hx hb dX14_act_113 rfl (lv_at hl 2 rfl) ?_
    refine q_get hx hb hts hown hA hW iX14 rO_0 rfl 18 (by decide) (hts (.fieldLink RX14 42 "HighRecipesModel" "fresh" "LHighRecipesModel$Book;") (by decide +kernel)) (fun _ h9 => h9) (v := .ref (M + 25)) rfl dX14_act_114 ?_
    refine q_getN hx hb hts hown hA hW iX13 rO_25 rfl 10 (by decide) (va_Nw.use rfl (hA.2.2.2.1 ("HighRecipesModel", 221, "HighRecipesModel$Book", "block", "[I", "HighRecipesModel") (by decide +kernel))) (fun _ h9 => h9) (v := .ref (M + 33)) rfl dX14_act_117 ?_
    refine lv_iload_n hx hb dX14_act_120 rfl (lv_at hl 1 rfl) ?_
    refine lv_iconst (v := (-1)) hx hb dX14_act_121 (by decide) ?_
    refine q_ast hx hb hA hW hS (rO_33 (g := R_93 33) rfl) ac rfl (by omega) (by decide) dX14_act_122 (fun H locs hW hS => ?_)
    have hW := q_sa 33 hW rfl rfl
    refine lv_aload_n hx hb dX14_act_123 rfl (lv_at hl 2 rfl) ?_
    refine q_get hx hb hts hown hA hW iX14 rO_0 rfl 18 (by decide) (hts (.fieldLink RX14 42 "HighRecipesModel" "fresh" "LHighRecipesModel$Book;") (by decide +kernel)) (fun _ h9 => h9) (v := .ref (M + 25)) rfl dX14_act_124 ?_
    refine q_getN hx hb hts hown hA hW iX13 rO_25 rfl 11 (by decide) (va_Nw.use rfl (hA.2.2.2.1 ("HighRecipesModel", 224, "HighRecipesModel$Book", "other", "[I", "HighRecipesModel") (by decide +kernel))) (fun _ h9 => h9) (v := .ref (M + 34)) rfl dX14_act_127 ?_
    refine lv_iload_n hx hb dX14_act_130 rfl (lv_at hl 1 rfl) ?_
    refine lv_iconst (v := (-1)) hx hb dX14_act_131 (by decide) ?_
    refine q_ast hx hb hA hW hS (rO_34 (g := R_93 34) rfl) ac rfl (by omega) (by decide) dX14_act_132 (fun H locs hW hS => ?_)
    have hW := q_sa 34 hW rfl rfl
    obtain ⟨R_133, hR_133⟩ : ∃ z, z = rp (rp (rp (rp R_93 28 (upd (R_93 28) ac 7)) 35 (upd (R_93 35) ac (-1))) 33 (upd (R_93 33) ac (-1))) 34 (upd (R_93 34) ac (-1)) := ⟨_, rfl⟩
    rw [← hR_133] at hW
    have Q_133 : r_Q r R_133 K T (p_beg K u) tk nd cc ac (tk_65 + 1) nd_65 cc_65 (min 80 (ac + 1)) := by rw [hR_133]; exact ((((Q_93.st (by decide) (by omega)).st (by decide) (by omega)).st (by decide) (by omega)).st (by decide) (by omega))
    have T_133 := Q_133.tok hTK
    have num_133 := Q_133.2.2
    unfold r_num at num_133
    have bt_133 := Q_133.1.1.2.1
    have bn_133 := Q_133.1.1.2.2.2.1
    have bc_133 := Q_133.1.1.2.2.2.2.2.1
    have ba_133 := Q_133.1.1.2.2.2.2.2.2.2
    have y28_133 : True → R_133 28 ac = 7 := fun _ => by rw [hR_133]; exact st_row (r := R_93) (j := 28) (q0 := ac) (x := 7)
    have y35_133 : True → R_133 35 ac = -1 := fun _ => by rw [hR_133]; exact st_row (r := R_93) (j := 35) (q0 := ac) (x := -1)
    have y33_133 : True → R_133 33 ac = -1 := fun _ => by rw [hR_133]; exact st_row (r := R_93) (j := 33) (q0 := ac) (x := -1)
    have y34_133 : True → R_133 34 ac = -1 := fun _ => by rw [hR_133]; exact st_row (r := R_93) (j := 34) (q0 := ac) (x := -1)
    have h8_133 : (p_beg K u).2.1 ≠ 40 → R_133 108 0 = nI (4 - 4) := fun z => by rw [hR_133]; exact h8_93 z
    refine lv_iload_n hx hb dX14_act_133 rfl (lv_at hl 0 rfl) ?_
    refine lv_bipush (v := 15) hx hb dX14_act_134 (by decide) ?_
    refine lv_icmp_ne (tgt := 147) hx hb dX14_act_136 (by decide) (fun c_136 => ?_) (fun c_136 => False.elim ((fun h9 => absurd h9 (by decide)) c_136))
    refine lv_iload_n hx hb dX14_act_147 rfl (lv_at hl 0 rfl) ?_
    refine lv_bipush (v := 16) hx hb dX14_act_148 (by decide) ?_
    refine lv_icmp_ne (tgt := 161) hx hb dX14_act_150 (by decide) (fun c_150 => ?_) (fun c_150 => False.elim ((fun h9 => absurd h9 (by decide)) c_150))
    refine lv_aload_n hx hb dX14_act_161 rfl (lv_at hl 2 rfl) ?_
    refine lv_iload_n hx hb dX14_act_162 rfl (lv_at hl 1 rfl) ?_
    refine lv_iload_n hx hb dX14_act_163 rfl (lv_at hl 0 rfl) ?_
    refine q_cv (va_runV (As := [.int (nI ac), .int 7]) (rest := []) ⟨hx, hb, hml, hown, hts⟩ (kX14_plain_7 l E (rO E f M R_133) n M R_133 K Wd T (p_beg K u) (tk_65 + 1) nd_65 cc_65 (min 80 (ac + 1)) pN pn rN rc ac rO_K T_133 hT hKT hK41 Q_133.1 ok_93 (hnm.mv (Q_133.2.1.1 6 (by decide) (by decide) (by decide))) hpn (show R_133 130 0 = nI pn from by rw [hR_133]; exact (show R_93 130 0 = nI pn from by rw [hR_93]; exact ((congrFun (q_65.2.1.1 130 (by decide) (by decide) (by decide)) 0).trans hpn9))) (hnr.mv (Q_133.2.1.1 7 (by decide) (by decide) (by decide))) hrc (show R_133 109 0 = nI rc from by rw [hR_133]; exact (show R_93 109 0 = nI rc from by rw [hR_93]; exact ((congrFun (q_65.2.1.1 109 (by decide) (by decide) (by decide)) 0).trans hrc9))) (show R_133 108 0 = nI (4 - 4) from by rw [hR_133]; exact (show R_93 108 0 = nI (4 - 4) from by rw [hR_93]; exact (e8_65.trans hv8))) (by omega)) (cwV 2 hts gX14_act_X14_plain rfl rfl rfl (by decide +kernel) ⟨(by show 29 + 1 ≤ 4 * d0 + 42; omega), (by show 8 + (3 + 11) + 721 ≤ 100 * d0 + 1060; omega)⟩) (q_pV hA hW hS (ci := 12) rfl rO_0) rfl rfl hl.1 rfl (lv_room (Nat.le_of_ble_eq_true rfl)) dX14_act_164 ⟨Nat.le_of_ble_eq_true rfl, Nat.le_of_ble_eq_true rfl⟩) hS (fun f_164 n_164 H locs hp hW hS => ?_)
    obtain ⟨R_164, tk_164, nd_164, cc_164, ac_164, q_164, e7_164, e8_164, ec_164, ex_164, rfl, rfl⟩ := hp
    have G_164 : p_go K T (p_beg K u) (p_take K 29 (p_val K Wd pN pn 4 (p_take K 8 (p_known K Wd pN pn (p_beg K u))))) := ((((go_known hKT).trans (go_take (w := 8) hKT (by decide))).trans (go_val0 hKT 4 _)).trans (go_take hKT (by decide)))
    have GG_164 := G_164 ok_93
    have ok_164 := GG_164.1
    have le_164 := GG_164.2.2.2.1
    have er_164 := GG_164.2.2.2.2
    have Q_164 := Q_133.trans9 q_164 (by omega)
    have T_164 := Q_164.tok hTK
    have num_164 := Q_164.2.2
    unfold r_num at num_164
    have bt_164 := Q_164.1.1.2.1
    have bn_164 := Q_164.1.1.2.2.2.1
    have bc_164 := Q_164.1.1.2.2.2.2.2.1
    have ba_164 := Q_164.1.1.2.2.2.2.2.2.2
    have qn_164 := q_164.2.2
    unfold r_num at qn_164
    have h8_164 : (p_take K 29 (p_val K Wd pN pn 4 (p_take K 8 (p_known K Wd pN pn (p_beg K u))))).2.1 ≠ 40 → R_164 108 0 = nI (4 - 4) := fun z => (e8_164 z).trans (h8_133 (le_164 z))
    rw [rO_rO] at hW
    have hW : q_W E (rO E f M R_164) n H := hW
    have eA : p_act K Wd pN pn rN rc (p_blk K Wd pN pn rN rc d0) u = p_take K 29 (p_val K Wd pN pn 4 (p_take K 8 (p_known K Wd pN pn (p_beg K u)))) := by unfold p_act; rw [hw]; rfl
    have eS : p_actS K Wd pN pn rN rc RS (p_blk K Wd pN pn rN rc d0) (p_blkS K Wd pN pn rN rc RS d0) u = k_heat pn (ix pN pn (Wd (p_beg K u).1)).toNatClampNeg (p_valD K Wd pN pn 4 (p_take K 8 (p_known K Wd pN pn (p_beg K u)))) := by unfold p_actS; rw [hw]; rfl
    have EX : (p_act K Wd pN pn rN rc (p_blk K Wd pN pn rN rc d0) u).2.1 ≠ 40 → (p_act K Wd pN pn rN rc (p_blk K Wd pN pn rN rc d0) u).2.2.1 = 0 → ac < 80 ∧ ac + 1 ≤ ac_164 ∧ R_164 35 ac = -1 ∧ mA (bR R_164 25) pn nd_164 cc_164 ac_164 RS rc (d0 + 1) ac (p_actS K Wd pN pn rN rc RS (p_blk K Wd pN pn rN rc d0) (p_blkS K Wd pN pn rN rc RS d0) u) := by
      intro h1 h2
      rw [eA] at h1 h2
      have k1 := le_164 h1
      have hb9 := beg_ok (er_164 h2)
      have hac8 : ac < 80 := by have z := hnw.2.2.2.2.2; rw [z]; exact Nat.lt_of_le_of_lt (Nat.min_le_right _ _) hb9
      have h0 : ac < min 80 (ac + 1) := Nat.lt_min.mpr ⟨hac8, Nat.lt_succ_self _⟩
      have rr := ex_164.1 h0
      have mm := ex_164.2 h0 h1 h2
      have y35 := rr.1.trans (y35_133 trivial)
      have y28 := rr.2.trans (y28_133 trivial)
      refine ⟨hac8, by omega, y35, by omega, ?_⟩
      rw [eS]
      obtain ⟨i, x, m1, m2, m3, m4, m5⟩ := mm
      exact Or.inr (Or.inr (Or.inl (⟨y28, i, x, _, m1, m3, m4, m5, by rw [m2, nI_clamp (by omega)]⟩)))
    refine lv_iload_n hx hb dX14_act_167 rfl (lv_at hl 1 rfl) ?_
    exact q_iret hx hb hr hlocks hW hS ⟨_, _, _, _, _, (by rw [eA]; exact Q_164), (e7_164.trans (show R_133 107 0 = r 107 0 from by rw [hR_133]; exact (show R_93 107 0 = r 107 0 from by rw [hR_93]; exact (e7_65.trans rfl)))), (fun h1 => by rw [eA] at h1; exact (fun z => (e8_164 z).trans (show R_133 108 0 = r 108 0 from by rw [hR_133]; exact (show R_93 108 0 = r 108 0 from by rw [hR_93]; exact (e8_65.trans rfl)))) h1), trivial, ⟨rfl, EX⟩, rfl, rfl⟩ (Nat.le_of_ble_eq_true rfl) (Nat.le_of_ble_eq_true rfl) dX14_act_168

set_option maxHeartbeats 4000000 in
set_option maxRecDepth 100000 in
theorem kX14_act_9 (l : Launch) (E : q_E) (f : q_H) (n : Nat) (M : Nat) (r : q_R) (K : Nat → Nat) (Wd : Nat → Int64) (T : Nat) (u : p_S) (tk nd cc ac : Nat) (pN : Nat → Int64) (pn : Nat) (rN : Nat → Int64) (rc : Nat) (RS : Nat → q_S) (d0 : Nat)  (hm : RM E f M r) (hTK : r_T r K Wd T) (hT : T ≤ 400) (hKT : 39 ≤ K T) (hK41 : ∀ j, K j < 41) (hP : r_P r K T u tk nd cc ac) (hok : p_ok K T u) (hnm : r_nm r K Wd T 6 pn pN) (hpn : pn ≤ 8) (hpn9 : r 130 0 = nI pn) (hnr : r_nm r K Wd T 7 rc rN) (hrc : rc ≤ 6) (hrc9 : r 109 0 = nI rc) (hv8 : r 108 0 = nI (4 - 4)) (ihB : RBLK l E RS d0) (hd6 : d0 + 1 ≤ 6) (hv7 : r 107 0 = nI (6 - d0)) (hw : u.2.1 = 9) : Met l yX14_act wsX14_act ({ frames := 4 * d0 + 42, cells := 0, slots := 0, locals := 100 * d0 + 1060 }) (q_P E [.ref M] f n) (q_Qi E (fun r0 f1 n1 => ∃ (r1 : q_R) (tk1 nd1 cc1 ac1 : Nat), r_Q r r1 K T ((p_act K Wd pN pn rN rc (p_blk K Wd pN pn rN rc d0) u)) tk nd cc ac tk1 nd1 cc1 ac1 ∧ r1 107 0 = r 107 0 ∧ (((p_act K Wd pN pn rN rc (p_blk K Wd pN pn rN rc d0) u)).2.1 ≠ 40 → r1 108 0 = r 108 0) ∧ (True) ∧ (nI ac = r0 ∧ ((p_act K Wd pN pn rN rc (p_blk K Wd pN pn rN rc d0) u).2.1 ≠ 40 → (p_act K Wd pN pn rN rc (p_blk K Wd pN pn rN rc d0) u).2.2.1 = 0 → ac < 80 ∧ ac + 1 ≤ ac1 ∧ r1 35 ac = -1 ∧ mA (bR r1 25) pn nd1 cc1 ac1 RS rc (d0 + 1) ac (p_actS K Wd pN pn rN rc RS (p_blk K Wd pN pn rN rc d0) (p_blkS K Wd pN pn rN rc RS d0) u))) ∧ rO E f M r1 = f1 ∧ n = n1)) 0 0 (q_ge E) := by
  refine Met.ofW (cc := cX14_act) (maxL := 3) (ret := (some .int)) (by decide) rfl ?_
  intro p e s m args below meth c s₁ B hml hv
  obtain ⟨rfl, hA, hW⟩ := hv
  have hx := B.exec
  have hb := B.bytes
  have hr := B.returns
  have hts := atoms_spec (ws := wsX14_act) B.pre
  have hown : s.vm.findClass RX14 = some m.cls := findClass_of_methodNamed B.named
  have hlocks := B.notSynchronized
  have hS : va_S (q_ge E) s.heap s.heap [] := va_S.rf
  have iX13 : ∀ w ∈ wsX130, w ∈ wsX14_act := by decide +kernel
  have iX14 : ∀ w ∈ wsX140, w ∈ wsX14_act := by decide +kernel
  have hl := lv_entry ([.ref M]) (n := 3) (Nat.le_of_ble_eq_true rfl)
  rw [lg_entry_eq]
  generalize (lg_sl ([.ref M]) ++ List.replicate (3 - (lg_sl ([.ref M])).length) Slot.unset).toArray = ls at hl ⊢
  have hl : lv_has ls 3 [(0, .ref M)] := hl
  have hmE := hm.eq
  rw [hm.eq] at hW
  have Q0 := r_Q.rf hP
  have htk := hP.1.2.1
  have hnd := hP.1.2.2.2.1
  have hcc := hP.1.2.2.2.2.2.1
  have hac := hP.1.2.2.2.2.2.2.2
  have hnw := hP.nw (show u.2.1 ≠ 40 by omega)
  have h39 : u.2.1 < 39 := by omega
  refine lv_bipush (v := 80) hx hb dX14_act_0 (by decide) ?_
  refine lv_aload_n hx hb dX14_act_2 rfl (lv_at hl 0 rfl) ?_
  refine q_get hx hb hts hown hA hW iX14 rO_0 rfl 18 (by decide) (hts (.fieldLink RX14 42 "HighRecipesModel" "fresh" "LHighRecipesModel$Book;") (by decide +kernel)) (fun _ h9 => h9) (v := .ref (M + 25)) rfl dX14_act_3 ?_
  refine q_getN hx hb hts hown hA hW iX13 rO_25 rfl 4 (by decide) (va_Nw.use rfl (hA.2.2.2.1 ("HighRecipesModel", 215, "HighRecipesModel$Book", "acts", "I", "HighRecipesModel") (by decide +kernel))) (fun _ h9 => h9) (v := .int (nI ac)) (congrArg (fun z => some (Value.int z)) hP.1.2.2.2.2.2.2.1) dX14_act_6 ?_
  refine va_mmin hx hb (hml.trans hl.1.symm) hown (hts (.methodLink RX14 57 Lib.Math.min.name) (by decide +kernel)) (hts (.static Lib.Math.min.name) (by decide +kernel)) (hts (.initialized "java/lang/Math") (by decide +kernel)) (hts (.code Lib.Math.min.name Lib.Math.min.code 2 (some .int)) (by decide +kernel)) (by show 1 ≤ 4 * d0 + 42; omega) (by show 13 ≤ 100 * d0 + 1060; omega) (Nat.le_of_ble_eq_true rfl) (Nat.le_of_ble_eq_true rfl) dX14_act_9 ?_
  rw [show (if nI ac < 80 then nI ac else 80) = nI ac from (q_min_n (a := 80) (b := ac) (by decide) (by omega)).trans (by rw [Nat.min_eq_right hac])]
  refine lv_istore_n (lv' := [(1, .int (nI ac)), (0, .ref M)]) hx hb dX14_act_12 rfl hl (by decide) rfl (fun ls hl => ?_)
  refine lv_aload_n hx hb dX14_act_13 rfl (lv_at hl 1 rfl) ?_
  refine q_get hx hb hts hown hA hW iX14 rO_0 rfl 4 (by decide) (hts (.fieldLink RX14 17 "HighRecipesModel" "kind" "[I") (by decide +kernel)) (fun _ h9 => h9) (v := .ref (M + 2)) rfl dX14_act_14 ?_
  refine lv_aload_n hx hb dX14_act_17 rfl (lv_at hl 1 rfl) ?_
  refine q_get hx hb hts hown hA hW iX14 rO_0 rfl 8 (by decide) (hts (.fieldLink RX14 120 "HighRecipesModel" "token" "I") (by decide +kernel)) (fun _ h9 => h9) (v := .int (nI tk)) (congrArg (fun z => some (Value.int z)) hP.1.1) dX14_act_18 ?_
  refine q_ald hx hb hA hW (rO_2 (g := r 2) rfl) tk rfl (by omega) (by decide) (x := 9) (by rw [hTK.1 tk htk, hnw.2.1, ← hnw.2.2.1, hw]; rfl) dX14_act_21 ?_
  refine lv_istore_n (lv' := [(2, .int 9), (1, .int (nI ac)), (0, .ref M)]) hx hb dX14_act_22 rfl hl (by decide) rfl (fun ls hl => ?_)
  refine lv_iload_n hx hb dX14_act_23 rfl (lv_at hl 0 rfl) ?_
  refine lv_iconst (v := 3) hx hb dX14_act_24 (by decide) ?_
  refine lv_icmp_eq (tgt := 57) hx hb dX14_act_25 (by decide) (fun c_25 => False.elim ((fun h9 => absurd h9 (by decide)) c_25)) (fun c_25 => ?_)
  refine lv_iload_n hx hb dX14_act_28 rfl (lv_at hl 0 rfl) ?_
  refine lv_bipush (v := 7) hx hb dX14_act_29 (by decide) ?_
  refine lv_icmp_eq (tgt := 57) hx hb dX14_act_31 (by decide) (fun c_31 => False.elim ((fun h9 => absurd h9 (by decide)) c_31)) (fun c_31 => ?_)
  refine lv_iload_n hx hb dX14_act_34 rfl (lv_at hl 0 rfl) ?_
  refine lv_bipush (v := 9) hx hb dX14_act_35 (by decide) ?_
  refine lv_icmp_eq (tgt := 57) hx hb dX14_act_37 (by decide) (fun c_37 => ?_) (fun c_37 => False.elim ((fun h9 => h9 rfl) c_37))
  refine lv_iload_n hx hb dX14_act_57 rfl (lv_at hl 1 rfl) ?_
  refine lv_bipush (v := 80) hx hb dX14_act_58 (by decide) ?_
  refine lv_icmp_ne (tgt := 68) hx hb dX14_act_60 (by decide) (fun c_60 => ?_) (fun c_60 => ?_)
  · have e80 : ¬ ac = 80 := fun h9 => c_60 (by rw [h9]; rfl)
    refine lv_aload_n hx hb dX14_act_68 rfl (lv_at hl 2 rfl) ?_
    refine q_get hx hb hts hown hA hW iX14 rO_0 rfl 18 (by decide) (hts (.fieldLink RX14 42 "HighRecipesModel" "fresh" "LHighRecipesModel$Book;") (by decide +kernel)) (fun _ h9 => h9) (v := .ref (M + 25)) rfl dX14_act_69 ?_
    refine lv_bipush (v := 80) hx hb dX14_act_72 (by decide) ?_
    refine lv_iload_n hx hb dX14_act_74 rfl (lv_at hl 1 rfl) ?_
    refine lv_iconst (v := 1) hx hb dX14_act_75 (by decide) ?_
    refine lv_iadd hx hb dX14_act_76 ?_
    rw [nI_1]
    refine va_mmin hx hb (hml.trans hl.1.symm) hown (hts (.methodLink RX14 57 Lib.Math.min.name) (by decide +kernel)) (hts (.static Lib.Math.min.name) (by decide +kernel)) (hts (.initialized "java/lang/Math") (by decide +kernel)) (hts (.code Lib.Math.min.name Lib.Math.min.code 2 (some .int)) (by decide +kernel)) (by show 1 ≤ 4 * d0 + 42; omega) (by show 14 ≤ 100 * d0 + 1060; omega) (Nat.le_of_ble_eq_true rfl) (Nat.le_of_ble_eq_true rfl) dX14_act_77 ?_
    rw [show (if nI (ac + 1) < 80 then nI (ac + 1) else 80) = nI (min 80 (ac + 1)) from q_min_n (a := 80) (b := ac + 1) (by decide) (by omega)]
    refine q_putN hx hb hts hown hA hW hS iX13 tyX13 tyX13_ok nmX13 rO_25 rfl 4 (by decide) (va_Nw.use rfl (hA.2.2.2.1 ("HighRecipesModel", 215, "HighRecipesModel$Book", "acts", "I", "HighRecipesModel") (by decide +kernel))) (fun _ h9 => h9) rfl rfl rfl (Nat.le_of_ble_eq_true rfl) dX14_act_80 (fun H locs hW hS => ?_)
    have hW := q_s25 132 (nI (min 80 (ac + 1))) hW rfl (by decide)
    refine lv_aload_n hx hb dX14_act_83 rfl (lv_at hl 2 rfl) ?_
    refine lv_dup hx hb dX14_act_84 rfl ?_
    refine q_get hx hb hts hown hA hW iX14 rO_0 rfl 8 (by decide) (hts (.fieldLink RX14 120 "HighRecipesModel" "token" "I") (by decide +kernel)) (fun _ h9 => h9) (v := .int (nI tk)) (congrArg (fun z => some (Value.int z)) hP.1.1) dX14_act_85 ?_
    refine lv_iconst (v := 1) hx hb dX14_act_88 (by decide) ?_
    refine lv_iadd hx hb dX14_act_89 ?_
    refine q_put hx hb hts hown hA hW hS iX14 tyX14 tyX14_ok nmX14 rO_0 rfl 8 (by decide) (hts (.fieldLink RX14 120 "HighRecipesModel" "token" "I") (by decide +kernel)) (fun _ h9 => h9) rfl rfl rfl (Nat.le_of_ble_eq_true rfl) dX14_act_90 (fun H locs hW hS => ?_)
    rw [show (nI tk) + 1 = nI (tk + 1) from nI_1 tk] at hW
    have hW := q_s0 103 (nI (tk + 1)) hW rfl (by decide)
    obtain ⟨R_93, hR_93⟩ : ∃ z, z = rp (rp r 132 (fun _ => nI (min 80 (ac + 1)))) 103 (fun _ => nI (tk + 1)) := ⟨_, rfl⟩
    rw [← hR_93] at hW
    have Q_93 : r_Q r R_93 K T (p_beg K u) tk nd cc ac (tk + 1) nd cc (min 80 (ac + 1)) := by rw [hR_93]; exact (r_Q.beg (by rw [decide_eq_false e80]; exact Q0) h39 hKT)
    have T_93 := Q_93.tok hTK
    have num_93 := Q_93.2.2
    unfold r_num at num_93
    have bt_93 := Q_93.1.1.2.1
    have bn_93 := Q_93.1.1.2.2.2.1
    have bc_93 := Q_93.1.1.2.2.2.2.2.1
    have ba_93 := Q_93.1.1.2.2.2.2.2.2.2
    have G_93 : p_go K T u (p_beg K u) := (go_beg hKT h39)
    have GG_93 := G_93 hok
    have ok_93 := GG_93.1
    have le_93 := GG_93.2.2.2.1
    have er_93 := GG_93.2.2.2.2
    have h8_93 : (p_beg K u).2.1 ≠ 40 → R_93 108 0 = nI (4 - 4) := fun z => by rw [hR_93]; exact (fun _ => hv8) (le_93 z)
    refine lv_aload_n hx hb dX14_act_93 rfl (lv_at hl 2 rfl) ?_
    refine q_get hx hb hts hown hA hW iX14 rO_0 rfl 18 (by decide) (hts (.fieldLink RX14 42 "HighRecipesModel" "fresh" "LHighRecipesModel$Book;") (by decide +kernel)) (fun _ h9 => h9) (v := .ref (M + 25)) rfl dX14_act_94 ?_
    refine q_getN hx hb hts hown hA hW iX13 rO_25 rfl 5 (by decide) (va_Nw.use rfl (hA.2.2.2.1 ("HighRecipesModel", 218, "HighRecipesModel$Book", "does", "[I", "HighRecipesModel") (by decide +kernel))) (fun _ h9 => h9) (v := .ref (M + 28)) rfl dX14_act_97 ?_
    refine lv_iload_n hx hb dX14_act_100 rfl (lv_at hl 1 rfl) ?_
    refine lv_iload_n hx hb dX14_act_101 rfl (lv_at hl 0 rfl) ?_
    refine q_ast hx hb hA hW hS (rO_28 (g := R_93 28) rfl) ac rfl (by omega) (by decide) dX14_act_102 (fun H locs hW hS => ?_)
    have hW := q_sa 28 hW rfl rfl
    refine lv_aload_n hx hb dX14_act_103 rfl (lv_at hl 2 rfl) ?_
    refine q_get hx hb hts hown hA hW iX14 rO_0 rfl 18 (by decide) (hts (.fieldLink RX14 42 "HighRecipesModel" "fresh" "LHighRecipesModel$Book;") (by decide +kernel)) (fun _ h9 => h9) (v := .ref (M + 25)) rfl dX14_act_104 ?_
    refine q_getN hx hb hts hown hA hW iX13 rO_25 rfl 12 (by decide) (va_Nw.use rfl (hA.2.2.2.1 ("HighRecipesModel", 212, "HighRecipesModel$Book", "next", "[I", "HighRecipesModel") (by decide +kernel))) (fun _ h9 => h9) (v := .ref (M + 35)) rfl dX14_act_107 ?_
    refine lv_iload_n hx hb dX14_act_110 rfl (lv_at hl 1 rfl) ?_
    refine lv_iconst (v := (-1)) hx hb dX14_act_111 (by decide) ?_
    refine q_ast hx hb hA hW hS (rO_35 (g := R_93 35) rfl) ac rfl (by omega) (by decide) dX14_act_112 (fun H locs hW hS => ?_)
    have hW := q_sa 35 hW rfl rfl
    refine lv_aload_n hx hb dX14_act_113 rfl (lv_at hl 2 rfl) ?_
    refine q_get hx hb hts hown hA hW iX14 rO_0 rfl 18 (by decide) (hts (.fieldLink RX14 42 "HighRecipesModel" "fresh" "LHighRecipesModel$Book;") (by decide +kernel)) (fun _ h9 => h9) (v := .ref (M + 25)) rfl dX14_act_114 ?_
    refine q_getN hx hb hts hown hA hW iX13 rO_25 rfl 10 (by decide) (va_Nw.use rfl (hA.2.2.2.1 ("HighRecipesModel", 221, "HighRecipesModel$Book", "block", "[I", "HighRecipesModel") (by decide +kernel))) (fun _ h9 => h9) (v := .ref (M + 33)) rfl dX14_act_117 ?_
    refine lv_iload_n hx hb dX14_act_120 rfl (lv_at hl 1 rfl) ?_
    refine lv_iconst (v := (-1)) hx hb dX14_act_121 (by decide) ?_
    refine q_ast hx hb hA hW hS (rO_33 (g := R_93 33) rfl) ac rfl (by omega) (by decide) dX14_act_122 (fun H locs hW hS => ?_)
    have hW := q_sa 33 hW rfl rfl
    refine lv_aload_n hx hb dX14_act_123 rfl (lv_at hl 2 rfl) ?_
    refine q_get hx hb hts hown hA hW iX14 rO_0 rfl 18 (by decide) (hts (.fieldLink RX14 42 "HighRecipesModel" "fresh" "LHighRecipesModel$Book;") (by decide +kernel)) (fun _ h9 => h9) (v := .ref (M + 25)) rfl dX14_act_124 ?_
    refine q_getN hx hb hts hown hA hW iX13 rO_25 rfl 11 (by decide) (va_Nw.use rfl (hA.2.2.2.1 ("HighRecipesModel", 224, "HighRecipesModel$Book", "other", "[I", "HighRecipesModel") (by decide +kernel))) (fun _ h9 => h9) (v := .ref (M + 34)) rfl dX14_act_127 ?_
    refine lv_iload_n hx hb dX14_act_130 rfl (lv_at hl 1 rfl) ?_
    refine lv_iconst (v := (-1)) hx hb dX14_act_131 (by decide) ?_
    refine q_ast hx hb hA hW hS (rO_34 (g := R_93 34) rfl) ac rfl (by omega) (by decide) dX14_act_132 (fun H locs hW hS => ?_)
    have hW := q_sa 34 hW rfl rfl
    obtain ⟨R_133, hR_133⟩ : ∃ z, z = rp (rp (rp (rp R_93 28 (upd (R_93 28) ac 9)) 35 (upd (R_93 35) ac (-1))) 33 (upd (R_93 33) ac (-1))) 34 (upd (R_93 34) ac (-1)) := ⟨_, rfl⟩
    rw [← hR_133] at hW
    have Q_133 : r_Q r R_133 K T (p_beg K u) tk nd cc ac (tk + 1) nd cc (min 80 (ac + 1)) := by rw [hR_133]; exact ((((Q_93.st (by decide) (by omega)).st (by decide) (by omega)).st (by decide) (by omega)).st (by decide) (by omega))
    have T_133 := Q_133.tok hTK
    have num_133 := Q_133.2.2
    unfold r_num at num_133
    have bt_133 := Q_133.1.1.2.1
    have bn_133 := Q_133.1.1.2.2.2.1
    have bc_133 := Q_133.1.1.2.2.2.2.2.1
    have ba_133 := Q_133.1.1.2.2.2.2.2.2.2
    have y28_133 : True → R_133 28 ac = 9 := fun _ => by rw [hR_133]; exact st_row (r := R_93) (j := 28) (q0 := ac) (x := 9)
    have y35_133 : True → R_133 35 ac = -1 := fun _ => by rw [hR_133]; exact st_row (r := R_93) (j := 35) (q0 := ac) (x := -1)
    have y33_133 : True → R_133 33 ac = -1 := fun _ => by rw [hR_133]; exact st_row (r := R_93) (j := 33) (q0 := ac) (x := -1)
    have y34_133 : True → R_133 34 ac = -1 := fun _ => by rw [hR_133]; exact st_row (r := R_93) (j := 34) (q0 := ac) (x := -1)
    have h8_133 : (p_beg K u).2.1 ≠ 40 → R_133 108 0 = nI (4 - 4) := fun z => by rw [hR_133]; exact h8_93 z
    refine lv_iload_n hx hb dX14_act_133 rfl (lv_at hl 0 rfl) ?_
    refine lv_bipush (v := 15) hx hb dX14_act_134 (by decide) ?_
    refine lv_icmp_ne (tgt := 147) hx hb dX14_act_136 (by decide) (fun c_136 => ?_) (fun c_136 => False.elim ((fun h9 => absurd h9 (by decide)) c_136))
    refine lv_iload_n hx hb dX14_act_147 rfl (lv_at hl 0 rfl) ?_
    refine lv_bipush (v := 16) hx hb dX14_act_148 (by decide) ?_
    refine lv_icmp_ne (tgt := 161) hx hb dX14_act_150 (by decide) (fun c_150 => ?_) (fun c_150 => False.elim ((fun h9 => absurd h9 (by decide)) c_150))
    refine lv_aload_n hx hb dX14_act_161 rfl (lv_at hl 2 rfl) ?_
    refine lv_iload_n hx hb dX14_act_162 rfl (lv_at hl 1 rfl) ?_
    refine lv_iload_n hx hb dX14_act_163 rfl (lv_at hl 0 rfl) ?_
    refine q_cv (va_runV (As := [.int (nI ac), .int 9]) (rest := []) ⟨hx, hb, hml, hown, hts⟩ (kX14_plain_9 l E (rO E f M R_133) n M R_133 K Wd T (p_beg K u) (tk + 1) nd cc (min 80 (ac + 1)) pN pn rN rc ac rO_K T_133 hT hKT hK41 Q_133.1 ok_93 (hnm.mv (Q_133.2.1.1 6 (by decide) (by decide) (by decide))) hpn (show R_133 130 0 = nI pn from by rw [hR_133]; exact (show R_93 130 0 = nI pn from by rw [hR_93]; exact hpn9)) (hnr.mv (Q_133.2.1.1 7 (by decide) (by decide) (by decide))) hrc (show R_133 109 0 = nI rc from by rw [hR_133]; exact (show R_93 109 0 = nI rc from by rw [hR_93]; exact hrc9)) (show R_133 108 0 = nI (4 - 4) from by rw [hR_133]; exact (show R_93 108 0 = nI (4 - 4) from by rw [hR_93]; exact hv8)) (by omega)) (cwV 2 hts gX14_act_X14_plain rfl rfl rfl (by decide +kernel) ⟨(by show 29 + 1 ≤ 4 * d0 + 42; omega), (by show 8 + (3 + 11) + 721 ≤ 100 * d0 + 1060; omega)⟩) (q_pV hA hW hS (ci := 12) rfl rO_0) rfl rfl hl.1 rfl (lv_room (Nat.le_of_ble_eq_true rfl)) dX14_act_164 ⟨Nat.le_of_ble_eq_true rfl, Nat.le_of_ble_eq_true rfl⟩) hS (fun f_164 n_164 H locs hp hW hS => ?_)
    obtain ⟨R_164, tk_164, nd_164, cc_164, ac_164, q_164, e7_164, e8_164, ec_164, ex_164, rfl, rfl⟩ := hp
    have G_164 : p_go K T (p_beg K u) (p_take K 29 (p_val K Wd pN pn 4 (p_take K 10 (p_known K Wd pN pn (p_beg K u))))) := ((((go_known hKT).trans (go_take (w := 10) hKT (by decide))).trans (go_val0 hKT 4 _)).trans (go_take hKT (by decide)))
    have GG_164 := G_164 ok_93
    have ok_164 := GG_164.1
    have le_164 := GG_164.2.2.2.1
    have er_164 := GG_164.2.2.2.2
    have Q_164 := Q_133.trans9 q_164 (by omega)
    have T_164 := Q_164.tok hTK
    have num_164 := Q_164.2.2
    unfold r_num at num_164
    have bt_164 := Q_164.1.1.2.1
    have bn_164 := Q_164.1.1.2.2.2.1
    have bc_164 := Q_164.1.1.2.2.2.2.2.1
    have ba_164 := Q_164.1.1.2.2.2.2.2.2.2
    have qn_164 := q_164.2.2
    unfold r_num at qn_164
    have h8_164 : (p_take K 29 (p_val K Wd pN pn 4 (p_take K 10 (p_known K Wd pN pn (p_beg K u))))).2.1 ≠ 40 → R_164 108 0 = nI (4 - 4) := fun z => (e8_164 z).trans (h8_133 (le_164 z))
    rw [rO_rO] at hW
    have hW : q_W E (rO E f M R_164) n H := hW
    have eA : p_act K Wd pN pn rN rc (p_blk K Wd pN pn rN rc d0) u = p_take K 29 (p_val K Wd pN pn 4 (p_take K 10 (p_known K Wd pN pn (p_beg K u)))) := by unfold p_act; rw [hw]; rfl
    have eS : p_actS K Wd pN pn rN rc RS (p_blk K Wd pN pn rN rc d0) (p_blkS K Wd pN pn rN rc RS d0) u = k_boil pn (ix pN pn (Wd (p_beg K u).1)).toNatClampNeg (p_valD K Wd pN pn 4 (p_take K 10 (p_known K Wd pN pn (p_beg K u)))) := by unfold p_actS; rw [hw]; rfl
    have EX : (p_act K Wd pN pn rN rc (p_blk K Wd pN pn rN rc d0) u).2.1 ≠ 40 → (p_act K Wd pN pn rN rc (p_blk K Wd pN pn rN rc d0) u).2.2.1 = 0 → ac < 80 ∧ ac + 1 ≤ ac_164 ∧ R_164 35 ac = -1 ∧ mA (bR R_164 25) pn nd_164 cc_164 ac_164 RS rc (d0 + 1) ac (p_actS K Wd pN pn rN rc RS (p_blk K Wd pN pn rN rc d0) (p_blkS K Wd pN pn rN rc RS d0) u) := by
      intro h1 h2
      rw [eA] at h1 h2
      have k1 := le_164 h1
      have hb9 := beg_ok (er_164 h2)
      have hac8 : ac < 80 := by have z := hnw.2.2.2.2.2; rw [z]; exact Nat.lt_of_le_of_lt (Nat.min_le_right _ _) hb9
      have h0 : ac < min 80 (ac + 1) := Nat.lt_min.mpr ⟨hac8, Nat.lt_succ_self _⟩
      have rr := ex_164.1 h0
      have mm := ex_164.2 h0 h1 h2
      have y35 := rr.1.trans (y35_133 trivial)
      have y28 := rr.2.trans (y28_133 trivial)
      refine ⟨hac8, by omega, y35, by omega, ?_⟩
      rw [eS]
      obtain ⟨i, x, m1, m2, m3, m4, m5⟩ := mm
      exact Or.inr (Or.inr (Or.inr (Or.inl (⟨y28, i, x, _, m1, m3, m4, m5, by rw [m2, nI_clamp (by omega)]⟩))))
    refine lv_iload_n hx hb dX14_act_167 rfl (lv_at hl 1 rfl) ?_
    exact q_iret hx hb hr hlocks hW hS ⟨_, _, _, _, _, (by rw [eA]; exact Q_164), (e7_164.trans (show R_133 107 0 = r 107 0 from by rw [hR_133]; exact (show R_93 107 0 = r 107 0 from by rw [hR_93]; exact rfl))), (fun h1 => by rw [eA] at h1; exact (fun z => (e8_164 z).trans (show R_133 108 0 = r 108 0 from by rw [hR_133]; exact (show R_93 108 0 = r 108 0 from by rw [hR_93]; exact rfl))) h1), trivial, ⟨rfl, EX⟩, rfl, rfl⟩ (Nat.le_of_ble_eq_true rfl) (Nat.le_of_ble_eq_true rfl) dX14_act_168
  · have e80 : ac = 80 := (nI_eq (by omega) (by decide)).1 c_60
    refine lv_aload_n hx hb dX14_act_63 rfl (lv_at hl 2 rfl) ?_
    refine lv_iconst (v := 4) hx hb dX14_act_64 (by decide) ?_
    refine q_cv (va_runV (As := [.int 4]) (rest := []) ⟨hx, hb, hml, hown, hts⟩ (kX14_mark l E (rO E f M r) n M r K Wd T u tk nd cc ac 4 rO_K hTK hT hKT hK41 Q0.1 hok) (cwV 1 hts gX14_act_X14_mark rfl rfl rfl (by decide +kernel) ⟨(by show 0 + 1 ≤ 4 * d0 + 42; omega), (by show 8 + (2 + 11) + 0 ≤ 100 * d0 + 1060; omega)⟩) (q_pV hA hW hS (ci := 12) rfl rO_0) rfl rfl hl.1 rfl (lv_room (Nat.le_of_ble_eq_true rfl)) dX14_act_65 ⟨Nat.le_of_ble_eq_true rfl, Nat.le_of_ble_eq_true rfl⟩) hS (fun f_65 n_65 H locs hp hW hS => ?_)
    obtain ⟨R_65, tk_65, nd_65, cc_65, ac_65, q_65, e7_65, e8_65, ec_65, ex_65, rfl, rfl⟩ := hp
    have G_65 : p_go K T u (p_ci true 4 u) := (go_ci (by decide) (by decide))
    have GG_65 := G_65 hok
    have ok_65 := GG_65.1
    have le_65 := GG_65.2.2.2.1
    have er_65 := GG_65.2.2.2.2
    have Q_65 := Q0.trans q_65
    have T_65 := Q_65.tok hTK
    have num_65 := Q_65.2.2
    unfold r_num at num_65
    have bt_65 := Q_65.1.1.2.1
    have bn_65 := Q_65.1.1.2.2.2.1
    have bc_65 := Q_65.1.1.2.2.2.2.2.1
    have ba_65 := Q_65.1.1.2.2.2.2.2.2.2
    have qn_65 := q_65.2.2
    unfold r_num at qn_65
    have h8_65 : (p_ci true 4 u).2.1 ≠ 40 → R_65 108 0 = nI (4 - 4) := fun z => (e8_65).trans ((fun _ => hv8) (le_65 z))
    rw [rO_rO] at hW
    have hW : q_W E (rO E f M R_65) n H := hW
    have eac9 : ac_65 = ac := (ec_65.2.trans rfl)
    rw [eac9] at Q_65
    refine lv_aload_n hx hb dX14_act_68 rfl (lv_at hl 2 rfl) ?_
    refine q_get hx hb hts hown hA hW iX14 rO_0 rfl 18 (by decide) (hts (.fieldLink RX14 42 "HighRecipesModel" "fresh" "LHighRecipesModel$Book;") (by decide +kernel)) (fun _ h9 => h9) (v := .ref (M + 25)) rfl dX14_act_69 ?_
    refine lv_bipush (v := 80) hx hb dX14_act_72 (by decide) ?_
    refine lv_iload_n hx hb dX14_act_74 rfl (lv_at hl 1 rfl) ?_
    refine lv_iconst (v := 1) hx hb dX14_act_75 (by decide) ?_
    refine lv_iadd hx hb dX14_act_76 ?_
    rw [nI_1]
    refine va_mmin hx hb (hml.trans hl.1.symm) hown (hts (.methodLink RX14 57 Lib.Math.min.name) (by decide +kernel)) (hts (.static Lib.Math.min.name) (by decide +kernel)) (hts (.initialized "java/lang/Math") (by decide +kernel)) (hts (.code Lib.Math.min.name Lib.Math.min.code 2 (some .int)) (by decide +kernel)) (by show 1 ≤ 4 * d0 + 42; omega) (by show 14 ≤ 100 * d0 + 1060; omega) (Nat.le_of_ble_eq_true rfl) (Nat.le_of_ble_eq_true rfl) dX14_act_77 ?_
    rw [show (if nI (ac + 1) < 80 then nI (ac + 1) else 80) = nI (min 80 (ac + 1)) from q_min_n (a := 80) (b := ac + 1) (by decide) (by omega)]
    refine q_putN hx hb hts hown hA hW hS iX13 tyX13 tyX13_ok nmX13 rO_25 rfl 4 (by decide) (va_Nw.use rfl (hA.2.2.2.1 ("HighRecipesModel", 215, "HighRecipesModel$Book", "acts", "I", "HighRecipesModel") (by decide +kernel))) (fun _ h9 => h9) rfl rfl rfl (Nat.le_of_ble_eq_true rfl) dX14_act_80 (fun H locs hW hS => ?_)
    have hW := q_s25 132 (nI (min 80 (ac + 1))) hW rfl (by decide)
    refine lv_aload_n hx hb dX14_act_83 rfl (lv_at hl 2 rfl) ?_
    refine lv_dup hx hb dX14_act_84 rfl ?_
    refine q_get hx hb hts hown hA hW iX14 rO_0 rfl 8 (by decide) (hts (.fieldLink RX14 120 "HighRecipesModel" "token" "I") (by decide +kernel)) (fun _ h9 => h9) (v := .int (nI tk_65)) (congrArg (fun z => some (Value.int z)) Q_65.1.1.1) dX14_act_85 ?_
    refine lv_iconst (v := 1) hx hb dX14_act_88 (by decide) ?_
    refine lv_iadd hx hb dX14_act_89 ?_
    refine q_put hx hb hts hown hA hW hS iX14 tyX14 tyX14_ok nmX14 rO_0 rfl 8 (by decide) (hts (.fieldLink RX14 120 "HighRecipesModel" "token" "I") (by decide +kernel)) (fun _ h9 => h9) rfl rfl rfl (Nat.le_of_ble_eq_true rfl) dX14_act_90 (fun H locs hW hS => ?_)
    rw [show (nI tk_65) + 1 = nI (tk_65 + 1) from nI_1 tk_65] at hW
    have hW := q_s0 103 (nI (tk_65 + 1)) hW rfl (by decide)
    obtain ⟨R_93, hR_93⟩ : ∃ z, z = rp (rp R_65 132 (fun _ => nI (min 80 (ac + 1)))) 103 (fun _ => nI (tk_65 + 1)) := ⟨_, rfl⟩
    rw [← hR_93] at hW
    have Q_93 : r_Q r R_93 K T (p_beg K u) tk nd cc ac (tk_65 + 1) nd_65 cc_65 (min 80 (ac + 1)) := by rw [hR_93]; exact (r_Q.beg (by rw [decide_eq_true e80]; exact Q_65) h39 hKT)
    have T_93 := Q_93.tok hTK
    have num_93 := Q_93.2.2
    unfold r_num at num_93
    have bt_93 := Q_93.1.1.2.1
    have bn_93 := Q_93.1.1.2.2.2.1
    have bc_93 := Q_93.1.1.2.2.2.2.2.1
    have ba_93 := Q_93.1.1.2.2.2.2.2.2.2
    have G_93 : p_go K T u (p_beg K u) := (go_beg hKT h39)
    have GG_93 := G_93 hok
    have ok_93 := GG_93.1
    have le_93 := GG_93.2.2.2.1
    have er_93 := GG_93.2.2.2.2
    have h8_93 : (p_beg K u).2.1 ≠ 40 → R_93 108 0 = nI (4 - 4) := fun z => by rw [hR_93]; exact h8_65 (le_93 z)
    refine lv_aload_n hx hb dX14_act_93 rfl (lv_at hl 2 rfl) ?_
    refine q_get hx hb hts hown hA hW iX14 rO_0 rfl 18 (by decide) (hts (.fieldLink RX14 42 "HighRecipesModel" "fresh" "LHighRecipesModel$Book;") (by decide +kernel)) (fun _ h9 => h9) (v := .ref (M + 25)) rfl dX14_act_94 ?_
    refine q_getN hx hb hts hown hA hW iX13 rO_25 rfl 5 (by decide) (va_Nw.use rfl (hA.2.2.2.1 ("HighRecipesModel", 218, "HighRecipesModel$Book", "does", "[I", "HighRecipesModel") (by decide +kernel))) (fun _ h9 => h9) (v := .ref (M + 28)) rfl dX14_act_97 ?_
    refine lv_iload_n hx hb dX14_act_100 rfl (lv_at hl 1 rfl) ?_
    refine lv_iload_n hx hb dX14_act_101 rfl (lv_at hl 0 rfl) ?_
    refine q_ast hx hb hA hW hS (rO_28 (g := R_93 28) rfl) ac rfl (by omega) (by decide) dX14_act_102 (fun H locs hW hS => ?_)
    have hW := q_sa 28 hW rfl rfl
    refine lv_aload_n hx hb dX14_act_103 rfl (lv_at hl 2 rfl) ?_
    refine q_get hx hb hts hown hA hW iX14 rO_0 rfl 18 (by decide) (hts (.fieldLink RX14 42 "HighRecipesModel" "fresh" "LHighRecipesModel$Book;") (by decide +kernel)) (fun _ h9 => h9) (v := .ref (M + 25)) rfl dX14_act_104 ?_
    refine q_getN hx hb hts hown hA hW iX13 rO_25 rfl 12 (by decide) (va_Nw.use rfl (hA.2.2.2.1 ("HighRecipesModel", 212, "HighRecipesModel$Book", "next", "[I", "HighRecipesModel") (by decide +kernel))) (fun _ h9 => h9) (v := .ref (M + 35)) rfl dX14_act_107 ?_
    refine lv_iload_n hx hb dX14_act_110 rfl (lv_at hl 1 rfl) ?_
    refine lv_iconst (v := (-1)) hx hb dX14_act_111 (by decide) ?_
    refine q_ast hx hb hA hW hS (rO_35 (g := R_93 35) rfl) ac rfl (by omega) (by decide) dX14_act_112 (fun H locs hW hS => ?_)
    have hW := q_sa 35 hW rfl rfl
    refine lv_aload_n hx hb dX14_act_113 rfl (lv_at hl 2 rfl) ?_
    refine q_get hx hb hts hown hA hW iX14 rO_0 rfl 18 (by decide) (hts (.fieldLink RX14 42 "HighRecipesModel" "fresh" "LHighRecipesModel$Book;") (by decide +kernel)) (fun _ h9 => h9) (v := .ref (M + 25)) rfl dX14_act_114 ?_
    refine q_getN hx hb hts hown hA hW iX13 rO_25 rfl 10 (by decide) (va_Nw.use rfl (hA.2.2.2.1 ("HighRecipesModel", 221, "HighRecipesModel$Book", "block", "[I", "HighRecipesModel") (by decide +kernel))) (fun _ h9 => h9) (v := .ref (M + 33)) rfl dX14_act_117 ?_
    refine lv_iload_n hx hb dX14_act_120 rfl (lv_at hl 1 rfl) ?_
    refine lv_iconst (v := (-1)) hx hb dX14_act_121 (by decide) ?_
    refine q_ast hx hb hA hW hS (rO_33 (g := R_93 33) rfl) ac rfl (by omega) (by decide) dX14_act_122 (fun H locs hW hS => ?_)
    have hW := q_sa 33 hW rfl rfl
    refine lv_aload_n hx hb dX14_act_123 rfl (lv_at hl 2 rfl) ?_
    refine q_get hx hb hts hown hA hW iX14 rO_0 rfl 18 (by decide) (hts (.fieldLink RX14 42 "HighRecipesModel" "fresh" "LHighRecipesModel$Book;") (by decide +kernel)) (fun _ h9 => h9) (v := .ref (M + 25)) rfl dX14_act_124 ?_
    refine q_getN hx hb hts hown hA hW iX13 rO_25 rfl 11 (by decide) (va_Nw.use rfl (hA.2.2.2.1 ("HighRecipesModel", 224, "HighRecipesModel$Book", "other", "[I", "HighRecipesModel") (by decide +kernel))) (fun _ h9 => h9) (v := .ref (M + 34)) rfl dX14_act_127 ?_
    refine lv_iload_n hx hb dX14_act_130 rfl (lv_at hl 1 rfl) ?_
    refine lv_iconst (v := (-1)) hx hb dX14_act_131 (by decide) ?_
    refine q_ast hx hb hA hW hS (rO_34 (g := R_93 34) rfl) ac rfl (by omega) (by decide) dX14_act_132 (fun H locs hW hS => ?_)
    have hW := q_sa 34 hW rfl rfl
    obtain ⟨R_133, hR_133⟩ : ∃ z, z = rp (rp (rp (rp R_93 28 (upd (R_93 28) ac 9)) 35 (upd (R_93 35) ac (-1))) 33 (upd (R_93 33) ac (-1))) 34 (upd (R_93 34) ac (-1)) := ⟨_, rfl⟩
    rw [← hR_133] at hW
    have Q_133 : r_Q r R_133 K T (p_beg K u) tk nd cc ac (tk_65 + 1) nd_65 cc_65 (min 80 (ac + 1)) := by rw [hR_133]; exact ((((Q_93.st (by decide) (by omega)).st (by decide) (by omega)).st (by decide) (by omega)).st (by decide) (by omega))
    have T_133 := Q_133.tok hTK
    have num_133 := Q_133.2.2
    unfold r_num at num_133
    have bt_133 := Q_133.1.1.2.1
    have bn_133 := Q_133.1.1.2.2.2.1
    have bc_133 := Q_133.1.1.2.2.2.2.2.1
    have ba_133 := Q_133.1.1.2.2.2.2.2.2.2
    have y28_133 : True → R_133 28 ac = 9 := fun _ => by rw [hR_133]; exact st_row (r := R_93) (j := 28) (q0 := ac) (x := 9)
    have y35_133 : True → R_133 35 ac = -1 := fun _ => by rw [hR_133]; exact st_row (r := R_93) (j := 35) (q0 := ac) (x := -1)
    have y33_133 : True → R_133 33 ac = -1 := fun _ => by rw [hR_133]; exact st_row (r := R_93) (j := 33) (q0 := ac) (x := -1)
    have y34_133 : True → R_133 34 ac = -1 := fun _ => by rw [hR_133]; exact st_row (r := R_93) (j := 34) (q0 := ac) (x := -1)
    have h8_133 : (p_beg K u).2.1 ≠ 40 → R_133 108 0 = nI (4 - 4) := fun z => by rw [hR_133]; exact h8_93 z
    refine lv_iload_n hx hb dX14_act_133 rfl (lv_at hl 0 rfl) ?_
    refine lv_bipush (v := 15) hx hb dX14_act_134 (by decide) ?_
    refine lv_icmp_ne (tgt := 147) hx hb dX14_act_136 (by decide) (fun c_136 => ?_) (fun c_136 => False.elim ((fun h9 => absurd h9 (by decide)) c_136))
    refine lv_iload_n hx hb dX14_act_147 rfl (lv_at hl 0 rfl) ?_
    refine lv_bipush (v := 16) hx hb dX14_act_148 (by decide) ?_
    refine lv_icmp_ne (tgt := 161) hx hb dX14_act_150 (by decide) (fun c_150 => ?_) (fun c_150 => False.elim ((fun h9 => absurd h9 (by decide)) c_150))
    refine lv_aload_n hx hb dX14_act_161 rfl (lv_at hl 2 rfl) ?_
    refine lv_iload_n hx hb dX14_act_162 rfl (lv_at hl 1 rfl) ?_
    refine lv_iload_n hx hb dX14_act_163 rfl (lv_at hl 0 rfl) ?_
    refine q_cv (va_runV (As := [.int (nI ac), .int 9]) (rest := []) ⟨hx, hb, hml, hown, hts⟩ (kX14_plain_9 l E (rO E f M R_133) n M R_133 K Wd T (p_beg K u) (tk_65 + 1) nd_65 cc_65 (min 80 (ac + 1)) pN pn rN rc ac rO_K T_133 hT hKT hK41 Q_133.1 ok_93 (hnm.mv (Q_133.2.1.1 6 (by decide) (by decide) (by decide))) hpn (show R_133 130 0 = nI pn from by rw [hR_133]; exact (show R_93 130 0 = nI pn from by rw [hR_93]; exact ((congrFun (q_65.2.1.1 130 (by decide) (by decide) (by decide)) 0).trans hpn9))) (hnr.mv (Q_133.2.1.1 7 (by decide) (by decide) (by decide))) hrc (show R_133 109 0 = nI rc from by rw [hR_133]; exact (show R_93 109 0 = nI rc from by rw [hR_93]; exact ((congrFun (q_65.2.1.1 109 (by decide) (by decide) (by decide)) 0).trans hrc9))) (show R_133 108 0 = nI (4 - 4) from by rw [hR_133]; exact (show R_93 108 0 = nI (4 - 4) from by rw [hR_93]; exact (e8_65.trans hv8))) (by omega)) (cwV 2 hts gX14_act_X14_plain rfl rfl rfl (by decide +kernel) ⟨(by show 29 + 1 ≤ 4 * d0 + 42; omega), (by show 8 + (3 + 11) + 721 ≤ 100 * d0 + 1060; omega)⟩) (q_pV hA hW hS (ci := 12) rfl rO_0) rfl rfl hl.1 rfl (lv_room (Nat.le_of_ble_eq_true rfl)) dX14_act_164 ⟨Nat.le_of_ble_eq_true rfl, Nat.le_of_ble_eq_true rfl⟩) hS (fun f_164 n_164 H locs hp hW hS => ?_)
    obtain ⟨R_164, tk_164, nd_164, cc_164, ac_164, q_164, e7_164, e8_164, ec_164, ex_164, rfl, rfl⟩ := hp
    have G_164 : p_go K T (p_beg K u) (p_take K 29 (p_val K Wd pN pn 4 (p_take K 10 (p_known K Wd pN pn (p_beg K u))))) := ((((go_known hKT).trans (go_take (w := 10) hKT (by decide))).trans (go_val0 hKT 4 _)).trans (go_take hKT (by decide)))
    have GG_164 := G_164 ok_93
    have ok_164 := GG_164.1
    have le_164 := GG_164.2.2.2.1
    have er_164 := GG_164.2.2.2.2
    have Q_164 := Q_133.trans9 q_164 (by omega)
    have T_164 := Q_164.tok hTK
    have num_164 := Q_164.2.2
    unfold r_num at num_164
    have bt_164 := Q_164.1.1.2.1
    have bn_164 := Q_164.1.1.2.2.2.1
    have bc_164 := Q_164.1.1.2.2.2.2.2.1
    have ba_164 := Q_164.1.1.2.2.2.2.2.2.2
    have qn_164 := q_164.2.2
    unfold r_num at qn_164
    have h8_164 : (p_take K 29 (p_val K Wd pN pn 4 (p_take K 10 (p_known K Wd pN pn (p_beg K u))))).2.1 ≠ 40 → R_164 108 0 = nI (4 - 4) := fun z => (e8_164 z).trans (h8_133 (le_164 z))
    rw [rO_rO] at hW
    have hW : q_W E (rO E f M R_164) n H := hW
    have eA : p_act K Wd pN pn rN rc (p_blk K Wd pN pn rN rc d0) u = p_take K 29 (p_val K Wd pN pn 4 (p_take K 10 (p_known K Wd pN pn (p_beg K u)))) := by unfold p_act; rw [hw]; rfl
    have eS : p_actS K Wd pN pn rN rc RS (p_blk K Wd pN pn rN rc d0) (p_blkS K Wd pN pn rN rc RS d0) u = k_boil pn (ix pN pn (Wd (p_beg K u).1)).toNatClampNeg (p_valD K Wd pN pn 4 (p_take K 10 (p_known K Wd pN pn (p_beg K u)))) := by unfold p_actS; rw [hw]; rfl
    have EX : (p_act K Wd pN pn rN rc (p_blk K Wd pN pn rN rc d0) u).2.1 ≠ 40 → (p_act K Wd pN pn rN rc (p_blk K Wd pN pn rN rc d0) u).2.2.1 = 0 → ac < 80 ∧ ac + 1 ≤ ac_164 ∧ R_164 35 ac = -1 ∧ mA (bR R_164 25) pn nd_164 cc_164 ac_164 RS rc (d0 + 1) ac (p_actS K Wd pN pn rN rc RS (p_blk K Wd pN pn rN rc d0) (p_blkS K Wd pN pn rN rc RS d0) u) := by
      intro h1 h2
      rw [eA] at h1 h2
      have k1 := le_164 h1
      have hb9 := beg_ok (er_164 h2)
      have hac8 : ac < 80 := by have z := hnw.2.2.2.2.2; rw [z]; exact Nat.lt_of_le_of_lt (Nat.min_le_right _ _) hb9
      have h0 : ac < min 80 (ac + 1) := Nat.lt_min.mpr ⟨hac8, Nat.lt_succ_self _⟩
      have rr := ex_164.1 h0
      have mm := ex_164.2 h0 h1 h2
      have y35 := rr.1.trans (y35_133 trivial)
      have y28 := rr.2.trans (y28_133 trivial)
      refine ⟨hac8, by omega, y35, by omega, ?_⟩
      rw [eS]
      obtain ⟨i, x, m1, m2, m3, m4, m5⟩ := mm
      exact Or.inr (Or.inr (Or.inr (Or.inl (⟨y28, i, x, _, m1, m3, m4, m5, by rw [m2, nI_clamp (by omega)]⟩))))
    refine lv_iload_n hx hb dX14_act_167 rfl (lv_at hl 1 rfl) ?_
    exact q_iret hx hb hr hlocks hW hS ⟨_, _, _, _, _, (by rw [eA]; exact Q_164), (e7_164.trans (show R_133 107 0 = r 107 0 from by rw [hR_133]; exact (show R_93 107 0 = r 107 0 from by rw [hR_93]; exact (e7_65.trans rfl)))), (fun h1 => by rw [eA] at h1; exact (fun z => (e8_164 z).trans (show R_133 108 0 = r 108 0 from by rw [hR_133]; exact (show R_93 108 0 = r 108 0 from by rw [hR_93]; exact (e8_65.trans rfl)))) h1), trivial, ⟨rfl, EX⟩, rfl, rfl⟩ (Nat.le_of_ble_eq_true rfl) (Nat.le_of_ble_eq_true rfl) dX14_act_168

set_option maxHeartbeats 4000000 in
set_option maxRecDepth 100000 in
theorem kX14_act_11 (l : Launch) (E : q_E) (f : q_H) (n : Nat) (M : Nat) (r : q_R) (K : Nat → Nat) (Wd : Nat → Int64) (T : Nat) (u : p_S) (tk nd cc ac : Nat) (pN : Nat → Int64) (pn : Nat) (rN : Nat → Int64) (rc : Nat) (RS : Nat → q_S) (d0 : Nat)  (hm : RM E f M r) (hTK : r_T r K Wd T) (hT : T ≤ 400) (hKT : 39 ≤ K T) (hK41 : ∀ j, K j < 41) (hP : r_P r K T u tk nd cc ac) (hok : p_ok K T u) (hnm : r_nm r K Wd T 6 pn pN) (hpn : pn ≤ 8) (hpn9 : r 130 0 = nI pn) (hnr : r_nm r K Wd T 7 rc rN) (hrc : rc ≤ 6) (hrc9 : r 109 0 = nI rc) (hv8 : r 108 0 = nI (4 - 4)) (ihB : RBLK l E RS d0) (hd6 : d0 + 1 ≤ 6) (hv7 : r 107 0 = nI (6 - d0)) (hw : u.2.1 = 11) : Met l yX14_act wsX14_act ({ frames := 4 * d0 + 42, cells := 0, slots := 0, locals := 100 * d0 + 1060 }) (q_P E [.ref M] f n) (q_Qi E (fun r0 f1 n1 => ∃ (r1 : q_R) (tk1 nd1 cc1 ac1 : Nat), r_Q r r1 K T ((p_act K Wd pN pn rN rc (p_blk K Wd pN pn rN rc d0) u)) tk nd cc ac tk1 nd1 cc1 ac1 ∧ r1 107 0 = r 107 0 ∧ (((p_act K Wd pN pn rN rc (p_blk K Wd pN pn rN rc d0) u)).2.1 ≠ 40 → r1 108 0 = r 108 0) ∧ (True) ∧ (nI ac = r0 ∧ ((p_act K Wd pN pn rN rc (p_blk K Wd pN pn rN rc d0) u).2.1 ≠ 40 → (p_act K Wd pN pn rN rc (p_blk K Wd pN pn rN rc d0) u).2.2.1 = 0 → ac < 80 ∧ ac + 1 ≤ ac1 ∧ r1 35 ac = -1 ∧ mA (bR r1 25) pn nd1 cc1 ac1 RS rc (d0 + 1) ac (p_actS K Wd pN pn rN rc RS (p_blk K Wd pN pn rN rc d0) (p_blkS K Wd pN pn rN rc RS d0) u))) ∧ rO E f M r1 = f1 ∧ n = n1)) 0 0 (q_ge E) := by
  refine Met.ofW (cc := cX14_act) (maxL := 3) (ret := (some .int)) (by decide) rfl ?_
  intro p e s m args below meth c s₁ B hml hv
  obtain ⟨rfl, hA, hW⟩ := hv
  have hx := B.exec
  have hb := B.bytes
  have hr := B.returns
  have hts := atoms_spec (ws := wsX14_act) B.pre
  have hown : s.vm.findClass RX14 = some m.cls := findClass_of_methodNamed B.named
  have hlocks := B.notSynchronized
  have hS : va_S (q_ge E) s.heap s.heap [] := va_S.rf
  have iX13 : ∀ w ∈ wsX130, w ∈ wsX14_act := by decide +kernel
  have iX14 : ∀ w ∈ wsX140, w ∈ wsX14_act := by decide +kernel
  have hl := lv_entry ([.ref M]) (n := 3) (Nat.le_of_ble_eq_true rfl)
  rw [lg_entry_eq]
  generalize (lg_sl ([.ref M]) ++ List.replicate (3 - (lg_sl ([.ref M])).length) Slot.unset).toArray = ls at hl ⊢
  have hl : lv_has ls 3 [(0, .ref M)] := hl
  have hmE := hm.eq
  rw [hm.eq] at hW
  have Q0 := r_Q.rf hP
  have htk := hP.1.2.1
  have hnd := hP.1.2.2.2.1
  have hcc := hP.1.2.2.2.2.2.1
  have hac := hP.1.2.2.2.2.2.2.2
  have hnw := hP.nw (show u.2.1 ≠ 40 by omega)
  have h39 : u.2.1 < 39 := by omega
  refine lv_bipush (v := 80) hx hb dX14_act_0 (by decide) ?_
  refine lv_aload_n hx hb dX14_act_2 rfl (lv_at hl 0 rfl) ?_
  refine q_get hx hb hts hown hA hW iX14 rO_0 rfl 18 (by decide) (hts (.fieldLink RX14 42 "HighRecipesModel" "fresh" "LHighRecipesModel$Book;") (by decide +kernel)) (fun _ h9 => h9) (v := .ref (M + 25)) rfl dX14_act_3 ?_
  refine q_getN hx hb hts hown hA hW iX13 rO_25 rfl 4 (by decide) (va_Nw.use rfl (hA.2.2.2.1 ("HighRecipesModel", 215, "HighRecipesModel$Book", "acts", "I", "HighRecipesModel") (by decide +kernel))) (fun _ h9 => h9) (v := .int (nI ac)) (congrArg (fun z => some (Value.int z)) hP.1.2.2.2.2.2.2.1) dX14_act_6 ?_
  refine va_mmin hx hb (hml.trans hl.1.symm) hown (hts (.methodLink RX14 57 Lib.Math.min.name) (by decide +kernel)) (hts (.static Lib.Math.min.name) (by decide +kernel)) (hts (.initialized "java/lang/Math") (by decide +kernel)) (hts (.code Lib.Math.min.name Lib.Math.min.code 2 (some .int)) (by decide +kernel)) (by show 1 ≤ 4 * d0 + 42; omega) (by show 13 ≤ 100 * d0 + 1060; omega) (Nat.le_of_ble_eq_true rfl) (Nat.le_of_ble_eq_true rfl) dX14_act_9 ?_
  rw [show (if nI ac < 80 then nI ac else 80) = nI ac from (q_min_n (a := 80) (b := ac) (by decide) (by omega)).trans (by rw [Nat.min_eq_right hac])]
  refine lv_istore_n (lv' := [(1, .int (nI ac)), (0, .ref M)]) hx hb dX14_act_12 rfl hl (by decide) rfl (fun ls hl => ?_)
  refine lv_aload_n hx hb dX14_act_13 rfl (lv_at hl 1 rfl) ?_
  refine q_get hx hb hts hown hA hW iX14 rO_0 rfl 4 (by decide) (hts (.fieldLink RX14 17 "HighRecipesModel" "kind" "[I") (by decide +kernel)) (fun _ h9 => h9) (v := .ref (M + 2)) rfl dX14_act_14 ?_
  refine lv_aload_n hx hb dX14_act_17 rfl (lv_at hl 1 rfl) ?_
  refine q_get hx hb hts hown hA hW iX14 rO_0 rfl 8 (by decide) (hts (.fieldLink RX14 120 "HighRecipesModel" "token" "I") (by decide +kernel)) (fun _ h9 => h9) (v := .int (nI tk)) (congrArg (fun z => some (Value.int z)) hP.1.1) dX14_act_18 ?_
  refine q_ald hx hb hA hW (rO_2 (g := r 2) rfl) tk rfl (by omega) (by decide) (x := 11) (by rw [hTK.1 tk htk, hnw.2.1, ← hnw.2.2.1, hw]; rfl) dX14_act_21 ?_
  refine lv_istore_n (lv' := [(2, .int 11), (1, .int (nI ac)), (0, .ref M)]) hx hb dX14_act_22 rfl hl (by decide) rfl (fun ls hl => ?_)
  refine lv_iload_n hx hb dX14_act_23 rfl (lv_at hl 0 rfl) ?_
  refine lv_iconst (v := 3) hx hb dX14_act_24 (by decide) ?_
  refine lv_icmp_eq (tgt := 57) hx hb dX14_act_25 (by decide) (fun c_25 => False.elim ((fun h9 => absurd h9 (by decide)) c_25)) (fun c_25 => ?_)
  refine lv_iload_n hx hb dX14_act_28 rfl (lv_at hl 0 rfl) ?_
  refine lv_bipush (v := 7) hx hb dX14_act_29 (by decide) ?_
  refine lv_icmp_eq (tgt := 57) hx hb dX14_act_31 (by decide) (fun c_31 => False.elim ((fun h9 => absurd h9 (by decide)) c_31)) (fun c_31 => ?_)
  refine lv_iload_n hx hb dX14_act_34 rfl (lv_at hl 0 rfl) ?_
  refine lv_bipush (v := 9) hx hb dX14_act_35 (by decide) ?_
  refine lv_icmp_eq (tgt := 57) hx hb dX14_act_37 (by decide) (fun c_37 => False.elim ((fun h9 => absurd h9 (by decide)) c_37)) (fun c_37 => ?_)
  refine lv_iload_n hx hb dX14_act_40 rfl (lv_at hl 0 rfl) ?_
  refine lv_bipush (v := 11) hx hb dX14_act_41 (by decide) ?_
  refine lv_bipush (v := 16) hx hb dX14_act_43 (by decide) ?_
  refine q_ci (va_runS (As := [.int 11, .int 11, .int 16]) (rest := []) ⟨hx, hb, hml, hown, hts⟩ (kX14_isIn l E (rO E f M r) n 11 11 16) (va_cwS 3 hts gX14_act_X14_isIn rfl rfl rfl (by decide +kernel) ⟨(by show 0 + 1 ≤ 4 * d0 + 42; omega), (by show 8 + (3 + 11) + 0 ≤ 100 * d0 + 1060; omega)⟩) (q_pS hA hW hS) rfl rfl hl.1 rfl (lv_room (Nat.le_of_ble_eq_true rfl)) dX14_act_45 ⟨Nat.le_of_ble_eq_true rfl, Nat.le_of_ble_eq_true rfl⟩) hS (fun r_45 f_45 n_45 H locs hp hW hS => ?_)
  obtain ⟨rfl, rfl, rfl⟩ := hp
  have hW : q_W E (rO E f M r) n H := hW
  refine lv_if_ne (tgt := 57) hx hb dX14_act_48 (by decide) (fun c_48 => ?_) (fun c_48 => False.elim ((fun h9 => absurd h9 (by decide)) c_48))
  refine lv_iload_n hx hb dX14_act_57 rfl (lv_at hl 1 rfl) ?_
  refine lv_bipush (v := 80) hx hb dX14_act_58 (by decide) ?_
  refine lv_icmp_ne (tgt := 68) hx hb dX14_act_60 (by decide) (fun c_60 => ?_) (fun c_60 => ?_)
  · have e80 : ¬ ac = 80 := fun h9 => c_60 (by rw [h9]; rfl)
    refine lv_aload_n hx hb dX14_act_68 rfl (lv_at hl 2 rfl) ?_
    refine q_get hx hb hts hown hA hW iX14 rO_0 rfl 18 (by decide) (hts (.fieldLink RX14 42 "HighRecipesModel" "fresh" "LHighRecipesModel$Book;") (by decide +kernel)) (fun _ h9 => h9) (v := .ref (M + 25)) rfl dX14_act_69 ?_
    refine lv_bipush (v := 80) hx hb dX14_act_72 (by decide) ?_
    refine lv_iload_n hx hb dX14_act_74 rfl (lv_at hl 1 rfl) ?_
    refine lv_iconst (v := 1) hx hb dX14_act_75 (by decide) ?_
    refine lv_iadd hx hb dX14_act_76 ?_
    rw [nI_1]
    refine va_mmin hx hb (hml.trans hl.1.symm) hown (hts (.methodLink RX14 57 Lib.Math.min.name) (by decide +kernel)) (hts (.static Lib.Math.min.name) (by decide +kernel)) (hts (.initialized "java/lang/Math") (by decide +kernel)) (hts (.code Lib.Math.min.name Lib.Math.min.code 2 (some .int)) (by decide +kernel)) (by show 1 ≤ 4 * d0 + 42; omega) (by show 14 ≤ 100 * d0 + 1060; omega) (Nat.le_of_ble_eq_true rfl) (Nat.le_of_ble_eq_true rfl) dX14_act_77 ?_
    rw [show (if nI (ac + 1) < 80 then nI (ac + 1) else 80) = nI (min 80 (ac + 1)) from q_min_n (a := 80) (b := ac + 1) (by decide) (by omega)]
    refine q_putN hx hb hts hown hA hW hS iX13 tyX13 tyX13_ok nmX13 rO_25 rfl 4 (by decide) (va_Nw.use rfl (hA.2.2.2.1 ("HighRecipesModel", 215, "HighRecipesModel$Book", "acts", "I", "HighRecipesModel") (by decide +kernel))) (fun _ h9 => h9) rfl rfl rfl (Nat.le_of_ble_eq_true rfl) dX14_act_80 (fun H locs hW hS => ?_)
    have hW := q_s25 132 (nI (min 80 (ac + 1))) hW rfl (by decide)
    refine lv_aload_n hx hb dX14_act_83 rfl (lv_at hl 2 rfl) ?_
    refine lv_dup hx hb dX14_act_84 rfl ?_
    refine q_get hx hb hts hown hA hW iX14 rO_0 rfl 8 (by decide) (hts (.fieldLink RX14 120 "HighRecipesModel" "token" "I") (by decide +kernel)) (fun _ h9 => h9) (v := .int (nI tk)) (congrArg (fun z => some (Value.int z)) hP.1.1) dX14_act_85 ?_
    refine lv_iconst (v := 1) hx hb dX14_act_88 (by decide) ?_
    refine lv_iadd hx hb dX14_act_89 ?_
    refine q_put hx hb hts hown hA hW hS iX14 tyX14 tyX14_ok nmX14 rO_0 rfl 8 (by decide) (hts (.fieldLink RX14 120 "HighRecipesModel" "token" "I") (by decide +kernel)) (fun _ h9 => h9) rfl rfl rfl (Nat.le_of_ble_eq_true rfl) dX14_act_90 (fun H locs hW hS => ?_)
    rw [show (nI tk) + 1 = nI (tk + 1) from nI_1 tk] at hW
    have hW := q_s0 103 (nI (tk + 1)) hW rfl (by decide)
    obtain ⟨R_93, hR_93⟩ : ∃ z, z = rp (rp r 132 (fun _ => nI (min 80 (ac + 1)))) 103 (fun _ => nI (tk + 1)) := ⟨_, rfl⟩
    rw [← hR_93] at hW
    have Q_93 : r_Q r R_93 K T (p_beg K u) tk nd cc ac (tk + 1) nd cc (min 80 (ac + 1)) := by rw [hR_93]; exact (r_Q.beg (by rw [decide_eq_false e80]; exact Q0) h39 hKT)
    have T_93 := Q_93.tok hTK
    have num_93 := Q_93.2.2
    unfold r_num at num_93
    have bt_93 := Q_93.1.1.2.1
    have bn_93 := Q_93.1.1.2.2.2.1
    have bc_93 := Q_93.1.1.2.2.2.2.2.1
    have ba_93 := Q_93.1.1.2.2.2.2.2.2.2
    have G_93 : p_go K T u (p_beg K u) := (go_beg hKT h39)
    have GG_93 := G_93 hok
    have ok_93 := GG_93.1
    have le_93 := GG_93.2.2.2.1
    have er_93 := GG_93.2.2.2.2
    have h8_93 : (p_beg K u).2.1 ≠ 40 → R_93 108 0 = nI (4 - 4) := fun z => by rw [hR_93]; exact (fun _ => hv8) (le_93 z)
    refine lv_aload_n hx hb dX14_act_93 rfl (lv_at hl 2 rfl) ?_
    refine q_get hx hb hts hown hA hW iX14 rO_0 rfl 18 (by decide) (hts (.fieldLink RX14 42 "HighRecipesModel" "fresh" "LHighRecipesModel$Book;") (by decide +kernel)) (fun _ h9 => h9) (v := .ref (M + 25)) rfl dX14_act_94 ?_
    refine q_getN hx hb hts hown hA hW iX13 rO_25 rfl 5 (by decide) (va_Nw.use rfl (hA.2.2.2.1 ("HighRecipesModel", 218, "HighRecipesModel$Book", "does", "[I", "HighRecipesModel") (by decide +kernel))) (fun _ h9 => h9) (v := .ref (M + 28)) rfl dX14_act_97 ?_
    refine lv_iload_n hx hb dX14_act_100 rfl (lv_at hl 1 rfl) ?_
    refine lv_iload_n hx hb dX14_act_101 rfl (lv_at hl 0 rfl) ?_
    refine q_ast hx hb hA hW hS (rO_28 (g := R_93 28) rfl) ac rfl (by omega) (by decide) dX14_act_102 (fun H locs hW hS => ?_)
    have hW := q_sa 28 hW rfl rfl
    refine lv_aload_n hx hb dX14_act_103 rfl (lv_at hl 2 rfl) ?_
    refine q_get hx hb hts hown hA hW iX14 rO_0 rfl 18 (by decide) (hts (.fieldLink RX14 42 "HighRecipesModel" "fresh" "LHighRecipesModel$Book;") (by decide +kernel)) (fun _ h9 => h9) (v := .ref (M + 25)) rfl dX14_act_104 ?_
    refine q_getN hx hb hts hown hA hW iX13 rO_25 rfl 12 (by decide) (va_Nw.use rfl (hA.2.2.2.1 ("HighRecipesModel", 212, "HighRecipesModel$Book", "next", "[I", "HighRecipesModel") (by decide +kernel))) (fun _ h9 => h9) (v := .ref (M + 35)) rfl dX14_act_107 ?_
    refine lv_iload_n hx hb dX14_act_110 rfl (lv_at hl 1 rfl) ?_
    refine lv_iconst (v := (-1)) hx hb dX14_act_111 (by decide) ?_
    refine q_ast hx hb hA hW hS (rO_35 (g := R_93 35) rfl) ac rfl (by omega) (by decide) dX14_act_112 (fun H locs hW hS => ?_)
    have hW := q_sa 35 hW rfl rfl
    refine lv_aload_n hx hb dX14_act_113 rfl (lv_at hl 2 rfl) ?_
    refine q_get hx hb hts hown hA hW iX14 rO_0 rfl 18 (by decide) (hts (.fieldLink RX14 42 "HighRecipesModel" "fresh" "LHighRecipesModel$Book;") (by decide +kernel)) (fun _ h9 => h9) (v := .ref (M + 25)) rfl dX14_act_114 ?_
    refine q_getN hx hb hts hown hA hW iX13 rO_25 rfl 10 (by decide) (va_Nw.use rfl (hA.2.2.2.1 ("HighRecipesModel", 221, "HighRecipesModel$Book", "block", "[I", "HighRecipesModel") (by decide +kernel))) (fun _ h9 => h9) (v := .ref (M + 33)) rfl dX14_act_117 ?_
    refine lv_iload_n hx hb dX14_act_120 rfl (lv_at hl 1 rfl) ?_
    refine lv_iconst (v := (-1)) hx hb dX14_act_121 (by decide) ?_
    refine q_ast hx hb hA hW hS (rO_33 (g := R_93 33) rfl) ac rfl (by omega) (by decide) dX14_act_122 (fun H locs hW hS => ?_)
    have hW := q_sa 33 hW rfl rfl
    refine lv_aload_n hx hb dX14_act_123 rfl (lv_at hl 2 rfl) ?_
    refine q_get hx hb hts hown hA hW iX14 rO_0 rfl 18 (by decide) (hts (.fieldLink RX14 42 "HighRecipesModel" "fresh" "LHighRecipesModel$Book;") (by decide +kernel)) (fun _ h9 => h9) (v := .ref (M + 25)) rfl dX14_act_124 ?_
    refine q_getN hx hb hts hown hA hW iX13 rO_25 rfl 11 (by decide) (va_Nw.use rfl (hA.2.2.2.1 ("HighRecipesModel", 224, "HighRecipesModel$Book", "other", "[I", "HighRecipesModel") (by decide +kernel))) (fun _ h9 => h9) (v := .ref (M + 34)) rfl dX14_act_127 ?_
    refine lv_iload_n hx hb dX14_act_130 rfl (lv_at hl 1 rfl) ?_
    refine lv_iconst (v := (-1)) hx hb dX14_act_131 (by decide) ?_
    refine q_ast hx hb hA hW hS (rO_34 (g := R_93 34) rfl) ac rfl (by omega) (by decide) dX14_act_132 (fun H locs hW hS => ?_)
    have hW := q_sa 34 hW rfl rfl
    obtain ⟨R_133, hR_133⟩ : ∃ z, z = rp (rp (rp (rp R_93 28 (upd (R_93 28) ac 11)) 35 (upd (R_93 35) ac (-1))) 33 (upd (R_93 33) ac (-1))) 34 (upd (R_93 34) ac (-1)) := ⟨_, rfl⟩
    rw [← hR_133] at hW
    have Q_133 : r_Q r R_133 K T (p_beg K u) tk nd cc ac (tk + 1) nd cc (min 80 (ac + 1)) := by rw [hR_133]; exact ((((Q_93.st (by decide) (by omega)).st (by decide) (by omega)).st (by decide) (by omega)).st (by decide) (by omega))
    have T_133 := Q_133.tok hTK
    have num_133 := Q_133.2.2
    unfold r_num at num_133
    have bt_133 := Q_133.1.1.2.1
    have bn_133 := Q_133.1.1.2.2.2.1
    have bc_133 := Q_133.1.1.2.2.2.2.2.1
    have ba_133 := Q_133.1.1.2.2.2.2.2.2.2
    have y28_133 : True → R_133 28 ac = 11 := fun _ => by rw [hR_133]; exact st_row (r := R_93) (j := 28) (q0 := ac) (x := 11)
    have y35_133 : True → R_133 35 ac = -1 := fun _ => by rw [hR_133]; exact st_row (r := R_93) (j := 35) (q0 := ac) (x := -1)
    have y33_133 : True → R_133 33 ac = -1 := fun _ => by rw [hR_133]; exact st_row (r := R_93) (j := 33) (q0 := ac) (x := -1)
    have y34_133 : True → R_133 34 ac = -1 := fun _ => by rw [hR_133]; exact st_row (r := R_93) (j := 34) (q0 := ac) (x := -1)
    have h8_133 : (p_beg K u).2.1 ≠ 40 → R_133 108 0 = nI (4 - 4) := fun z => by rw [hR_133]; exact h8_93 z
    refine lv_iload_n hx hb dX14_act_133 rfl (lv_at hl 0 rfl) ?_
    refine lv_bipush (v := 15) hx hb dX14_act_134 (by decide) ?_
    refine lv_icmp_ne (tgt := 147) hx hb dX14_act_136 (by decide) (fun c_136 => ?_) (fun c_136 => False.elim ((fun h9 => absurd h9 (by decide)) c_136))
    refine lv_iload_n hx hb dX14_act_147 rfl (lv_at hl 0 rfl) ?_
    refine lv_bipush (v := 16) hx hb dX14_act_148 (by decide) ?_
    refine lv_icmp_ne (tgt := 161) hx hb dX14_act_150 (by decide) (fun c_150 => ?_) (fun c_150 => False.elim ((fun h9 => absurd h9 (by decide)) c_150))
    refine lv_aload_n hx hb dX14_act_161 rfl (lv_at hl 2 rfl) ?_
    refine lv_iload_n hx hb dX14_act_162 rfl (lv_at hl 1 rfl) ?_
    refine lv_iload_n hx hb dX14_act_163 rfl (lv_at hl 0 rfl) ?_
    refine q_cv (va_runV (As := [.int (nI ac), .int 11]) (rest := []) ⟨hx, hb, hml, hown, hts⟩ (kX14_plain_11 l E (rO E f M R_133) n M R_133 K Wd T (p_beg K u) (tk + 1) nd cc (min 80 (ac + 1)) pN pn rN rc ac rO_K T_133 hT hKT hK41 Q_133.1 ok_93 (hnm.mv (Q_133.2.1.1 6 (by decide) (by decide) (by decide))) hpn (show R_133 130 0 = nI pn from by rw [hR_133]; exact (show R_93 130 0 = nI pn from by rw [hR_93]; exact hpn9)) (hnr.mv (Q_133.2.1.1 7 (by decide) (by decide) (by decide))) hrc (show R_133 109 0 = nI rc from by rw [hR_133]; exact (show R_93 109 0 = nI rc from by rw [hR_93]; exact hrc9)) (show R_133 108 0 = nI (4 - 4) from by rw [hR_133]; exact (show R_93 108 0 = nI (4 - 4) from by rw [hR_93]; exact hv8)) (by omega)) (cwV 2 hts gX14_act_X14_plain rfl rfl rfl (by decide +kernel) ⟨(by show 4 + 1 ≤ 4 * d0 + 42; omega), (by show 8 + (3 + 11) + 89 ≤ 100 * d0 + 1060; omega)⟩) (q_pV hA hW hS (ci := 12) rfl rO_0) rfl rfl hl.1 rfl (lv_room (Nat.le_of_ble_eq_true rfl)) dX14_act_164 ⟨Nat.le_of_ble_eq_true rfl, Nat.le_of_ble_eq_true rfl⟩) hS (fun f_164 n_164 H locs hp hW hS => ?_)
    obtain ⟨R_164, tk_164, nd_164, cc_164, ac_164, q_164, e7_164, e8_164, ec_164, ex_164, rfl, rfl⟩ := hp
    have G_164 : p_go K T (p_beg K u) (p_take K 29 (p_known K Wd pN pn (p_beg K u))) := ((go_known hKT).trans (go_take hKT (by decide)))
    have GG_164 := G_164 ok_93
    have ok_164 := GG_164.1
    have le_164 := GG_164.2.2.2.1
    have er_164 := GG_164.2.2.2.2
    have Q_164 := Q_133.trans9 q_164 (by omega)
    have T_164 := Q_164.tok hTK
    have num_164 := Q_164.2.2
    unfold r_num at num_164
    have bt_164 := Q_164.1.1.2.1
    have bn_164 := Q_164.1.1.2.2.2.1
    have bc_164 := Q_164.1.1.2.2.2.2.2.1
    have ba_164 := Q_164.1.1.2.2.2.2.2.2.2
    have qn_164 := q_164.2.2
    unfold r_num at qn_164
    have h8_164 : (p_take K 29 (p_known K Wd pN pn (p_beg K u))).2.1 ≠ 40 → R_164 108 0 = nI (4 - 4) := fun z => (e8_164 z).trans (h8_133 (le_164 z))
    rw [rO_rO] at hW
    have hW : q_W E (rO E f M R_164) n H := hW
    have eA : p_act K Wd pN pn rN rc (p_blk K Wd pN pn rN rc d0) u = p_take K 29 (p_known K Wd pN pn (p_beg K u)) := by unfold p_act; rw [hw]; rfl
    have eS : p_actS K Wd pN pn rN rc RS (p_blk K Wd pN pn rN rc d0) (p_blkS K Wd pN pn rN rc RS d0) u = k_empty pn (ix pN pn (Wd (p_beg K u).1)).toNatClampNeg := by unfold p_actS; rw [hw]; rfl
    have EX : (p_act K Wd pN pn rN rc (p_blk K Wd pN pn rN rc d0) u).2.1 ≠ 40 → (p_act K Wd pN pn rN rc (p_blk K Wd pN pn rN rc d0) u).2.2.1 = 0 → ac < 80 ∧ ac + 1 ≤ ac_164 ∧ R_164 35 ac = -1 ∧ mA (bR R_164 25) pn nd_164 cc_164 ac_164 RS rc (d0 + 1) ac (p_actS K Wd pN pn rN rc RS (p_blk K Wd pN pn rN rc d0) (p_blkS K Wd pN pn rN rc RS d0) u) := by
      intro h1 h2
      rw [eA] at h1 h2
      have k1 := le_164 h1
      have hb9 := beg_ok (er_164 h2)
      have hac8 : ac < 80 := by have z := hnw.2.2.2.2.2; rw [z]; exact Nat.lt_of_le_of_lt (Nat.min_le_right _ _) hb9
      have h0 : ac < min 80 (ac + 1) := Nat.lt_min.mpr ⟨hac8, Nat.lt_succ_self _⟩
      have rr := ex_164.1 h0
      have mm := ex_164.2 h0 h1 h2
      have y35 := rr.1.trans (y35_133 trivial)
      have y28 := rr.2.trans (y28_133 trivial)
      refine ⟨hac8, by omega, y35, by omega, ?_⟩
      rw [eS]
      obtain ⟨i, m1, m2, m3⟩ := mm
      exact Or.inr (Or.inr (Or.inr (Or.inr (Or.inl (⟨y28, i, m1, m3, by rw [m2, nI_clamp (by omega)]⟩)))))
    refine lv_iload_n hx hb dX14_act_167 rfl (lv_at hl 1 rfl) ?_
    exact q_iret hx hb hr hlocks hW hS ⟨_, _, _, _, _, (by rw [eA]; exact Q_164), (e7_164.trans (show R_133 107 0 = r 107 0 from by rw [hR_133]; exact (show R_93 107 0 = r 107 0 from by rw [hR_93]; exact rfl))), (fun h1 => by rw [eA] at h1; exact (fun z => (e8_164 z).trans (show R_133 108 0 = r 108 0 from by rw [hR_133]; exact (show R_93 108 0 = r 108 0 from by rw [hR_93]; exact rfl))) h1), trivial, ⟨rfl, EX⟩, rfl, rfl⟩ (Nat.le_of_ble_eq_true rfl) (Nat.le_of_ble_eq_true rfl) dX14_act_168
  · have e80 : ac = 80 := (nI_eq (by omega) (by decide)).1 c_60
    refine lv_aload_n hx hb dX14_act_63 rfl (lv_at hl 2 rfl) ?_
    refine lv_iconst (v := 4) hx hb dX14_act_64 (by decide) ?_
    refine q_cv (va_runV (As := [.int 4]) (rest := []) ⟨hx, hb, hml, hown, hts⟩ (kX14_mark l E (rO E f M r) n M r K Wd T u tk nd cc ac 4 rO_K hTK hT hKT hK41 Q0.1 hok) (cwV 1 hts gX14_act_X14_mark rfl rfl rfl (by decide +kernel) ⟨(by show 0 + 1 ≤ 4 * d0 + 42; omega), (by show 8 + (2 + 11) + 0 ≤ 100 * d0 + 1060; omega)⟩) (q_pV hA hW hS (ci := 12) rfl rO_0) rfl rfl hl.1 rfl (lv_room (Nat.le_of_ble_eq_true rfl)) dX14_act_65 ⟨Nat.le_of_ble_eq_true rfl, Nat.le_of_ble_eq_true rfl⟩) hS (fun f_65 n_65 H locs hp hW hS => ?_)
    obtain ⟨R_65, tk_65, nd_65, cc_65, ac_65, q_65, e7_65, e8_65, ec_65, ex_65, rfl, rfl⟩ := hp
    have G_65 : p_go K T u (p_ci true 4 u) := (go_ci (by decide) (by decide))
    have GG_65 := G_65 hok
    have ok_65 := GG_65.1
    have le_65 := GG_65.2.2.2.1
    have er_65 := GG_65.2.2.2.2
    have Q_65 := Q0.trans q_65
    have T_65 := Q_65.tok hTK
    have num_65 := Q_65.2.2
    unfold r_num at num_65
    have bt_65 := Q_65.1.1.2.1
    have bn_65 := Q_65.1.1.2.2.2.1
    have bc_65 := Q_65.1.1.2.2.2.2.2.1
    have ba_65 := Q_65.1.1.2.2.2.2.2.2.2
    have qn_65 := q_65.2.2
    unfold r_num at qn_65
    have h8_65 : (p_ci true 4 u).2.1 ≠ 40 → R_65 108 0 = nI (4 - 4) := fun z => (e8_65).trans ((fun _ => hv8) (le_65 z))
    rw [rO_rO] at hW
    have hW : q_W E (rO E f M R_65) n H := hW
    have eac9 : ac_65 = ac := (ec_65.2.trans rfl)
    rw [eac9] at Q_65
    refine lv_aload_n hx hb dX14_act_68 rfl (lv_at hl 2 rfl) ?_
    refine q_get hx hb hts hown hA hW iX14 rO_0 rfl 18 (by decide) (hts (.fieldLink RX14 42 "HighRecipesModel" "fresh" "LHighRecipesModel$Book;") (by decide +kernel)) (fun _ h9 => h9) (v := .ref (M + 25)) rfl dX14_act_69 ?_
    refine lv_bipush (v := 80) hx hb dX14_act_72 (by decide) ?_
    refine lv_iload_n hx hb dX14_act_74 rfl (lv_at hl 1 rfl) ?_
    refine lv_iconst (v := 1) hx hb dX14_act_75 (by decide) ?_
    refine lv_iadd hx hb dX14_act_76 ?_
    rw [nI_1]
    refine va_mmin hx hb (hml.trans hl.1.symm) hown (hts (.methodLink RX14 57 Lib.Math.min.name) (by decide +kernel)) (hts (.static Lib.Math.min.name) (by decide +kernel)) (hts (.initialized "java/lang/Math") (by decide +kernel)) (hts (.code Lib.Math.min.name Lib.Math.min.code 2 (some .int)) (by decide +kernel)) (by show 1 ≤ 4 * d0 + 42; omega) (by show 14 ≤ 100 * d0 + 1060; omega) (Nat.le_of_ble_eq_true rfl) (Nat.le_of_ble_eq_true rfl) dX14_act_77 ?_
    rw [show (if nI (ac + 1) < 80 then nI (ac + 1) else 80) = nI (min 80 (ac + 1)) from q_min_n (a := 80) (b := ac + 1) (by decide) (by omega)]
    refine q_putN hx hb hts hown hA hW hS iX13 tyX13 tyX13_ok nmX13 rO_25 rfl 4 (by decide) (va_Nw.use rfl (hA.2.2.2.1 ("HighRecipesModel", 215, "HighRecipesModel$Book", "acts", "I", "HighRecipesModel") (by decide +kernel))) (fun _ h9 => h9) rfl rfl rfl (Nat.le_of_ble_eq_true rfl) dX14_act_80 (fun H locs hW hS => ?_)
    have hW := q_s25 132 (nI (min 80 (ac + 1))) hW rfl (by decide)
    refine lv_aload_n hx hb dX14_act_83 rfl (lv_at hl 2 rfl) ?_
    refine lv_dup hx hb dX14_act_84 rfl ?_
    refine q_get hx hb hts hown hA hW iX14 rO_0 rfl 8 (by decide) (hts (.fieldLink RX14 120 "HighRecipesModel" "token" "I") (by decide +kernel)) (fun _ h9 => h9) (v := .int (nI tk_65)) (congrArg (fun z => some (Value.int z)) Q_65.1.1.1) dX14_act_85 ?_
    refine lv_iconst (v := 1) hx hb dX14_act_88 (by decide) ?_
    refine lv_iadd hx hb dX14_act_89 ?_
    refine q_put hx hb hts hown hA hW hS iX14 tyX14 tyX14_ok nmX14 rO_0 rfl 8 (by decide) (hts (.fieldLink RX14 120 "HighRecipesModel" "token" "I") (by decide +kernel)) (fun _ h9 => h9) rfl rfl rfl (Nat.le_of_ble_eq_true rfl) dX14_act_90 (fun H locs hW hS => ?_)
    rw [show (nI tk_65) + 1 = nI (tk_65 + 1) from nI_1 tk_65] at hW
    have hW := q_s0 103 (nI (tk_65 + 1)) hW rfl (by decide)
    obtain ⟨R_93, hR_93⟩ : ∃ z, z = rp (rp R_65 132 (fun _ => nI (min 80 (ac + 1)))) 103 (fun _ => nI (tk_65 + 1)) := ⟨_, rfl⟩
    rw [← hR_93] at hW
    have Q_93 : r_Q r R_93 K T (p_beg K u) tk nd cc ac (tk_65 + 1) nd_65 cc_65 (min 80 (ac + 1)) := by rw [hR_93]; exact (r_Q.beg (by rw [decide_eq_true e80]; exact Q_65) h39 hKT)
    have T_93 := Q_93.tok hTK
    have num_93 := Q_93.2.2
    unfold r_num at num_93
    have bt_93 := Q_93.1.1.2.1
    have bn_93 := Q_93.1.1.2.2.2.1
    have bc_93 := Q_93.1.1.2.2.2.2.2.1
    have ba_93 := Q_93.1.1.2.2.2.2.2.2.2
    have G_93 : p_go K T u (p_beg K u) := (go_beg hKT h39)
    have GG_93 := G_93 hok
    have ok_93 := GG_93.1
    have le_93 := GG_93.2.2.2.1
    have er_93 := GG_93.2.2.2.2
    have h8_93 : (p_beg K u).2.1 ≠ 40 → R_93 108 0 = nI (4 - 4) := fun z => by rw [hR_93]; exact h8_65 (le_93 z)
    refine lv_aload_n hx hb dX14_act_93 rfl (lv_at hl 2 rfl) ?_
    refine q_get hx hb hts hown hA hW iX14 rO_0 rfl 18 (by decide) (hts (.fieldLink RX14 42 "HighRecipesModel" "fresh" "LHighRecipesModel$Book;") (by decide +kernel)) (fun _ h9 => h9) (v := .ref (M + 25)) rfl dX14_act_94 ?_
    refine q_getN hx hb hts hown hA hW iX13 rO_25 rfl 5 (by decide) (va_Nw.use rfl (hA.2.2.2.1 ("HighRecipesModel", 218, "HighRecipesModel$Book", "does", "[I", "HighRecipesModel") (by decide +kernel))) (fun _ h9 => h9) (v := .ref (M + 28)) rfl dX14_act_97 ?_
    refine lv_iload_n hx hb dX14_act_100 rfl (lv_at hl 1 rfl) ?_
    refine lv_iload_n hx hb dX14_act_101 rfl (lv_at hl 0 rfl) ?_
    refine q_ast hx hb hA hW hS (rO_28 (g := R_93 28) rfl) ac rfl (by omega) (by decide) dX14_act_102 (fun H locs hW hS => ?_)
    have hW := q_sa 28 hW rfl rfl
    refine lv_aload_n hx hb dX14_act_103 rfl (lv_at hl 2 rfl) ?_
    refine q_get hx hb hts hown hA hW iX14 rO_0 rfl 18 (by decide) (hts (.fieldLink RX14 42 "HighRecipesModel" "fresh" "LHighRecipesModel$Book;") (by decide +kernel)) (fun _ h9 => h9) (v := .ref (M + 25)) rfl dX14_act_104 ?_
    refine q_getN hx hb hts hown hA hW iX13 rO_25 rfl 12 (by decide) (va_Nw.use rfl (hA.2.2.2.1 ("HighRecipesModel", 212, "HighRecipesModel$Book", "next", "[I", "HighRecipesModel") (by decide +kernel))) (fun _ h9 => h9) (v := .ref (M + 35)) rfl dX14_act_107 ?_
    refine lv_iload_n hx hb dX14_act_110 rfl (lv_at hl 1 rfl) ?_
    refine lv_iconst (v := (-1)) hx hb dX14_act_111 (by decide) ?_
    refine q_ast hx hb hA hW hS (rO_35 (g := R_93 35) rfl) ac rfl (by omega) (by decide) dX14_act_112 (fun H locs hW hS => ?_)
    have hW := q_sa 35 hW rfl rfl
    refine lv_aload_n hx hb dX14_act_113 rfl (lv_at hl 2 rfl) ?_
    refine q_get hx hb hts hown hA hW iX14 rO_0 rfl 18 (by decide) (hts (.fieldLink RX14 42 "HighRecipesModel" "fresh" "LHighRecipesModel$Book;") (by decide +kernel)) (fun _ h9 => h9) (v := .ref (M + 25)) rfl dX14_act_114 ?_
    refine q_getN hx hb hts hown hA hW iX13 rO_25 rfl 10 (by decide) (va_Nw.use rfl (hA.2.2.2.1 ("HighRecipesModel", 221, "HighRecipesModel$Book", "block", "[I", "HighRecipesModel") (by decide +kernel))) (fun _ h9 => h9) (v := .ref (M + 33)) rfl dX14_act_117 ?_
    refine lv_iload_n hx hb dX14_act_120 rfl (lv_at hl 1 rfl) ?_
    refine lv_iconst (v := (-1)) hx hb dX14_act_121 (by decide) ?_
    refine q_ast hx hb hA hW hS (rO_33 (g := R_93 33) rfl) ac rfl (by omega) (by decide) dX14_act_122 (fun H locs hW hS => ?_)
    have hW := q_sa 33 hW rfl rfl
    refine lv_aload_n hx hb dX14_act_123 rfl (lv_at hl 2 rfl) ?_
    refine q_get hx hb hts hown hA hW iX14 rO_0 rfl 18 (by decide) (hts (.fieldLink RX14 42 "HighRecipesModel" "fresh" "LHighRecipesModel$Book;") (by decide +kernel)) (fun _ h9 => h9) (v := .ref (M + 25)) rfl dX14_act_124 ?_
    refine q_getN hx hb hts hown hA hW iX13 rO_25 rfl 11 (by decide) (va_Nw.use rfl (hA.2.2.2.1 ("HighRecipesModel", 224, "HighRecipesModel$Book", "other", "[I", "HighRecipesModel") (by decide +kernel))) (fun _ h9 => h9) (v := .ref (M + 34)) rfl dX14_act_127 ?_
    refine lv_iload_n hx hb dX14_act_130 rfl (lv_at hl 1 rfl) ?_
    refine lv_iconst (v := (-1)) hx hb dX14_act_131 (by decide) ?_
    refine q_ast hx hb hA hW hS (rO_34 (g := R_93 34) rfl) ac rfl (by omega) (by decide) dX14_act_132 (fun H locs hW hS => ?_)
    have hW := q_sa 34 hW rfl rfl
    obtain ⟨R_133, hR_133⟩ : ∃ z, z = rp (rp (rp (rp R_93 28 (upd (R_93 28) ac 11)) 35 (upd (R_93 35) ac (-1))) 33 (upd (R_93 33) ac (-1))) 34 (upd (R_93 34) ac (-1)) := ⟨_, rfl⟩
    rw [← hR_133] at hW
    have Q_133 : r_Q r R_133 K T (p_beg K u) tk nd cc ac (tk_65 + 1) nd_65 cc_65 (min 80 (ac + 1)) := by rw [hR_133]; exact ((((Q_93.st (by decide) (by omega)).st (by decide) (by omega)).st (by decide) (by omega)).st (by decide) (by omega))
    have T_133 := Q_133.tok hTK
    have num_133 := Q_133.2.2
    unfold r_num at num_133
    have bt_133 := Q_133.1.1.2.1
    have bn_133 := Q_133.1.1.2.2.2.1
    have bc_133 := Q_133.1.1.2.2.2.2.2.1
    have ba_133 := Q_133.1.1.2.2.2.2.2.2.2
    have y28_133 : True → R_133 28 ac = 11 := fun _ => by rw [hR_133]; exact st_row (r := R_93) (j := 28) (q0 := ac) (x := 11)
    have y35_133 : True → R_133 35 ac = -1 := fun _ => by rw [hR_133]; exact st_row (r := R_93) (j := 35) (q0 := ac) (x := -1)
    have y33_133 : True → R_133 33 ac = -1 := fun _ => by rw [hR_133]; exact st_row (r := R_93) (j := 33) (q0 := ac) (x := -1)
    have y34_133 : True → R_133 34 ac = -1 := fun _ => by rw [hR_133]; exact st_row (r := R_93) (j := 34) (q0 := ac) (x := -1)
    have h8_133 : (p_beg K u).2.1 ≠ 40 → R_133 108 0 = nI (4 - 4) := fun z => by rw [hR_133]; exact h8_93 z
    refine lv_iload_n hx hb dX14_act_133 rfl (lv_at hl 0 rfl) ?_
    refine lv_bipush (v := 15) hx hb dX14_act_134 (by decide) ?_
    refine lv_icmp_ne (tgt := 147) hx hb dX14_act_136 (by decide) (fun c_136 => ?_) (fun c_136 => False.elim ((fun h9 => absurd h9 (by decide)) c_136))
    refine lv_iload_n hx hb dX14_act_147 rfl (lv_at hl 0 rfl) ?_
    refine lv_bipush (v := 16) hx hb dX14_act_148 (by decide) ?_
    refine lv_icmp_ne (tgt := 161) hx hb dX14_act_150 (by decide) (fun c_150 => ?_) (fun c_150 => False.elim ((fun h9 => absurd h9 (by decide)) c_150))
    refine lv_aload_n hx hb dX14_act_161 rfl (lv_at hl 2 rfl) ?_
    refine lv_iload_n hx hb dX14_act_162 rfl (lv_at hl 1 rfl) ?_
    refine lv_iload_n hx hb dX14_act_163 rfl (lv_at hl 0 rfl) ?_
    refine q_cv (va_runV (As := [.int (nI ac), .int 11]) (rest := []) ⟨hx, hb, hml, hown, hts⟩ (kX14_plain_11 l E (rO E f M R_133) n M R_133 K Wd T (p_beg K u) (tk_65 + 1) nd_65 cc_65 (min 80 (ac + 1)) pN pn rN rc ac rO_K T_133 hT hKT hK41 Q_133.1 ok_93 (hnm.mv (Q_133.2.1.1 6 (by decide) (by decide) (by decide))) hpn (show R_133 130 0 = nI pn from by rw [hR_133]; exact (show R_93 130 0 = nI pn from by rw [hR_93]; exact ((congrFun (q_65.2.1.1 130 (by decide) (by decide) (by decide)) 0).trans hpn9))) (hnr.mv (Q_133.2.1.1 7 (by decide) (by decide) (by decide))) hrc (show R_133 109 0 = nI rc from by rw [hR_133]; exact (show R_93 109 0 = nI rc from by rw [hR_93]; exact ((congrFun (q_65.2.1.1 109 (by decide) (by decide) (by decide)) 0).trans hrc9))) (show R_133 108 0 = nI (4 - 4) from by rw [hR_133]; exact (show R_93 108 0 = nI (4 - 4) from by rw [hR_93]; exact (e8_65.trans hv8))) (by omega)) (cwV 2 hts gX14_act_X14_plain rfl rfl rfl (by decide +kernel) ⟨(by show 4 + 1 ≤ 4 * d0 + 42; omega), (by show 8 + (3 + 11) + 89 ≤ 100 * d0 + 1060; omega)⟩) (q_pV hA hW hS (ci := 12) rfl rO_0) rfl rfl hl.1 rfl (lv_room (Nat.le_of_ble_eq_true rfl)) dX14_act_164 ⟨Nat.le_of_ble_eq_true rfl, Nat.le_of_ble_eq_true rfl⟩) hS (fun f_164 n_164 H locs hp hW hS => ?_)
    obtain ⟨R_164, tk_164, nd_164, cc_164, ac_164, q_164, e7_164, e8_164, ec_164, ex_164, rfl, rfl⟩ := hp
    have G_164 : p_go K T (p_beg K u) (p_take K 29 (p_known K Wd pN pn (p_beg K u))) := ((go_known hKT).trans (go_take hKT (by decide)))
    have GG_164 := G_164 ok_93
    have ok_164 := GG_164.1
    have le_164 := GG_164.2.2.2.1
    have er_164 := GG_164.2.2.2.2
    have Q_164 := Q_133.trans9 q_164 (by omega)
    have T_164 := Q_164.tok hTK
    have num_164 := Q_164.2.2
    unfold r_num at num_164
    have bt_164 := Q_164.1.1.2.1
    have bn_164 := Q_164.1.1.2.2.2.1
    have bc_164 := Q_164.1.1.2.2.2.2.2.1
    have ba_164 := Q_164.1.1.2.2.2.2.2.2.2
    have qn_164 := q_164.2.2
    unfold r_num at qn_164
    have h8_164 : (p_take K 29 (p_known K Wd pN pn (p_beg K u))).2.1 ≠ 40 → R_164 108 0 = nI (4 - 4) := fun z => (e8_164 z).trans (h8_133 (le_164 z))
    rw [rO_rO] at hW
    have hW : q_W E (rO E f M R_164) n H := hW
    have eA : p_act K Wd pN pn rN rc (p_blk K Wd pN pn rN rc d0) u = p_take K 29 (p_known K Wd pN pn (p_beg K u)) := by unfold p_act; rw [hw]; rfl
    have eS : p_actS K Wd pN pn rN rc RS (p_blk K Wd pN pn rN rc d0) (p_blkS K Wd pN pn rN rc RS d0) u = k_empty pn (ix pN pn (Wd (p_beg K u).1)).toNatClampNeg := by unfold p_actS; rw [hw]; rfl
    have EX : (p_act K Wd pN pn rN rc (p_blk K Wd pN pn rN rc d0) u).2.1 ≠ 40 → (p_act K Wd pN pn rN rc (p_blk K Wd pN pn rN rc d0) u).2.2.1 = 0 → ac < 80 ∧ ac + 1 ≤ ac_164 ∧ R_164 35 ac = -1 ∧ mA (bR R_164 25) pn nd_164 cc_164 ac_164 RS rc (d0 + 1) ac (p_actS K Wd pN pn rN rc RS (p_blk K Wd pN pn rN rc d0) (p_blkS K Wd pN pn rN rc RS d0) u) := by
      intro h1 h2
      rw [eA] at h1 h2
      have k1 := le_164 h1
      have hb9 := beg_ok (er_164 h2)
      have hac8 : ac < 80 := by have z := hnw.2.2.2.2.2; rw [z]; exact Nat.lt_of_le_of_lt (Nat.min_le_right _ _) hb9
      have h0 : ac < min 80 (ac + 1) := Nat.lt_min.mpr ⟨hac8, Nat.lt_succ_self _⟩
      have rr := ex_164.1 h0
      have mm := ex_164.2 h0 h1 h2
      have y35 := rr.1.trans (y35_133 trivial)
      have y28 := rr.2.trans (y28_133 trivial)
      refine ⟨hac8, by omega, y35, by omega, ?_⟩
      rw [eS]
      obtain ⟨i, m1, m2, m3⟩ := mm
      exact Or.inr (Or.inr (Or.inr (Or.inr (Or.inl (⟨y28, i, m1, m3, by rw [m2, nI_clamp (by omega)]⟩)))))
    refine lv_iload_n hx hb dX14_act_167 rfl (lv_at hl 1 rfl) ?_
    exact q_iret hx hb hr hlocks hW hS ⟨_, _, _, _, _, (by rw [eA]; exact Q_164), (e7_164.trans (show R_133 107 0 = r 107 0 from by rw [hR_133]; exact (show R_93 107 0 = r 107 0 from by rw [hR_93]; exact (e7_65.trans rfl)))), (fun h1 => by rw [eA] at h1; exact (fun z => (e8_164 z).trans (show R_133 108 0 = r 108 0 from by rw [hR_133]; exact (show R_93 108 0 = r 108 0 from by rw [hR_93]; exact (e8_65.trans rfl)))) h1), trivial, ⟨rfl, EX⟩, rfl, rfl⟩ (Nat.le_of_ble_eq_true rfl) (Nat.le_of_ble_eq_true rfl) dX14_act_168

set_option maxHeartbeats 4000000 in
set_option maxRecDepth 100000 in
theorem kX14_act_12 (l : Launch) (E : q_E) (f : q_H) (n : Nat) (M : Nat) (r : q_R) (K : Nat → Nat) (Wd : Nat → Int64) (T : Nat) (u : p_S) (tk nd cc ac : Nat) (pN : Nat → Int64) (pn : Nat) (rN : Nat → Int64) (rc : Nat) (RS : Nat → q_S) (d0 : Nat)  (hm : RM E f M r) (hTK : r_T r K Wd T) (hT : T ≤ 400) (hKT : 39 ≤ K T) (hK41 : ∀ j, K j < 41) (hP : r_P r K T u tk nd cc ac) (hok : p_ok K T u) (hnm : r_nm r K Wd T 6 pn pN) (hpn : pn ≤ 8) (hpn9 : r 130 0 = nI pn) (hnr : r_nm r K Wd T 7 rc rN) (hrc : rc ≤ 6) (hrc9 : r 109 0 = nI rc) (hv8 : r 108 0 = nI (4 - 4)) (ihB : RBLK l E RS d0) (hd6 : d0 + 1 ≤ 6) (hv7 : r 107 0 = nI (6 - d0)) (hw : u.2.1 = 12) : Met l yX14_act wsX14_act ({ frames := 4 * d0 + 42, cells := 0, slots := 0, locals := 100 * d0 + 1060 }) (q_P E [.ref M] f n) (q_Qi E (fun r0 f1 n1 => ∃ (r1 : q_R) (tk1 nd1 cc1 ac1 : Nat), r_Q r r1 K T ((p_act K Wd pN pn rN rc (p_blk K Wd pN pn rN rc d0) u)) tk nd cc ac tk1 nd1 cc1 ac1 ∧ r1 107 0 = r 107 0 ∧ (((p_act K Wd pN pn rN rc (p_blk K Wd pN pn rN rc d0) u)).2.1 ≠ 40 → r1 108 0 = r 108 0) ∧ (True) ∧ (nI ac = r0 ∧ ((p_act K Wd pN pn rN rc (p_blk K Wd pN pn rN rc d0) u).2.1 ≠ 40 → (p_act K Wd pN pn rN rc (p_blk K Wd pN pn rN rc d0) u).2.2.1 = 0 → ac < 80 ∧ ac + 1 ≤ ac1 ∧ r1 35 ac = -1 ∧ mA (bR r1 25) pn nd1 cc1 ac1 RS rc (d0 + 1) ac (p_actS K Wd pN pn rN rc RS (p_blk K Wd pN pn rN rc d0) (p_blkS K Wd pN pn rN rc RS d0) u))) ∧ rO E f M r1 = f1 ∧ n = n1)) 0 0 (q_ge E) := by
  refine Met.ofW (cc := cX14_act) (maxL := 3) (ret := (some .int)) (by decide) rfl ?_
  intro p e s m args below meth c s₁ B hml hv
  obtain ⟨rfl, hA, hW⟩ := hv
  have hx := B.exec
  have hb := B.bytes
  have hr := B.returns
  have hts := atoms_spec (ws := wsX14_act) B.pre
  have hown : s.vm.findClass RX14 = some m.cls := findClass_of_methodNamed B.named
  have hlocks := B.notSynchronized
  have hS : va_S (q_ge E) s.heap s.heap [] := va_S.rf
  have iX13 : ∀ w ∈ wsX130, w ∈ wsX14_act := by decide +kernel
  have iX14 : ∀ w ∈ wsX140, w ∈ wsX14_act := by decide +kernel
  have hl := lv_entry ([.ref M]) (n := 3) (Nat.le_of_ble_eq_true rfl)
  rw [lg_entry_eq]
  generalize (lg_sl ([.ref M]) ++ List.replicate (3 - (lg_sl ([.ref M])).length) Slot.unset).toArray = ls at hl ⊢
  have hl : lv_has ls 3 [(0, .ref M)] := hl
  have hmE := hm.eq
  rw [hm.eq] at hW
  have Q0 := r_Q.rf hP
  have htk := hP.1.2.1
  have hnd := hP.1.2.2.2.1
  have hcc := hP.1.2.2.2.2.2.1
  have hac := hP.1.2.2.2.2.2.2.2
  have hnw := hP.nw (show u.2.1 ≠ 40 by omega)
  have h39 : u.2.1 < 39 := by omega
  refine lv_bipush (v := 80) hx hb dX14_act_0 (by decide) ?_
  refine lv_aload_n hx hb dX14_act_2 rfl (lv_at hl 0 rfl) ?_
  refine q_get hx hb hts hown hA hW iX14 rO_0 rfl 18 (by decide) (hts (.fieldLink RX14 42 "HighRecipesModel" "fresh" "LHighRecipesModel$Book;") (by decide +kernel)) (fun _ h9 => h9) (v := .ref (M + 25)) rfl dX14_act_3 ?_
  refine q_getN hx hb hts hown hA hW iX13 rO_25 rfl 4 (by decide) (va_Nw.use rfl (hA.2.2.2.1 ("HighRecipesModel", 215, "HighRecipesModel$Book", "acts", "I", "HighRecipesModel") (by decide +kernel))) (fun _ h9 => h9) (v := .int (nI ac)) (congrArg (fun z => some (Value.int z)) hP.1.2.2.2.2.2.2.1) dX14_act_6 ?_
  refine va_mmin hx hb (hml.trans hl.1.symm) hown (hts (.methodLink RX14 57 Lib.Math.min.name) (by decide +kernel)) (hts (.static Lib.Math.min.name) (by decide +kernel)) (hts (.initialized "java/lang/Math") (by decide +kernel)) (hts (.code Lib.Math.min.name Lib.Math.min.code 2 (some .int)) (by decide +kernel)) (by show 1 ≤ 4 * d0 + 42; omega) (by show 13 ≤ 100 * d0 + 1060; omega) (Nat.le_of_ble_eq_true rfl) (Nat.le_of_ble_eq_true rfl) dX14_act_9 ?_
  rw [show (if nI ac < 80 then nI ac else 80) = nI ac from (q_min_n (a := 80) (b := ac) (by decide) (by omega)).trans (by rw [Nat.min_eq_right hac])]
  refine lv_istore_n (lv' := [(1, .int (nI ac)), (0, .ref M)]) hx hb dX14_act_12 rfl hl (by decide) rfl (fun ls hl => ?_)
  refine lv_aload_n hx hb dX14_act_13 rfl (lv_at hl 1 rfl) ?_
  refine q_get hx hb hts hown hA hW iX14 rO_0 rfl 4 (by decide) (hts (.fieldLink RX14 17 "HighRecipesModel" "kind" "[I") (by decide +kernel)) (fun _ h9 => h9) (v := .ref (M + 2)) rfl dX14_act_14 ?_
  refine lv_aload_n hx hb dX14_act_17 rfl (lv_at hl 1 rfl) ?_
  refine q_get hx hb hts hown hA hW iX14 rO_0 rfl 8 (by decide) (hts (.fieldLink RX14 120 "HighRecipesModel" "token" "I") (by decide +kernel)) (fun _ h9 => h9) (v := .int (nI tk)) (congrArg (fun z => some (Value.int z)) hP.1.1) dX14_act_18 ?_
  refine q_ald hx hb hA hW (rO_2 (g := r 2) rfl) tk rfl (by omega) (by decide) (x := 12) (by rw [hTK.1 tk htk, hnw.2.1, ← hnw.2.2.1, hw]; rfl) dX14_act_21 ?_
  refine lv_istore_n (lv' := [(2, .int 12), (1, .int (nI ac)), (0, .ref M)]) hx hb dX14_act_22 rfl hl (by decide) rfl (fun ls hl => ?_)
  refine lv_iload_n hx hb dX14_act_23 rfl (lv_at hl 0 rfl) ?_
  refine lv_iconst (v := 3) hx hb dX14_act_24 (by decide) ?_
  refine lv_icmp_eq (tgt := 57) hx hb dX14_act_25 (by decide) (fun c_25 => False.elim ((fun h9 => absurd h9 (by decide)) c_25)) (fun c_25 => ?_)
  refine lv_iload_n hx hb dX14_act_28 rfl (lv_at hl 0 rfl) ?_
  refine lv_bipush (v := 7) hx hb dX14_act_29 (by decide) ?_
  refine lv_icmp_eq (tgt := 57) hx hb dX14_act_31 (by decide) (fun c_31 => False.elim ((fun h9 => absurd h9 (by decide)) c_31)) (fun c_31 => ?_)
  refine lv_iload_n hx hb dX14_act_34 rfl (lv_at hl 0 rfl) ?_
  refine lv_bipush (v := 9) hx hb dX14_act_35 (by decide) ?_
  refine lv_icmp_eq (tgt := 57) hx hb dX14_act_37 (by decide) (fun c_37 => False.elim ((fun h9 => absurd h9 (by decide)) c_37)) (fun c_37 => ?_)
  refine lv_iload_n hx hb dX14_act_40 rfl (lv_at hl 0 rfl) ?_
  refine lv_bipush (v := 11) hx hb dX14_act_41 (by decide) ?_
  refine lv_bipush (v := 16) hx hb dX14_act_43 (by decide) ?_
  refine q_ci (va_runS (As := [.int 12, .int 11, .int 16]) (rest := []) ⟨hx, hb, hml, hown, hts⟩ (kX14_isIn l E (rO E f M r) n 12 11 16) (va_cwS 3 hts gX14_act_X14_isIn rfl rfl rfl (by decide +kernel) ⟨(by show 0 + 1 ≤ 4 * d0 + 42; omega), (by show 8 + (3 + 11) + 0 ≤ 100 * d0 + 1060; omega)⟩) (q_pS hA hW hS) rfl rfl hl.1 rfl (lv_room (Nat.le_of_ble_eq_true rfl)) dX14_act_45 ⟨Nat.le_of_ble_eq_true rfl, Nat.le_of_ble_eq_true rfl⟩) hS (fun r_45 f_45 n_45 H locs hp hW hS => ?_)
  obtain ⟨rfl, rfl, rfl⟩ := hp
  have hW : q_W E (rO E f M r) n H := hW
  refine lv_if_ne (tgt := 57) hx hb dX14_act_48 (by decide) (fun c_48 => ?_) (fun c_48 => False.elim ((fun h9 => absurd h9 (by decide)) c_48))
  refine lv_iload_n hx hb dX14_act_57 rfl (lv_at hl 1 rfl) ?_
  refine lv_bipush (v := 80) hx hb dX14_act_58 (by decide) ?_
  refine lv_icmp_ne (tgt := 68) hx hb dX14_act_60 (by decide) (fun c_60 => ?_) (fun c_60 => ?_)
  · have e80 : ¬ ac = 80 := fun h9 => c_60 (by rw [h9]; rfl)
    refine lv_aload_n hx hb dX14_act_68 rfl (lv_at hl 2 rfl) ?_
    refine q_get hx hb hts hown hA hW iX14 rO_0 rfl 18 (by decide) (hts (.fieldLink RX14 42 "HighRecipesModel" "fresh" "LHighRecipesModel$Book;") (by decide +kernel)) (fun _ h9 => h9) (v := .ref (M + 25)) rfl dX14_act_69 ?_
    refine lv_bipush (v := 80) hx hb dX14_act_72 (by decide) ?_
    refine lv_iload_n hx hb dX14_act_74 rfl (lv_at hl 1 rfl) ?_
    refine lv_iconst (v := 1) hx hb dX14_act_75 (by decide) ?_
    refine lv_iadd hx hb dX14_act_76 ?_
    rw [nI_1]
    refine va_mmin hx hb (hml.trans hl.1.symm) hown (hts (.methodLink RX14 57 Lib.Math.min.name) (by decide +kernel)) (hts (.static Lib.Math.min.name) (by decide +kernel)) (hts (.initialized "java/lang/Math") (by decide +kernel)) (hts (.code Lib.Math.min.name Lib.Math.min.code 2 (some .int)) (by decide +kernel)) (by show 1 ≤ 4 * d0 + 42; omega) (by show 14 ≤ 100 * d0 + 1060; omega) (Nat.le_of_ble_eq_true rfl) (Nat.le_of_ble_eq_true rfl) dX14_act_77 ?_
    rw [show (if nI (ac + 1) < 80 then nI (ac + 1) else 80) = nI (min 80 (ac + 1)) from q_min_n (a := 80) (b := ac + 1) (by decide) (by omega)]
    refine q_putN hx hb hts hown hA hW hS iX13 tyX13 tyX13_ok nmX13 rO_25 rfl 4 (by decide) (va_Nw.use rfl (hA.2.2.2.1 ("HighRecipesModel", 215, "HighRecipesModel$Book", "acts", "I", "HighRecipesModel") (by decide +kernel))) (fun _ h9 => h9) rfl rfl rfl (Nat.le_of_ble_eq_true rfl) dX14_act_80 (fun H locs hW hS => ?_)
    have hW := q_s25 132 (nI (min 80 (ac + 1))) hW rfl (by decide)
    refine lv_aload_n hx hb dX14_act_83 rfl (lv_at hl 2 rfl) ?_
    refine lv_dup hx hb dX14_act_84 rfl ?_
    refine q_get hx hb hts hown hA hW iX14 rO_0 rfl 8 (by decide) (hts (.fieldLink RX14 120 "HighRecipesModel" "token" "I") (by decide +kernel)) (fun _ h9 => h9) (v := .int (nI tk)) (congrArg (fun z => some (Value.int z)) hP.1.1) dX14_act_85 ?_
    refine lv_iconst (v := 1) hx hb dX14_act_88 (by decide) ?_
    refine lv_iadd hx hb dX14_act_89 ?_
    refine q_put hx hb hts hown hA hW hS iX14 tyX14 tyX14_ok nmX14 rO_0 rfl 8 (by decide) (hts (.fieldLink RX14 120 "HighRecipesModel" "token" "I") (by decide +kernel)) (fun _ h9 => h9) rfl rfl rfl (Nat.le_of_ble_eq_true rfl) dX14_act_90 (fun H locs hW hS => ?_)
    rw [show (nI tk) + 1 = nI (tk + 1) from nI_1 tk] at hW
    have hW := q_s0 103 (nI (tk + 1)) hW rfl (by decide)
    obtain ⟨R_93, hR_93⟩ : ∃ z, z = rp (rp r 132 (fun _ => nI (min 80 (ac + 1)))) 103 (fun _ => nI (tk + 1)) := ⟨_, rfl⟩
    rw [← hR_93] at hW
    have Q_93 : r_Q r R_93 K T (p_beg K u) tk nd cc ac (tk + 1) nd cc (min 80 (ac + 1)) := by rw [hR_93]; exact (r_Q.beg (by rw [decide_eq_false e80]; exact Q0) h39 hKT)
    have T_93 := Q_93.tok hTK
    have num_93 := Q_93.2.2
    unfold r_num at num_93
    have bt_93 := Q_93.1.1.2.1
    have bn_93 := Q_93.1.1.2.2.2.1
    have bc_93 := Q_93.1.1.2.2.2.2.2.1
    have ba_93 := Q_93.1.1.2.2.2.2.2.2.2
    have G_93 : p_go K T u (p_beg K u) := (go_beg hKT h39)
    have GG_93 := G_93 hok
    have ok_93 := GG_93.1
    have le_93 := GG_93.2.2.2.1
    have er_93 := GG_93.2.2.2.2
    have h8_93 : (p_beg K u).2.1 ≠ 40 → R_93 108 0 = nI (4 - 4) := fun z => by rw [hR_93]; exact (fun _ => hv8) (le_93 z)
    refine lv_aload_n hx hb dX14_act_93 rfl (lv_at hl 2 rfl) ?_
    refine q_get hx hb hts hown hA hW iX14 rO_0 rfl 18 (by decide) (hts (.fieldLink RX14 42 "HighRecipesModel" "fresh" "LHighRecipesModel$Book;") (by decide +kernel)) (fun _ h9 => h9) (v := .ref (M + 25)) rfl dX14_act_94 ?_
    refine q_getN hx hb hts hown hA hW iX13 rO_25 rfl 5 (by decide) (va_Nw.use rfl (hA.2.2.2.1 ("HighRecipesModel", 218, "HighRecipesModel$Book", "does", "[I", "HighRecipesModel") (by decide +kernel))) (fun _ h9 => h9) (v := .ref (M + 28)) rfl dX14_act_97 ?_
    refine lv_iload_n hx hb dX14_act_100 rfl (lv_at hl 1 rfl) ?_
    refine lv_iload_n hx hb dX14_act_101 rfl (lv_at hl 0 rfl) ?_
    refine q_ast hx hb hA hW hS (rO_28 (g := R_93 28) rfl) ac rfl (by omega) (by decide) dX14_act_102 (fun H locs hW hS => ?_)
    have hW := q_sa 28 hW rfl rfl
    refine lv_aload_n hx hb dX14_act_103 rfl (lv_at hl 2 rfl) ?_
    refine q_get hx hb hts hown hA hW iX14 rO_0 rfl 18 (by decide) (hts (.fieldLink RX14 42 "HighRecipesModel" "fresh" "LHighRecipesModel$Book;") (by decide +kernel)) (fun _ h9 => h9) (v := .ref (M + 25)) rfl dX14_act_104 ?_
    refine q_getN hx hb hts hown hA hW iX13 rO_25 rfl 12 (by decide) (va_Nw.use rfl (hA.2.2.2.1 ("HighRecipesModel", 212, "HighRecipesModel$Book", "next", "[I", "HighRecipesModel") (by decide +kernel))) (fun _ h9 => h9) (v := .ref (M + 35)) rfl dX14_act_107 ?_
    refine lv_iload_n hx hb dX14_act_110 rfl (lv_at hl 1 rfl) ?_
    refine lv_iconst (v := (-1)) hx hb dX14_act_111 (by decide) ?_
    refine q_ast hx hb hA hW hS (rO_35 (g := R_93 35) rfl) ac rfl (by omega) (by decide) dX14_act_112 (fun H locs hW hS => ?_)
    have hW := q_sa 35 hW rfl rfl
    refine lv_aload_n hx hb dX14_act_113 rfl (lv_at hl 2 rfl) ?_
    refine q_get hx hb hts hown hA hW iX14 rO_0 rfl 18 (by decide) (hts (.fieldLink RX14 42 "HighRecipesModel" "fresh" "LHighRecipesModel$Book;") (by decide +kernel)) (fun _ h9 => h9) (v := .ref (M + 25)) rfl dX14_act_114 ?_
    refine q_getN hx hb hts hown hA hW iX13 rO_25 rfl 10 (by decide) (va_Nw.use rfl (hA.2.2.2.1 ("HighRecipesModel", 221, "HighRecipesModel$Book", "block", "[I", "HighRecipesModel") (by decide +kernel))) (fun _ h9 => h9) (v := .ref (M + 33)) rfl dX14_act_117 ?_
    refine lv_iload_n hx hb dX14_act_120 rfl (lv_at hl 1 rfl) ?_
    refine lv_iconst (v := (-1)) hx hb dX14_act_121 (by decide) ?_
    refine q_ast hx hb hA hW hS (rO_33 (g := R_93 33) rfl) ac rfl (by omega) (by decide) dX14_act_122 (fun H locs hW hS => ?_)
    have hW := q_sa 33 hW rfl rfl
    refine lv_aload_n hx hb dX14_act_123 rfl (lv_at hl 2 rfl) ?_
    refine q_get hx hb hts hown hA hW iX14 rO_0 rfl 18 (by decide) (hts (.fieldLink RX14 42 "HighRecipesModel" "fresh" "LHighRecipesModel$Book;") (by decide +kernel)) (fun _ h9 => h9) (v := .ref (M + 25)) rfl dX14_act_124 ?_
    refine q_getN hx hb hts hown hA hW iX13 rO_25 rfl 11 (by decide) (va_Nw.use rfl (hA.2.2.2.1 ("HighRecipesModel", 224, "HighRecipesModel$Book", "other", "[I", "HighRecipesModel") (by decide +kernel))) (fun _ h9 => h9) (v := .ref (M + 34)) rfl dX14_act_127 ?_
    refine lv_iload_n hx hb dX14_act_130 rfl (lv_at hl 1 rfl) ?_
    refine lv_iconst (v := (-1)) hx hb dX14_act_131 (by decide) ?_
    refine q_ast hx hb hA hW hS (rO_34 (g := R_93 34) rfl) ac rfl (by omega) (by decide) dX14_act_132 (fun H locs hW hS => ?_)
    have hW := q_sa 34 hW rfl rfl
    obtain ⟨R_133, hR_133⟩ : ∃ z, z = rp (rp (rp (rp R_93 28 (upd (R_93 28) ac 12)) 35 (upd (R_93 35) ac (-1))) 33 (upd (R_93 33) ac (-1))) 34 (upd (R_93 34) ac (-1)) := ⟨_, rfl⟩
    rw [← hR_133] at hW
    have Q_133 : r_Q r R_133 K T (p_beg K u) tk nd cc ac (tk + 1) nd cc (min 80 (ac + 1)) := by rw [hR_133]; exact ((((Q_93.st (by decide) (by omega)).st (by decide) (by omega)).st (by decide) (by omega)).st (by decide) (by omega))
    have T_133 := Q_133.tok hTK
    have num_133 := Q_133.2.2
    unfold r_num at num_133
    have bt_133 := Q_133.1.1.2.1
    have bn_133 := Q_133.1.1.2.2.2.1
    have bc_133 := Q_133.1.1.2.2.2.2.2.1
    have ba_133 := Q_133.1.1.2.2.2.2.2.2.2
    have y28_133 : True → R_133 28 ac = 12 := fun _ => by rw [hR_133]; exact st_row (r := R_93) (j := 28) (q0 := ac) (x := 12)
    have y35_133 : True → R_133 35 ac = -1 := fun _ => by rw [hR_133]; exact st_row (r := R_93) (j := 35) (q0 := ac) (x := -1)
    have y33_133 : True → R_133 33 ac = -1 := fun _ => by rw [hR_133]; exact st_row (r := R_93) (j := 33) (q0 := ac) (x := -1)
    have y34_133 : True → R_133 34 ac = -1 := fun _ => by rw [hR_133]; exact st_row (r := R_93) (j := 34) (q0 := ac) (x := -1)
    have h8_133 : (p_beg K u).2.1 ≠ 40 → R_133 108 0 = nI (4 - 4) := fun z => by rw [hR_133]; exact h8_93 z
    refine lv_iload_n hx hb dX14_act_133 rfl (lv_at hl 0 rfl) ?_
    refine lv_bipush (v := 15) hx hb dX14_act_134 (by decide) ?_
    refine lv_icmp_ne (tgt := 147) hx hb dX14_act_136 (by decide) (fun c_136 => ?_) (fun c_136 => False.elim ((fun h9 => absurd h9 (by decide)) c_136))
    refine lv_iload_n hx hb dX14_act_147 rfl (lv_at hl 0 rfl) ?_
    refine lv_bipush (v := 16) hx hb dX14_act_148 (by decide) ?_
    refine lv_icmp_ne (tgt := 161) hx hb dX14_act_150 (by decide) (fun c_150 => ?_) (fun c_150 => False.elim ((fun h9 => absurd h9 (by decide)) c_150))
    refine lv_aload_n hx hb dX14_act_161 rfl (lv_at hl 2 rfl) ?_
    refine lv_iload_n hx hb dX14_act_162 rfl (lv_at hl 1 rfl) ?_
    refine lv_iload_n hx hb dX14_act_163 rfl (lv_at hl 0 rfl) ?_
    refine q_cv (va_runV (As := [.int (nI ac), .int 12]) (rest := []) ⟨hx, hb, hml, hown, hts⟩ (kX14_plain_12 l E (rO E f M R_133) n M R_133 K Wd T (p_beg K u) (tk + 1) nd cc (min 80 (ac + 1)) pN pn rN rc ac rO_K T_133 hT hKT hK41 Q_133.1 ok_93 (hnm.mv (Q_133.2.1.1 6 (by decide) (by decide) (by decide))) hpn (show R_133 130 0 = nI pn from by rw [hR_133]; exact (show R_93 130 0 = nI pn from by rw [hR_93]; exact hpn9)) (hnr.mv (Q_133.2.1.1 7 (by decide) (by decide) (by decide))) hrc (show R_133 109 0 = nI rc from by rw [hR_133]; exact (show R_93 109 0 = nI rc from by rw [hR_93]; exact hrc9)) (show R_133 108 0 = nI (4 - 4) from by rw [hR_133]; exact (show R_93 108 0 = nI (4 - 4) from by rw [hR_93]; exact hv8)) (by omega)) (cwV 2 hts gX14_act_X14_plain rfl rfl rfl (by decide +kernel) ⟨(by show 29 + 1 ≤ 4 * d0 + 42; omega), (by show 8 + (3 + 11) + 721 ≤ 100 * d0 + 1060; omega)⟩) (q_pV hA hW hS (ci := 12) rfl rO_0) rfl rfl hl.1 rfl (lv_room (Nat.le_of_ble_eq_true rfl)) dX14_act_164 ⟨Nat.le_of_ble_eq_true rfl, Nat.le_of_ble_eq_true rfl⟩) hS (fun f_164 n_164 H locs hp hW hS => ?_)
    obtain ⟨R_164, tk_164, nd_164, cc_164, ac_164, q_164, e7_164, e8_164, ec_164, ex_164, rfl, rfl⟩ := hp
    have G_164 : p_go K T (p_beg K u) (p_take K 29 (p_val K Wd pN pn 4 (p_beg K u))) := ((go_val0 hKT 4 _).trans (go_take hKT (by decide)))
    have GG_164 := G_164 ok_93
    have ok_164 := GG_164.1
    have le_164 := GG_164.2.2.2.1
    have er_164 := GG_164.2.2.2.2
    have Q_164 := Q_133.trans9 q_164 (by omega)
    have T_164 := Q_164.tok hTK
    have num_164 := Q_164.2.2
    unfold r_num at num_164
    have bt_164 := Q_164.1.1.2.1
    have bn_164 := Q_164.1.1.2.2.2.1
    have bc_164 := Q_164.1.1.2.2.2.2.2.1
    have ba_164 := Q_164.1.1.2.2.2.2.2.2.2
    have qn_164 := q_164.2.2
    unfold r_num at qn_164
    have h8_164 : (p_take K 29 (p_val K Wd pN pn 4 (p_beg K u))).2.1 ≠ 40 → R_164 108 0 = nI (4 - 4) := fun z => (e8_164 z).trans (h8_133 (le_164 z))
    rw [rO_rO] at hW
    have hW : q_W E (rO E f M R_164) n H := hW
    have eA : p_act K Wd pN pn rN rc (p_blk K Wd pN pn rN rc d0) u = p_take K 29 (p_val K Wd pN pn 4 (p_beg K u)) := by unfold p_act; rw [hw]; rfl
    have eS : p_actS K Wd pN pn rN rc RS (p_blk K Wd pN pn rN rc d0) (p_blkS K Wd pN pn rN rc RS d0) u = k_rest pn (p_valD K Wd pN pn 4 (p_beg K u)) := by unfold p_actS; rw [hw]; rfl
    have EX : (p_act K Wd pN pn rN rc (p_blk K Wd pN pn rN rc d0) u).2.1 ≠ 40 → (p_act K Wd pN pn rN rc (p_blk K Wd pN pn rN rc d0) u).2.2.1 = 0 → ac < 80 ∧ ac + 1 ≤ ac_164 ∧ R_164 35 ac = -1 ∧ mA (bR R_164 25) pn nd_164 cc_164 ac_164 RS rc (d0 + 1) ac (p_actS K Wd pN pn rN rc RS (p_blk K Wd pN pn rN rc d0) (p_blkS K Wd pN pn rN rc RS d0) u) := by
      intro h1 h2
      rw [eA] at h1 h2
      have k1 := le_164 h1
      have hb9 := beg_ok (er_164 h2)
      have hac8 : ac < 80 := by have z := hnw.2.2.2.2.2; rw [z]; exact Nat.lt_of_le_of_lt (Nat.min_le_right _ _) hb9
      have h0 : ac < min 80 (ac + 1) := Nat.lt_min.mpr ⟨hac8, Nat.lt_succ_self _⟩
      have rr := ex_164.1 h0
      have mm := ex_164.2 h0 h1 h2
      have y35 := rr.1.trans (y35_133 trivial)
      have y28 := rr.2.trans (y28_133 trivial)
      refine ⟨hac8, by omega, y35, by omega, ?_⟩
      rw [eS]
      obtain ⟨x, m1, m2⟩ := mm
      exact Or.inr (Or.inr (Or.inr (Or.inr (Or.inr (Or.inl (⟨y28, x, _, m1, m2, rfl⟩))))))
    refine lv_iload_n hx hb dX14_act_167 rfl (lv_at hl 1 rfl) ?_
    exact q_iret hx hb hr hlocks hW hS ⟨_, _, _, _, _, (by rw [eA]; exact Q_164), (e7_164.trans (show R_133 107 0 = r 107 0 from by rw [hR_133]; exact (show R_93 107 0 = r 107 0 from by rw [hR_93]; exact rfl))), (fun h1 => by rw [eA] at h1; exact (fun z => (e8_164 z).trans (show R_133 108 0 = r 108 0 from by rw [hR_133]; exact (show R_93 108 0 = r 108 0 from by rw [hR_93]; exact rfl))) h1), trivial, ⟨rfl, EX⟩, rfl, rfl⟩ (Nat.le_of_ble_eq_true rfl) (Nat.le_of_ble_eq_true rfl) dX14_act_168
  · have e80 : ac = 80 := (nI_eq (by omega) (by decide)).1 c_60
    refine lv_aload_n hx hb dX14_act_63 rfl (lv_at hl 2 rfl) ?_
    refine lv_iconst (v := 4) hx hb dX14_act_64 (by decide) ?_
    refine q_cv (va_runV (As := [.int 4]) (rest := []) ⟨hx, hb, hml, hown, hts⟩ (kX14_mark l E (rO E f M r) n M r K Wd T u tk nd cc ac 4 rO_K hTK hT hKT hK41 Q0.1 hok) (cwV 1 hts gX14_act_X14_mark rfl rfl rfl (by decide +kernel) ⟨(by show 0 + 1 ≤ 4 * d0 + 42; omega), (by show 8 + (2 + 11) + 0 ≤ 100 * d0 + 1060; omega)⟩) (q_pV hA hW hS (ci := 12) rfl rO_0) rfl rfl hl.1 rfl (lv_room (Nat.le_of_ble_eq_true rfl)) dX14_act_65 ⟨Nat.le_of_ble_eq_true rfl, Nat.le_of_ble_eq_true rfl⟩) hS (fun f_65 n_65 H locs hp hW hS => ?_)
    obtain ⟨R_65, tk_65, nd_65, cc_65, ac_65, q_65, e7_65, e8_65, ec_65, ex_65, rfl, rfl⟩ := hp
    have G_65 : p_go K T u (p_ci true 4 u) := (go_ci (by decide) (by decide))
    have GG_65 := G_65 hok
    have ok_65 := GG_65.1
    have le_65 := GG_65.2.2.2.1
    have er_65 := GG_65.2.2.2.2
    have Q_65 := Q0.trans q_65
    have T_65 := Q_65.tok hTK
    have num_65 := Q_65.2.2
    unfold r_num at num_65
    have bt_65 := Q_65.1.1.2.1
    have bn_65 := Q_65.1.1.2.2.2.1
    have bc_65 := Q_65.1.1.2.2.2.2.2.1
    have ba_65 := Q_65.1.1.2.2.2.2.2.2.2
    have qn_65 := q_65.2.2
    unfold r_num at qn_65
    have h8_65 : (p_ci true 4 u).2.1 ≠ 40 → R_65 108 0 = nI (4 - 4) := fun z => (e8_65).trans ((fun _ => hv8) (le_65 z))
    rw [rO_rO] at hW
    have hW : q_W E (rO E f M R_65) n H := hW
    have eac9 : ac_65 = ac := (ec_65.2.trans rfl)
    rw [eac9] at Q_65
    refine lv_aload_n hx hb dX14_act_68 rfl (lv_at hl 2 rfl) ?_
    refine q_get hx hb hts hown hA hW iX14 rO_0 rfl 18 (by decide) (hts (.fieldLink RX14 42 "HighRecipesModel" "fresh" "LHighRecipesModel$Book;") (by decide +kernel)) (fun _ h9 => h9) (v := .ref (M + 25)) rfl dX14_act_69 ?_
    refine lv_bipush (v := 80) hx hb dX14_act_72 (by decide) ?_
    refine lv_iload_n hx hb dX14_act_74 rfl (lv_at hl 1 rfl) ?_
    refine lv_iconst (v := 1) hx hb dX14_act_75 (by decide) ?_
    refine lv_iadd hx hb dX14_act_76 ?_
    rw [nI_1]
    refine va_mmin hx hb (hml.trans hl.1.symm) hown (hts (.methodLink RX14 57 Lib.Math.min.name) (by decide +kernel)) (hts (.static Lib.Math.min.name) (by decide +kernel)) (hts (.initialized "java/lang/Math") (by decide +kernel)) (hts (.code Lib.Math.min.name Lib.Math.min.code 2 (some .int)) (by decide +kernel)) (by show 1 ≤ 4 * d0 + 42; omega) (by show 14 ≤ 100 * d0 + 1060; omega) (Nat.le_of_ble_eq_true rfl) (Nat.le_of_ble_eq_true rfl) dX14_act_77 ?_
    rw [show (if nI (ac + 1) < 80 then nI (ac + 1) else 80) = nI (min 80 (ac + 1)) from q_min_n (a := 80) (b := ac + 1) (by decide) (by omega)]
    refine q_putN hx hb hts hown hA hW hS iX13 tyX13 tyX13_ok nmX13 rO_25 rfl 4 (by decide) (va_Nw.use rfl (hA.2.2.2.1 ("HighRecipesModel", 215, "HighRecipesModel$Book", "acts", "I", "HighRecipesModel") (by decide +kernel))) (fun _ h9 => h9) rfl rfl rfl (Nat.le_of_ble_eq_true rfl) dX14_act_80 (fun H locs hW hS => ?_)
    have hW := q_s25 132 (nI (min 80 (ac + 1))) hW rfl (by decide)
    refine lv_aload_n hx hb dX14_act_83 rfl (lv_at hl 2 rfl) ?_
    refine lv_dup hx hb dX14_act_84 rfl ?_
    refine q_get hx hb hts hown hA hW iX14 rO_0 rfl 8 (by decide) (hts (.fieldLink RX14 120 "HighRecipesModel" "token" "I") (by decide +kernel)) (fun _ h9 => h9) (v := .int (nI tk_65)) (congrArg (fun z => some (Value.int z)) Q_65.1.1.1) dX14_act_85 ?_
    refine lv_iconst (v := 1) hx hb dX14_act_88 (by decide) ?_
    refine lv_iadd hx hb dX14_act_89 ?_
    refine q_put hx hb hts hown hA hW hS iX14 tyX14 tyX14_ok nmX14 rO_0 rfl 8 (by decide) (hts (.fieldLink RX14 120 "HighRecipesModel" "token" "I") (by decide +kernel)) (fun _ h9 => h9) rfl rfl rfl (Nat.le_of_ble_eq_true rfl) dX14_act_90 (fun H locs hW hS => ?_)
    rw [show (nI tk_65) + 1 = nI (tk_65 + 1) from nI_1 tk_65] at hW
    have hW := q_s0 103 (nI (tk_65 + 1)) hW rfl (by decide)
    obtain ⟨R_93, hR_93⟩ : ∃ z, z = rp (rp R_65 132 (fun _ => nI (min 80 (ac + 1)))) 103 (fun _ => nI (tk_65 + 1)) := ⟨_, rfl⟩
    rw [← hR_93] at hW
    have Q_93 : r_Q r R_93 K T (p_beg K u) tk nd cc ac (tk_65 + 1) nd_65 cc_65 (min 80 (ac + 1)) := by rw [hR_93]; exact (r_Q.beg (by rw [decide_eq_true e80]; exact Q_65) h39 hKT)
    have T_93 := Q_93.tok hTK
    have num_93 := Q_93.2.2
    unfold r_num at num_93
    have bt_93 := Q_93.1.1.2.1
    have bn_93 := Q_93.1.1.2.2.2.1
    have bc_93 := Q_93.1.1.2.2.2.2.2.1
    have ba_93 := Q_93.1.1.2.2.2.2.2.2.2
    have G_93 : p_go K T u (p_beg K u) := (go_beg hKT h39)
    have GG_93 := G_93 hok
    have ok_93 := GG_93.1
    have le_93 := GG_93.2.2.2.1
    have er_93 := GG_93.2.2.2.2
    have h8_93 : (p_beg K u).2.1 ≠ 40 → R_93 108 0 = nI (4 - 4) := fun z => by rw [hR_93]; exact h8_65 (le_93 z)
    refine lv_aload_n hx hb dX14_act_93 rfl (lv_at hl 2 rfl) ?_
    refine q_get hx hb hts hown hA hW iX14 rO_0 rfl 18 (by decide) (hts (.fieldLink RX14 42 "HighRecipesModel" "fresh" "LHighRecipesModel$Book;") (by decide +kernel)) (fun _ h9 => h9) (v := .ref (M + 25)) rfl dX14_act_94 ?_
    refine q_getN hx hb hts hown hA hW iX13 rO_25 rfl 5 (by decide) (va_Nw.use rfl (hA.2.2.2.1 ("HighRecipesModel", 218, "HighRecipesModel$Book", "does", "[I", "HighRecipesModel") (by decide +kernel))) (fun _ h9 => h9) (v := .ref (M + 28)) rfl dX14_act_97 ?_
    refine lv_iload_n hx hb dX14_act_100 rfl (lv_at hl 1 rfl) ?_
    refine lv_iload_n hx hb dX14_act_101 rfl (lv_at hl 0 rfl) ?_
    refine q_ast hx hb hA hW hS (rO_28 (g := R_93 28) rfl) ac rfl (by omega) (by decide) dX14_act_102 (fun H locs hW hS => ?_)
    have hW := q_sa 28 hW rfl rfl
    refine lv_aload_n hx hb dX14_act_103 rfl (lv_at hl 2 rfl) ?_
    refine q_get hx hb hts hown hA hW iX14 rO_0 rfl 18 (by decide) (hts (.fieldLink RX14 42 "HighRecipesModel" "fresh" "LHighRecipesModel$Book;") (by decide +kernel)) (fun _ h9 => h9) (v := .ref (M + 25)) rfl dX14_act_104 ?_
    refine q_getN hx hb hts hown hA hW iX13 rO_25 rfl 12 (by decide) (va_Nw.use rfl (hA.2.2.2.1 ("HighRecipesModel", 212, "HighRecipesModel$Book", "next", "[I", "HighRecipesModel") (by decide +kernel))) (fun _ h9 => h9) (v := .ref (M + 35)) rfl dX14_act_107 ?_
    refine lv_iload_n hx hb dX14_act_110 rfl (lv_at hl 1 rfl) ?_
    refine lv_iconst (v := (-1)) hx hb dX14_act_111 (by decide) ?_
    refine q_ast hx hb hA hW hS (rO_35 (g := R_93 35) rfl) ac rfl (by omega) (by decide) dX14_act_112 (fun H locs hW hS => ?_)
    have hW := q_sa 35 hW rfl rfl
    refine lv_aload_n hx hb dX14_act_113 rfl (lv_at hl 2 rfl) ?_
    refine q_get hx hb hts hown hA hW iX14 rO_0 rfl 18 (by decide) (hts (.fieldLink RX14 42 "HighRecipesModel" "fresh" "LHighRecipesModel$Book;") (by decide +kernel)) (fun _ h9 => h9) (v := .ref (M + 25)) rfl dX14_act_114 ?_
    refine q_getN hx hb hts hown hA hW iX13 rO_25 rfl 10 (by decide) (va_Nw.use rfl (hA.2.2.2.1 ("HighRecipesModel", 221, "HighRecipesModel$Book", "block", "[I", "HighRecipesModel") (by decide +kernel))) (fun _ h9 => h9) (v := .ref (M + 33)) rfl dX14_act_117 ?_
    refine lv_iload_n hx hb dX14_act_120 rfl (lv_at hl 1 rfl) ?_
    refine lv_iconst (v := (-1)) hx hb dX14_act_121 (by decide) ?_
    refine q_ast hx hb hA hW hS (rO_33 (g := R_93 33) rfl) ac rfl (by omega) (by decide) dX14_act_122 (fun H locs hW hS => ?_)
    have hW := q_sa 33 hW rfl rfl
    refine lv_aload_n hx hb dX14_act_123 rfl (lv_at hl 2 rfl) ?_
    refine q_get hx hb hts hown hA hW iX14 rO_0 rfl 18 (by decide) (hts (.fieldLink RX14 42 "HighRecipesModel" "fresh" "LHighRecipesModel$Book;") (by decide +kernel)) (fun _ h9 => h9) (v := .ref (M + 25)) rfl dX14_act_124 ?_
    refine q_getN hx hb hts hown hA hW iX13 rO_25 rfl 11 (by decide) (va_Nw.use rfl (hA.2.2.2.1 ("HighRecipesModel", 224, "HighRecipesModel$Book", "other", "[I", "HighRecipesModel") (by decide +kernel))) (fun _ h9 => h9) (v := .ref (M + 34)) rfl dX14_act_127 ?_
    refine lv_iload_n hx hb dX14_act_130 rfl (lv_at hl 1 rfl) ?_
    refine lv_iconst (v := (-1)) hx hb dX14_act_131 (by decide) ?_
    refine q_ast hx hb hA hW hS (rO_34 (g := R_93 34) rfl) ac rfl (by omega) (by decide) dX14_act_132 (fun H locs hW hS => ?_)
    have hW := q_sa 34 hW rfl rfl
    obtain ⟨R_133, hR_133⟩ : ∃ z, z = rp (rp (rp (rp R_93 28 (upd (R_93 28) ac 12)) 35 (upd (R_93 35) ac (-1))) 33 (upd (R_93 33) ac (-1))) 34 (upd (R_93 34) ac (-1)) := ⟨_, rfl⟩
    rw [← hR_133] at hW
    have Q_133 : r_Q r R_133 K T (p_beg K u) tk nd cc ac (tk_65 + 1) nd_65 cc_65 (min 80 (ac + 1)) := by rw [hR_133]; exact ((((Q_93.st (by decide) (by omega)).st (by decide) (by omega)).st (by decide) (by omega)).st (by decide) (by omega))
    have T_133 := Q_133.tok hTK
    have num_133 := Q_133.2.2
    unfold r_num at num_133
    have bt_133 := Q_133.1.1.2.1
    have bn_133 := Q_133.1.1.2.2.2.1
    have bc_133 := Q_133.1.1.2.2.2.2.2.1
    have ba_133 := Q_133.1.1.2.2.2.2.2.2.2
    have y28_133 : True → R_133 28 ac = 12 := fun _ => by rw [hR_133]; exact st_row (r := R_93) (j := 28) (q0 := ac) (x := 12)
    have y35_133 : True → R_133 35 ac = -1 := fun _ => by rw [hR_133]; exact st_row (r := R_93) (j := 35) (q0 := ac) (x := -1)
    have y33_133 : True → R_133 33 ac = -1 := fun _ => by rw [hR_133]; exact st_row (r := R_93) (j := 33) (q0 := ac) (x := -1)
    have y34_133 : True → R_133 34 ac = -1 := fun _ => by rw [hR_133]; exact st_row (r := R_93) (j := 34) (q0 := ac) (x := -1)
    have h8_133 : (p_beg K u).2.1 ≠ 40 → R_133 108 0 = nI (4 - 4) := fun z => by rw [hR_133]; exact h8_93 z
    refine lv_iload_n hx hb dX14_act_133 rfl (lv_at hl 0 rfl) ?_
    refine lv_bipush (v := 15) hx hb dX14_act_134 (by decide) ?_
    refine lv_icmp_ne (tgt := 147) hx hb dX14_act_136 (by decide) (fun c_136 => ?_) (fun c_136 => False.elim ((fun h9 => absurd h9 (by decide)) c_136))
    refine lv_iload_n hx hb dX14_act_147 rfl (lv_at hl 0 rfl) ?_
    refine lv_bipush (v := 16) hx hb dX14_act_148 (by decide) ?_
    refine lv_icmp_ne (tgt := 161) hx hb dX14_act_150 (by decide) (fun c_150 => ?_) (fun c_150 => False.elim ((fun h9 => absurd h9 (by decide)) c_150))
    refine lv_aload_n hx hb dX14_act_161 rfl (lv_at hl 2 rfl) ?_
    refine lv_iload_n hx hb dX14_act_162 rfl (lv_at hl 1 rfl) ?_
    refine lv_iload_n hx hb dX14_act_163 rfl (lv_at hl 0 rfl) ?_
    refine q_cv (va_runV (As := [.int (nI ac), .int 12]) (rest := []) ⟨hx, hb, hml, hown, hts⟩ (kX14_plain_12 l E (rO E f M R_133) n M R_133 K Wd T (p_beg K u) (tk_65 + 1) nd_65 cc_65 (min 80 (ac + 1)) pN pn rN rc ac rO_K T_133 hT hKT hK41 Q_133.1 ok_93 (hnm.mv (Q_133.2.1.1 6 (by decide) (by decide) (by decide))) hpn (show R_133 130 0 = nI pn from by rw [hR_133]; exact (show R_93 130 0 = nI pn from by rw [hR_93]; exact ((congrFun (q_65.2.1.1 130 (by decide) (by decide) (by decide)) 0).trans hpn9))) (hnr.mv (Q_133.2.1.1 7 (by decide) (by decide) (by decide))) hrc (show R_133 109 0 = nI rc from by rw [hR_133]; exact (show R_93 109 0 = nI rc from by rw [hR_93]; exact ((congrFun (q_65.2.1.1 109 (by decide) (by decide) (by decide)) 0).trans hrc9))) (show R_133 108 0 = nI (4 - 4) from by rw [hR_133]; exact (show R_93 108 0 = nI (4 - 4) from by rw [hR_93]; exact (e8_65.trans hv8))) (by omega)) (cwV 2 hts gX14_act_X14_plain rfl rfl rfl (by decide +kernel) ⟨(by show 29 + 1 ≤ 4 * d0 + 42; omega), (by show 8 + (3 + 11) + 721 ≤ 100 * d0 + 1060; omega)⟩) (q_pV hA hW hS (ci := 12) rfl rO_0) rfl rfl hl.1 rfl (lv_room (Nat.le_of_ble_eq_true rfl)) dX14_act_164 ⟨Nat.le_of_ble_eq_true rfl, Nat.le_of_ble_eq_true rfl⟩) hS (fun f_164 n_164 H locs hp hW hS => ?_)
    obtain ⟨R_164, tk_164, nd_164, cc_164, ac_164, q_164, e7_164, e8_164, ec_164, ex_164, rfl, rfl⟩ := hp
    have G_164 : p_go K T (p_beg K u) (p_take K 29 (p_val K Wd pN pn 4 (p_beg K u))) := ((go_val0 hKT 4 _).trans (go_take hKT (by decide)))
    have GG_164 := G_164 ok_93
    have ok_164 := GG_164.1
    have le_164 := GG_164.2.2.2.1
    have er_164 := GG_164.2.2.2.2
    have Q_164 := Q_133.trans9 q_164 (by omega)
    have T_164 := Q_164.tok hTK
    have num_164 := Q_164.2.2
    unfold r_num at num_164
    have bt_164 := Q_164.1.1.2.1
    have bn_164 := Q_164.1.1.2.2.2.1
    have bc_164 := Q_164.1.1.2.2.2.2.2.1
    have ba_164 := Q_164.1.1.2.2.2.2.2.2.2
    have qn_164 := q_164.2.2
    unfold r_num at qn_164
    have h8_164 : (p_take K 29 (p_val K Wd pN pn 4 (p_beg K u))).2.1 ≠ 40 → R_164 108 0 = nI (4 - 4) := fun z => (e8_164 z).trans (h8_133 (le_164 z))
    rw [rO_rO] at hW
    have hW : q_W E (rO E f M R_164) n H := hW
    have eA : p_act K Wd pN pn rN rc (p_blk K Wd pN pn rN rc d0) u = p_take K 29 (p_val K Wd pN pn 4 (p_beg K u)) := by unfold p_act; rw [hw]; rfl
    have eS : p_actS K Wd pN pn rN rc RS (p_blk K Wd pN pn rN rc d0) (p_blkS K Wd pN pn rN rc RS d0) u = k_rest pn (p_valD K Wd pN pn 4 (p_beg K u)) := by unfold p_actS; rw [hw]; rfl
    have EX : (p_act K Wd pN pn rN rc (p_blk K Wd pN pn rN rc d0) u).2.1 ≠ 40 → (p_act K Wd pN pn rN rc (p_blk K Wd pN pn rN rc d0) u).2.2.1 = 0 → ac < 80 ∧ ac + 1 ≤ ac_164 ∧ R_164 35 ac = -1 ∧ mA (bR R_164 25) pn nd_164 cc_164 ac_164 RS rc (d0 + 1) ac (p_actS K Wd pN pn rN rc RS (p_blk K Wd pN pn rN rc d0) (p_blkS K Wd pN pn rN rc RS d0) u) := by
      intro h1 h2
      rw [eA] at h1 h2
      have k1 := le_164 h1
      have hb9 := beg_ok (er_164 h2)
      have hac8 : ac < 80 := by have z := hnw.2.2.2.2.2; rw [z]; exact Nat.lt_of_le_of_lt (Nat.min_le_right _ _) hb9
      have h0 : ac < min 80 (ac + 1) := Nat.lt_min.mpr ⟨hac8, Nat.lt_succ_self _⟩
      have rr := ex_164.1 h0
      have mm := ex_164.2 h0 h1 h2
      have y35 := rr.1.trans (y35_133 trivial)
      have y28 := rr.2.trans (y28_133 trivial)
      refine ⟨hac8, by omega, y35, by omega, ?_⟩
      rw [eS]
      obtain ⟨x, m1, m2⟩ := mm
      exact Or.inr (Or.inr (Or.inr (Or.inr (Or.inr (Or.inl (⟨y28, x, _, m1, m2, rfl⟩))))))
    refine lv_iload_n hx hb dX14_act_167 rfl (lv_at hl 1 rfl) ?_
    exact q_iret hx hb hr hlocks hW hS ⟨_, _, _, _, _, (by rw [eA]; exact Q_164), (e7_164.trans (show R_133 107 0 = r 107 0 from by rw [hR_133]; exact (show R_93 107 0 = r 107 0 from by rw [hR_93]; exact (e7_65.trans rfl)))), (fun h1 => by rw [eA] at h1; exact (fun z => (e8_164 z).trans (show R_133 108 0 = r 108 0 from by rw [hR_133]; exact (show R_93 108 0 = r 108 0 from by rw [hR_93]; exact (e8_65.trans rfl)))) h1), trivial, ⟨rfl, EX⟩, rfl, rfl⟩ (Nat.le_of_ble_eq_true rfl) (Nat.le_of_ble_eq_true rfl) dX14_act_168

set_option maxHeartbeats 4000000 in
set_option maxRecDepth 100000 in
theorem kX14_act_13 (l : Launch) (E : q_E) (f : q_H) (n : Nat) (M : Nat) (r : q_R) (K : Nat → Nat) (Wd : Nat → Int64) (T : Nat) (u : p_S) (tk nd cc ac : Nat) (pN : Nat → Int64) (pn : Nat) (rN : Nat → Int64) (rc : Nat) (RS : Nat → q_S) (d0 : Nat)  (hm : RM E f M r) (hTK : r_T r K Wd T) (hT : T ≤ 400) (hKT : 39 ≤ K T) (hK41 : ∀ j, K j < 41) (hP : r_P r K T u tk nd cc ac) (hok : p_ok K T u) (hnm : r_nm r K Wd T 6 pn pN) (hpn : pn ≤ 8) (hpn9 : r 130 0 = nI pn) (hnr : r_nm r K Wd T 7 rc rN) (hrc : rc ≤ 6) (hrc9 : r 109 0 = nI rc) (hv8 : r 108 0 = nI (4 - 4)) (ihB : RBLK l E RS d0) (hd6 : d0 + 1 ≤ 6) (hv7 : r 107 0 = nI (6 - d0)) (hw : u.2.1 = 13) : Met l yX14_act wsX14_act ({ frames := 4 * d0 + 42, cells := 0, slots := 0, locals := 100 * d0 + 1060 }) (q_P E [.ref M] f n) (q_Qi E (fun r0 f1 n1 => ∃ (r1 : q_R) (tk1 nd1 cc1 ac1 : Nat), r_Q r r1 K T ((p_act K Wd pN pn rN rc (p_blk K Wd pN pn rN rc d0) u)) tk nd cc ac tk1 nd1 cc1 ac1 ∧ r1 107 0 = r 107 0 ∧ (((p_act K Wd pN pn rN rc (p_blk K Wd pN pn rN rc d0) u)).2.1 ≠ 40 → r1 108 0 = r 108 0) ∧ (True) ∧ (nI ac = r0 ∧ ((p_act K Wd pN pn rN rc (p_blk K Wd pN pn rN rc d0) u).2.1 ≠ 40 → (p_act K Wd pN pn rN rc (p_blk K Wd pN pn rN rc d0) u).2.2.1 = 0 → ac < 80 ∧ ac + 1 ≤ ac1 ∧ r1 35 ac = -1 ∧ mA (bR r1 25) pn nd1 cc1 ac1 RS rc (d0 + 1) ac (p_actS K Wd pN pn rN rc RS (p_blk K Wd pN pn rN rc d0) (p_blkS K Wd pN pn rN rc RS d0) u))) ∧ rO E f M r1 = f1 ∧ n = n1)) 0 0 (q_ge E) := by
  refine Met.ofW (cc := cX14_act) (maxL := 3) (ret := (some .int)) (by decide) rfl ?_
  intro p e s m args below meth c s₁ B hml hv
  obtain ⟨rfl, hA, hW⟩ := hv
  have hx := B.exec
  have hb := B.bytes
  have hr := B.returns
  have hts := atoms_spec (ws := wsX14_act) B.pre
  have hown : s.vm.findClass RX14 = some m.cls := findClass_of_methodNamed B.named
  have hlocks := B.notSynchronized
  have hS : va_S (q_ge E) s.heap s.heap [] := va_S.rf
  have iX13 : ∀ w ∈ wsX130, w ∈ wsX14_act := by decide +kernel
  have iX14 : ∀ w ∈ wsX140, w ∈ wsX14_act := by decide +kernel
  have hl := lv_entry ([.ref M]) (n := 3) (Nat.le_of_ble_eq_true rfl)
  rw [lg_entry_eq]
  generalize (lg_sl ([.ref M]) ++ List.replicate (3 - (lg_sl ([.ref M])).length) Slot.unset).toArray = ls at hl ⊢
  have hl : lv_has ls 3 [(0, .ref M)] := hl
  have hmE := hm.eq
  rw [hm.eq] at hW
  have Q0 := r_Q.rf hP
  have htk := hP.1.2.1
  have hnd := hP.1.2.2.2.1
  have hcc := hP.1.2.2.2.2.2.1
  have hac := hP.1.2.2.2.2.2.2.2
  have hnw := hP.nw (show u.2.1 ≠ 40 by omega)
  have h39 : u.2.1 < 39 := by omega
  refine lv_bipush (v := 80) hx hb dX14_act_0 (by decide) ?_
  refine lv_aload_n hx hb dX14_act_2 rfl (lv_at hl 0 rfl) ?_
  refine q_get hx hb hts hown hA hW iX14 rO_0 rfl 18 (by decide) (hts (.fieldLink RX14 42 "HighRecipesModel" "fresh" "LHighRecipesModel$Book;") (by decide +kernel)) (fun _ h9 => h9) (v := .ref (M + 25)) rfl dX14_act_3 ?_
  refine q_getN hx hb hts hown hA hW iX13 rO_25 rfl 4 (by decide) (va_Nw.use rfl (hA.2.2.2.1 ("HighRecipesModel", 215, "HighRecipesModel$Book", "acts", "I", "HighRecipesModel") (by decide +kernel))) (fun _ h9 => h9) (v := .int (nI ac)) (congrArg (fun z => some (Value.int z)) hP.1.2.2.2.2.2.2.1) dX14_act_6 ?_
  refine va_mmin hx hb (hml.trans hl.1.symm) hown (hts (.methodLink RX14 57 Lib.Math.min.name) (by decide +kernel)) (hts (.static Lib.Math.min.name) (by decide +kernel)) (hts (.initialized "java/lang/Math") (by decide +kernel)) (hts (.code Lib.Math.min.name Lib.Math.min.code 2 (some .int)) (by decide +kernel)) (by show 1 ≤ 4 * d0 + 42; omega) (by show 13 ≤ 100 * d0 + 1060; omega) (Nat.le_of_ble_eq_true rfl) (Nat.le_of_ble_eq_true rfl) dX14_act_9 ?_
  rw [show (if nI ac < 80 then nI ac else 80) = nI ac from (q_min_n (a := 80) (b := ac) (by decide) (by omega)).trans (by rw [Nat.min_eq_right hac])]
  refine lv_istore_n (lv' := [(1, .int (nI ac)), (0, .ref M)]) hx hb dX14_act_12 rfl hl (by decide) rfl (fun ls hl => ?_)
  refine lv_aload_n hx hb dX14_act_13 rfl (lv_at hl 1 rfl) ?_
  refine q_get hx hb hts hown hA hW iX14 rO_0 rfl 4 (by decide) (hts (.fieldLink RX14 17 "HighRecipesModel" "kind" "[I") (by decide +kernel)) (fun _ h9 => h9) (v := .ref (M + 2)) rfl dX14_act_14 ?_
  refine lv_aload_n hx hb dX14_act_17 rfl (lv_at hl 1 rfl) ?_
  refine q_get hx hb hts hown hA hW iX14 rO_0 rfl 8 (by decide) (hts (.fieldLink RX14 120 "HighRecipesModel" "token" "I") (by decide +kernel)) (fun _ h9 => h9) (v := .int (nI tk)) (congrArg (fun z => some (Value.int z)) hP.1.1) dX14_act_18 ?_
  refine q_ald hx hb hA hW (rO_2 (g := r 2) rfl) tk rfl (by omega) (by decide) (x := 13) (by rw [hTK.1 tk htk, hnw.2.1, ← hnw.2.2.1, hw]; rfl) dX14_act_21 ?_
  refine lv_istore_n (lv' := [(2, .int 13), (1, .int (nI ac)), (0, .ref M)]) hx hb dX14_act_22 rfl hl (by decide) rfl (fun ls hl => ?_)
  refine lv_iload_n hx hb dX14_act_23 rfl (lv_at hl 0 rfl) ?_
  refine lv_iconst (v := 3) hx hb dX14_act_24 (by decide) ?_
  refine lv_icmp_eq (tgt := 57) hx hb dX14_act_25 (by decide) (fun c_25 => False.elim ((fun h9 => absurd h9 (by decide)) c_25)) (fun c_25 => ?_)
  refine lv_iload_n hx hb dX14_act_28 rfl (lv_at hl 0 rfl) ?_
  refine lv_bipush (v := 7) hx hb dX14_act_29 (by decide) ?_
  refine lv_icmp_eq (tgt := 57) hx hb dX14_act_31 (by decide) (fun c_31 => False.elim ((fun h9 => absurd h9 (by decide)) c_31)) (fun c_31 => ?_)
  refine lv_iload_n hx hb dX14_act_34 rfl (lv_at hl 0 rfl) ?_
  refine lv_bipush (v := 9) hx hb dX14_act_35 (by decide) ?_
  refine lv_icmp_eq (tgt := 57) hx hb dX14_act_37 (by decide) (fun c_37 => False.elim ((fun h9 => absurd h9 (by decide)) c_37)) (fun c_37 => ?_)
  refine lv_iload_n hx hb dX14_act_40 rfl (lv_at hl 0 rfl) ?_
  refine lv_bipush (v := 11) hx hb dX14_act_41 (by decide) ?_
  refine lv_bipush (v := 16) hx hb dX14_act_43 (by decide) ?_
  refine q_ci (va_runS (As := [.int 13, .int 11, .int 16]) (rest := []) ⟨hx, hb, hml, hown, hts⟩ (kX14_isIn l E (rO E f M r) n 13 11 16) (va_cwS 3 hts gX14_act_X14_isIn rfl rfl rfl (by decide +kernel) ⟨(by show 0 + 1 ≤ 4 * d0 + 42; omega), (by show 8 + (3 + 11) + 0 ≤ 100 * d0 + 1060; omega)⟩) (q_pS hA hW hS) rfl rfl hl.1 rfl (lv_room (Nat.le_of_ble_eq_true rfl)) dX14_act_45 ⟨Nat.le_of_ble_eq_true rfl, Nat.le_of_ble_eq_true rfl⟩) hS (fun r_45 f_45 n_45 H locs hp hW hS => ?_)
  obtain ⟨rfl, rfl, rfl⟩ := hp
  have hW : q_W E (rO E f M r) n H := hW
  refine lv_if_ne (tgt := 57) hx hb dX14_act_48 (by decide) (fun c_48 => ?_) (fun c_48 => False.elim ((fun h9 => absurd h9 (by decide)) c_48))
  refine lv_iload_n hx hb dX14_act_57 rfl (lv_at hl 1 rfl) ?_
  refine lv_bipush (v := 80) hx hb dX14_act_58 (by decide) ?_
  refine lv_icmp_ne (tgt := 68) hx hb dX14_act_60 (by decide) (fun c_60 => ?_) (fun c_60 => ?_)
  · have e80 : ¬ ac = 80 := fun h9 => c_60 (by rw [h9]; rfl)
    refine lv_aload_n hx hb dX14_act_68 rfl (lv_at hl 2 rfl) ?_
    refine q_get hx hb hts hown hA hW iX14 rO_0 rfl 18 (by decide) (hts (.fieldLink RX14 42 "HighRecipesModel" "fresh" "LHighRecipesModel$Book;") (by decide +kernel)) (fun _ h9 => h9) (v := .ref (M + 25)) rfl dX14_act_69 ?_
    refine lv_bipush (v := 80) hx hb dX14_act_72 (by decide) ?_
    refine lv_iload_n hx hb dX14_act_74 rfl (lv_at hl 1 rfl) ?_
    refine lv_iconst (v := 1) hx hb dX14_act_75 (by decide) ?_
    refine lv_iadd hx hb dX14_act_76 ?_
    rw [nI_1]
    refine va_mmin hx hb (hml.trans hl.1.symm) hown (hts (.methodLink RX14 57 Lib.Math.min.name) (by decide +kernel)) (hts (.static Lib.Math.min.name) (by decide +kernel)) (hts (.initialized "java/lang/Math") (by decide +kernel)) (hts (.code Lib.Math.min.name Lib.Math.min.code 2 (some .int)) (by decide +kernel)) (by show 1 ≤ 4 * d0 + 42; omega) (by show 14 ≤ 100 * d0 + 1060; omega) (Nat.le_of_ble_eq_true rfl) (Nat.le_of_ble_eq_true rfl) dX14_act_77 ?_
    rw [show (if nI (ac + 1) < 80 then nI (ac + 1) else 80) = nI (min 80 (ac + 1)) from q_min_n (a := 80) (b := ac + 1) (by decide) (by omega)]
    refine q_putN hx hb hts hown hA hW hS iX13 tyX13 tyX13_ok nmX13 rO_25 rfl 4 (by decide) (va_Nw.use rfl (hA.2.2.2.1 ("HighRecipesModel", 215, "HighRecipesModel$Book", "acts", "I", "HighRecipesModel") (by decide +kernel))) (fun _ h9 => h9) rfl rfl rfl (Nat.le_of_ble_eq_true rfl) dX14_act_80 (fun H locs hW hS => ?_)
    have hW := q_s25 132 (nI (min 80 (ac + 1))) hW rfl (by decide)
    refine lv_aload_n hx hb dX14_act_83 rfl (lv_at hl 2 rfl) ?_
    refine lv_dup hx hb dX14_act_84 rfl ?_
    refine q_get hx hb hts hown hA hW iX14 rO_0 rfl 8 (by decide) (hts (.fieldLink RX14 120 "HighRecipesModel" "token" "I") (by decide +kernel)) (fun _ h9 => h9) (v := .int (nI tk)) (congrArg (fun z => some (Value.int z)) hP.1.1) dX14_act_85 ?_
    refine lv_iconst (v := 1) hx hb dX14_act_88 (by decide) ?_
    refine lv_iadd hx hb dX14_act_89 ?_
    refine q_put hx hb hts hown hA hW hS iX14 tyX14 tyX14_ok nmX14 rO_0 rfl 8 (by decide) (hts (.fieldLink RX14 120 "HighRecipesModel" "token" "I") (by decide +kernel)) (fun _ h9 => h9) rfl rfl rfl (Nat.le_of_ble_eq_true rfl) dX14_act_90 (fun H locs hW hS => ?_)
    rw [show (nI tk) + 1 = nI (tk + 1) from nI_1 tk] at hW
    have hW := q_s0 103 (nI (tk + 1)) hW rfl (by decide)
    obtain ⟨R_93, hR_93⟩ : ∃ z, z = rp (rp r 132 (fun _ => nI (min 80 (ac + 1)))) 103 (fun _ => nI (tk + 1)) := ⟨_, rfl⟩
    rw [← hR_93] at hW
    have Q_93 : r_Q r R_93 K T (p_beg K u) tk nd cc ac (tk + 1) nd cc (min 80 (ac + 1)) := by rw [hR_93]; exact (r_Q.beg (by rw [decide_eq_false e80]; exact Q0) h39 hKT)
    have T_93 := Q_93.tok hTK
    have num_93 := Q_93.2.2
    unfold r_num at num_93
    have bt_93 := Q_93.1.1.2.1
    have bn_93 := Q_93.1.1.2.2.2.1
    have bc_93 := Q_93.1.1.2.2.2.2.2.1
    have ba_93 := Q_93.1.1.2.2.2.2.2.2.2
    have G_93 : p_go K T u (p_beg K u) := (go_beg hKT h39)
    have GG_93 := G_93 hok
    have ok_93 := GG_93.1
    have le_93 := GG_93.2.2.2.1
    have er_93 := GG_93.2.2.2.2
    have h8_93 : (p_beg K u).2.1 ≠ 40 → R_93 108 0 = nI (4 - 4) := fun z => by rw [hR_93]; exact (fun _ => hv8) (le_93 z)
    refine lv_aload_n hx hb dX14_act_93 rfl (lv_at hl 2 rfl) ?_
    refine q_get hx hb hts hown hA hW iX14 rO_0 rfl 18 (by decide) (hts (.fieldLink RX14 42 "HighRecipesModel" "fresh" "LHighRecipesModel$Book;") (by decide +kernel)) (fun _ h9 => h9) (v := .ref (M + 25)) rfl dX14_act_94 ?_
    refine q_getN hx hb hts hown hA hW iX13 rO_25 rfl 5 (by decide) (va_Nw.use rfl (hA.2.2.2.1 ("HighRecipesModel", 218, "HighRecipesModel$Book", "does", "[I", "HighRecipesModel") (by decide +kernel))) (fun _ h9 => h9) (v := .ref (M + 28)) rfl dX14_act_97 ?_
    refine lv_iload_n hx hb dX14_act_100 rfl (lv_at hl 1 rfl) ?_
    refine lv_iload_n hx hb dX14_act_101 rfl (lv_at hl 0 rfl) ?_
    refine q_ast hx hb hA hW hS (rO_28 (g := R_93 28) rfl) ac rfl (by omega) (by decide) dX14_act_102 (fun H locs hW hS => ?_)
    have hW := q_sa 28 hW rfl rfl
    refine lv_aload_n hx hb dX14_act_103 rfl (lv_at hl 2 rfl) ?_
    refine q_get hx hb hts hown hA hW iX14 rO_0 rfl 18 (by decide) (hts (.fieldLink RX14 42 "HighRecipesModel" "fresh" "LHighRecipesModel$Book;") (by decide +kernel)) (fun _ h9 => h9) (v := .ref (M + 25)) rfl dX14_act_104 ?_
    refine q_getN hx hb hts hown hA hW iX13 rO_25 rfl 12 (by decide) (va_Nw.use rfl (hA.2.2.2.1 ("HighRecipesModel", 212, "HighRecipesModel$Book", "next", "[I", "HighRecipesModel") (by decide +kernel))) (fun _ h9 => h9) (v := .ref (M + 35)) rfl dX14_act_107 ?_
    refine lv_iload_n hx hb dX14_act_110 rfl (lv_at hl 1 rfl) ?_
    refine lv_iconst (v := (-1)) hx hb dX14_act_111 (by decide) ?_
    refine q_ast hx hb hA hW hS (rO_35 (g := R_93 35) rfl) ac rfl (by omega) (by decide) dX14_act_112 (fun H locs hW hS => ?_)
    have hW := q_sa 35 hW rfl rfl
    refine lv_aload_n hx hb dX14_act_113 rfl (lv_at hl 2 rfl) ?_
    refine q_get hx hb hts hown hA hW iX14 rO_0 rfl 18 (by decide) (hts (.fieldLink RX14 42 "HighRecipesModel" "fresh" "LHighRecipesModel$Book;") (by decide +kernel)) (fun _ h9 => h9) (v := .ref (M + 25)) rfl dX14_act_114 ?_
    refine q_getN hx hb hts hown hA hW iX13 rO_25 rfl 10 (by decide) (va_Nw.use rfl (hA.2.2.2.1 ("HighRecipesModel", 221, "HighRecipesModel$Book", "block", "[I", "HighRecipesModel") (by decide +kernel))) (fun _ h9 => h9) (v := .ref (M + 33)) rfl dX14_act_117 ?_
    refine lv_iload_n hx hb dX14_act_120 rfl (lv_at hl 1 rfl) ?_
    refine lv_iconst (v := (-1)) hx hb dX14_act_121 (by decide) ?_
    refine q_ast hx hb hA hW hS (rO_33 (g := R_93 33) rfl) ac rfl (by omega) (by decide) dX14_act_122 (fun H locs hW hS => ?_)
    have hW := q_sa 33 hW rfl rfl
    refine lv_aload_n hx hb dX14_act_123 rfl (lv_at hl 2 rfl) ?_
    refine q_get hx hb hts hown hA hW iX14 rO_0 rfl 18 (by decide) (hts (.fieldLink RX14 42 "HighRecipesModel" "fresh" "LHighRecipesModel$Book;") (by decide +kernel)) (fun _ h9 => h9) (v := .ref (M + 25)) rfl dX14_act_124 ?_
    refine q_getN hx hb hts hown hA hW iX13 rO_25 rfl 11 (by decide) (va_Nw.use rfl (hA.2.2.2.1 ("HighRecipesModel", 224, "HighRecipesModel$Book", "other", "[I", "HighRecipesModel") (by decide +kernel))) (fun _ h9 => h9) (v := .ref (M + 34)) rfl dX14_act_127 ?_
    refine lv_iload_n hx hb dX14_act_130 rfl (lv_at hl 1 rfl) ?_
    refine lv_iconst (v := (-1)) hx hb dX14_act_131 (by decide) ?_
    refine q_ast hx hb hA hW hS (rO_34 (g := R_93 34) rfl) ac rfl (by omega) (by decide) dX14_act_132 (fun H locs hW hS => ?_)
    have hW := q_sa 34 hW rfl rfl
    obtain ⟨R_133, hR_133⟩ : ∃ z, z = rp (rp (rp (rp R_93 28 (upd (R_93 28) ac 13)) 35 (upd (R_93 35) ac (-1))) 33 (upd (R_93 33) ac (-1))) 34 (upd (R_93 34) ac (-1)) := ⟨_, rfl⟩
    rw [← hR_133] at hW
    have Q_133 : r_Q r R_133 K T (p_beg K u) tk nd cc ac (tk + 1) nd cc (min 80 (ac + 1)) := by rw [hR_133]; exact ((((Q_93.st (by decide) (by omega)).st (by decide) (by omega)).st (by decide) (by omega)).st (by decide) (by omega))
    have T_133 := Q_133.tok hTK
    have num_133 := Q_133.2.2
    unfold r_num at num_133
    have bt_133 := Q_133.1.1.2.1
    have bn_133 := Q_133.1.1.2.2.2.1
    have bc_133 := Q_133.1.1.2.2.2.2.2.1
    have ba_133 := Q_133.1.1.2.2.2.2.2.2.2
    have y28_133 : True → R_133 28 ac = 13 := fun _ => by rw [hR_133]; exact st_row (r := R_93) (j := 28) (q0 := ac) (x := 13)
    have y35_133 : True → R_133 35 ac = -1 := fun _ => by rw [hR_133]; exact st_row (r := R_93) (j := 35) (q0 := ac) (x := -1)
    have y33_133 : True → R_133 33 ac = -1 := fun _ => by rw [hR_133]; exact st_row (r := R_93) (j := 33) (q0 := ac) (x := -1)
    have y34_133 : True → R_133 34 ac = -1 := fun _ => by rw [hR_133]; exact st_row (r := R_93) (j := 34) (q0 := ac) (x := -1)
    have h8_133 : (p_beg K u).2.1 ≠ 40 → R_133 108 0 = nI (4 - 4) := fun z => by rw [hR_133]; exact h8_93 z
    refine lv_iload_n hx hb dX14_act_133 rfl (lv_at hl 0 rfl) ?_
    refine lv_bipush (v := 15) hx hb dX14_act_134 (by decide) ?_
    refine lv_icmp_ne (tgt := 147) hx hb dX14_act_136 (by decide) (fun c_136 => ?_) (fun c_136 => False.elim ((fun h9 => absurd h9 (by decide)) c_136))
    refine lv_iload_n hx hb dX14_act_147 rfl (lv_at hl 0 rfl) ?_
    refine lv_bipush (v := 16) hx hb dX14_act_148 (by decide) ?_
    refine lv_icmp_ne (tgt := 161) hx hb dX14_act_150 (by decide) (fun c_150 => ?_) (fun c_150 => False.elim ((fun h9 => absurd h9 (by decide)) c_150))
    refine lv_aload_n hx hb dX14_act_161 rfl (lv_at hl 2 rfl) ?_
    refine lv_iload_n hx hb dX14_act_162 rfl (lv_at hl 1 rfl) ?_
    refine lv_iload_n hx hb dX14_act_163 rfl (lv_at hl 0 rfl) ?_
    refine q_cv (va_runV (As := [.int (nI ac), .int 13]) (rest := []) ⟨hx, hb, hml, hown, hts⟩ (kX14_plain_13 l E (rO E f M R_133) n M R_133 K Wd T (p_beg K u) (tk + 1) nd cc (min 80 (ac + 1)) pN pn rN rc ac rO_K T_133 hT hKT hK41 Q_133.1 ok_93 (hnm.mv (Q_133.2.1.1 6 (by decide) (by decide) (by decide))) hpn (show R_133 130 0 = nI pn from by rw [hR_133]; exact (show R_93 130 0 = nI pn from by rw [hR_93]; exact hpn9)) (hnr.mv (Q_133.2.1.1 7 (by decide) (by decide) (by decide))) hrc (show R_133 109 0 = nI rc from by rw [hR_133]; exact (show R_93 109 0 = nI rc from by rw [hR_93]; exact hrc9)) (show R_133 108 0 = nI (4 - 4) from by rw [hR_133]; exact (show R_93 108 0 = nI (4 - 4) from by rw [hR_93]; exact hv8)) (by omega)) (cwV 2 hts gX14_act_X14_plain rfl rfl rfl (by decide +kernel) ⟨(by show 29 + 1 ≤ 4 * d0 + 42; omega), (by show 8 + (3 + 11) + 721 ≤ 100 * d0 + 1060; omega)⟩) (q_pV hA hW hS (ci := 12) rfl rO_0) rfl rfl hl.1 rfl (lv_room (Nat.le_of_ble_eq_true rfl)) dX14_act_164 ⟨Nat.le_of_ble_eq_true rfl, Nat.le_of_ble_eq_true rfl⟩) hS (fun f_164 n_164 H locs hp hW hS => ?_)
    obtain ⟨R_164, tk_164, nd_164, cc_164, ac_164, q_164, e7_164, e8_164, ec_164, ex_164, rfl, rfl⟩ := hp
    have G_164 : p_go K T (p_beg K u) (p_take K 29 (p_val K Wd pN pn 4 (p_beg K u))) := ((go_val0 hKT 4 _).trans (go_take hKT (by decide)))
    have GG_164 := G_164 ok_93
    have ok_164 := GG_164.1
    have le_164 := GG_164.2.2.2.1
    have er_164 := GG_164.2.2.2.2
    have Q_164 := Q_133.trans9 q_164 (by omega)
    have T_164 := Q_164.tok hTK
    have num_164 := Q_164.2.2
    unfold r_num at num_164
    have bt_164 := Q_164.1.1.2.1
    have bn_164 := Q_164.1.1.2.2.2.1
    have bc_164 := Q_164.1.1.2.2.2.2.2.1
    have ba_164 := Q_164.1.1.2.2.2.2.2.2.2
    have qn_164 := q_164.2.2
    unfold r_num at qn_164
    have h8_164 : (p_take K 29 (p_val K Wd pN pn 4 (p_beg K u))).2.1 ≠ 40 → R_164 108 0 = nI (4 - 4) := fun z => (e8_164 z).trans (h8_133 (le_164 z))
    rw [rO_rO] at hW
    have hW : q_W E (rO E f M R_164) n H := hW
    have eA : p_act K Wd pN pn rN rc (p_blk K Wd pN pn rN rc d0) u = p_take K 29 (p_val K Wd pN pn 4 (p_beg K u)) := by unfold p_act; rw [hw]; rfl
    have eS : p_actS K Wd pN pn rN rc RS (p_blk K Wd pN pn rN rc d0) (p_blkS K Wd pN pn rN rc RS d0) u = k_note (p_valD K Wd pN pn 4 (p_beg K u)) := by unfold p_actS; rw [hw]; rfl
    have EX : (p_act K Wd pN pn rN rc (p_blk K Wd pN pn rN rc d0) u).2.1 ≠ 40 → (p_act K Wd pN pn rN rc (p_blk K Wd pN pn rN rc d0) u).2.2.1 = 0 → ac < 80 ∧ ac + 1 ≤ ac_164 ∧ R_164 35 ac = -1 ∧ mA (bR R_164 25) pn nd_164 cc_164 ac_164 RS rc (d0 + 1) ac (p_actS K Wd pN pn rN rc RS (p_blk K Wd pN pn rN rc d0) (p_blkS K Wd pN pn rN rc RS d0) u) := by
      intro h1 h2
      rw [eA] at h1 h2
      have k1 := le_164 h1
      have hb9 := beg_ok (er_164 h2)
      have hac8 : ac < 80 := by have z := hnw.2.2.2.2.2; rw [z]; exact Nat.lt_of_le_of_lt (Nat.min_le_right _ _) hb9
      have h0 : ac < min 80 (ac + 1) := Nat.lt_min.mpr ⟨hac8, Nat.lt_succ_self _⟩
      have rr := ex_164.1 h0
      have mm := ex_164.2 h0 h1 h2
      have y35 := rr.1.trans (y35_133 trivial)
      have y28 := rr.2.trans (y28_133 trivial)
      refine ⟨hac8, by omega, y35, by omega, ?_⟩
      rw [eS]
      obtain ⟨x, m1, m2⟩ := mm
      exact Or.inr (Or.inr (Or.inr (Or.inr (Or.inr (Or.inr (Or.inl (⟨y28, x, _, m1, m2, rfl⟩)))))))
    refine lv_iload_n hx hb dX14_act_167 rfl (lv_at hl 1 rfl) ?_
    exact q_iret hx hb hr hlocks hW hS ⟨_, _, _, _, _, (by rw [eA]; exact Q_164), (e7_164.trans (show R_133 107 0 = r 107 0 from by rw [hR_133]; exact (show R_93 107 0 = r 107 0 from by rw [hR_93]; exact rfl))), (fun h1 => by rw [eA] at h1; exact (fun z => (e8_164 z).trans (show R_133 108 0 = r 108 0 from by rw [hR_133]; exact (show R_93 108 0 = r 108 0 from by rw [hR_93]; exact rfl))) h1), trivial, ⟨rfl, EX⟩, rfl, rfl⟩ (Nat.le_of_ble_eq_true rfl) (Nat.le_of_ble_eq_true rfl) dX14_act_168
  · have e80 : ac = 80 := (nI_eq (by omega) (by decide)).1 c_60
    refine lv_aload_n hx hb dX14_act_63 rfl (lv_at hl 2 rfl) ?_
    refine lv_iconst (v := 4) hx hb dX14_act_64 (by decide) ?_
    refine q_cv (va_runV (As := [.int 4]) (rest := []) ⟨hx, hb, hml, hown, hts⟩ (kX14_mark l E (rO E f M r) n M r K Wd T u tk nd cc ac 4 rO_K hTK hT hKT hK41 Q0.1 hok) (cwV 1 hts gX14_act_X14_mark rfl rfl rfl (by decide +kernel) ⟨(by show 0 + 1 ≤ 4 * d0 + 42; omega), (by show 8 + (2 + 11) + 0 ≤ 100 * d0 + 1060; omega)⟩) (q_pV hA hW hS (ci := 12) rfl rO_0) rfl rfl hl.1 rfl (lv_room (Nat.le_of_ble_eq_true rfl)) dX14_act_65 ⟨Nat.le_of_ble_eq_true rfl, Nat.le_of_ble_eq_true rfl⟩) hS (fun f_65 n_65 H locs hp hW hS => ?_)
    obtain ⟨R_65, tk_65, nd_65, cc_65, ac_65, q_65, e7_65, e8_65, ec_65, ex_65, rfl, rfl⟩ := hp
    have G_65 : p_go K T u (p_ci true 4 u) := (go_ci (by decide) (by decide))
    have GG_65 := G_65 hok
    have ok_65 := GG_65.1
    have le_65 := GG_65.2.2.2.1
    have er_65 := GG_65.2.2.2.2
    have Q_65 := Q0.trans q_65
    have T_65 := Q_65.tok hTK
    have num_65 := Q_65.2.2
    unfold r_num at num_65
    have bt_65 := Q_65.1.1.2.1
    have bn_65 := Q_65.1.1.2.2.2.1
    have bc_65 := Q_65.1.1.2.2.2.2.2.1
    have ba_65 := Q_65.1.1.2.2.2.2.2.2.2
    have qn_65 := q_65.2.2
    unfold r_num at qn_65
    have h8_65 : (p_ci true 4 u).2.1 ≠ 40 → R_65 108 0 = nI (4 - 4) := fun z => (e8_65).trans ((fun _ => hv8) (le_65 z))
    rw [rO_rO] at hW
    have hW : q_W E (rO E f M R_65) n H := hW
    have eac9 : ac_65 = ac := (ec_65.2.trans rfl)
    rw [eac9] at Q_65
    refine lv_aload_n hx hb dX14_act_68 rfl (lv_at hl 2 rfl) ?_
    refine q_get hx hb hts hown hA hW iX14 rO_0 rfl 18 (by decide) (hts (.fieldLink RX14 42 "HighRecipesModel" "fresh" "LHighRecipesModel$Book;") (by decide +kernel)) (fun _ h9 => h9) (v := .ref (M + 25)) rfl dX14_act_69 ?_
    refine lv_bipush (v := 80) hx hb dX14_act_72 (by decide) ?_
    refine lv_iload_n hx hb dX14_act_74 rfl (lv_at hl 1 rfl) ?_
    refine lv_iconst (v := 1) hx hb dX14_act_75 (by decide) ?_
    refine lv_iadd hx hb dX14_act_76 ?_
    rw [nI_1]
    refine va_mmin hx hb (hml.trans hl.1.symm) hown (hts (.methodLink RX14 57 Lib.Math.min.name) (by decide +kernel)) (hts (.static Lib.Math.min.name) (by decide +kernel)) (hts (.initialized "java/lang/Math") (by decide +kernel)) (hts (.code Lib.Math.min.name Lib.Math.min.code 2 (some .int)) (by decide +kernel)) (by show 1 ≤ 4 * d0 + 42; omega) (by show 14 ≤ 100 * d0 + 1060; omega) (Nat.le_of_ble_eq_true rfl) (Nat.le_of_ble_eq_true rfl) dX14_act_77 ?_
    rw [show (if nI (ac + 1) < 80 then nI (ac + 1) else 80) = nI (min 80 (ac + 1)) from q_min_n (a := 80) (b := ac + 1) (by decide) (by omega)]
    refine q_putN hx hb hts hown hA hW hS iX13 tyX13 tyX13_ok nmX13 rO_25 rfl 4 (by decide) (va_Nw.use rfl (hA.2.2.2.1 ("HighRecipesModel", 215, "HighRecipesModel$Book", "acts", "I", "HighRecipesModel") (by decide +kernel))) (fun _ h9 => h9) rfl rfl rfl (Nat.le_of_ble_eq_true rfl) dX14_act_80 (fun H locs hW hS => ?_)
    have hW := q_s25 132 (nI (min 80 (ac + 1))) hW rfl (by decide)
    refine lv_aload_n hx hb dX14_act_83 rfl (lv_at hl 2 rfl) ?_
    refine lv_dup hx hb dX14_act_84 rfl ?_
    refine q_get hx hb hts hown hA hW iX14 rO_0 rfl 8 (by decide) (hts (.fieldLink RX14 120 "HighRecipesModel" "token" "I") (by decide +kernel)) (fun _ h9 => h9) (v := .int (nI tk_65)) (congrArg (fun z => some (Value.int z)) Q_65.1.1.1) dX14_act_85 ?_
    refine lv_iconst (v := 1) hx hb dX14_act_88 (by decide) ?_
    refine lv_iadd hx hb dX14_act_89 ?_
    refine q_put hx hb hts hown hA hW hS iX14 tyX14 tyX14_ok nmX14 rO_0 rfl 8 (by decide) (hts (.fieldLink RX14 120 "HighRecipesModel" "token" "I") (by decide +kernel)) (fun _ h9 => h9) rfl rfl rfl (Nat.le_of_ble_eq_true rfl) dX14_act_90 (fun H locs hW hS => ?_)
    rw [show (nI tk_65) + 1 = nI (tk_65 + 1) from nI_1 tk_65] at hW
    have hW := q_s0 103 (nI (tk_65 + 1)) hW rfl (by decide)
    obtain ⟨R_93, hR_93⟩ : ∃ z, z = rp (rp R_65 132 (fun _ => nI (min 80 (ac + 1)))) 103 (fun _ => nI (tk_65 + 1)) := ⟨_, rfl⟩
    rw [← hR_93] at hW
    have Q_93 : r_Q r R_93 K T (p_beg K u) tk nd cc ac (tk_65 + 1) nd_65 cc_65 (min 80 (ac + 1)) := by rw [hR_93]; exact (r_Q.beg (by rw [decide_eq_true e80]; exact Q_65) h39 hKT)
    have T_93 := Q_93.tok hTK
    have num_93 := Q_93.2.2
    unfold r_num at num_93
    have bt_93 := Q_93.1.1.2.1
    have bn_93 := Q_93.1.1.2.2.2.1
    have bc_93 := Q_93.1.1.2.2.2.2.2.1
    have ba_93 := Q_93.1.1.2.2.2.2.2.2.2
    have G_93 : p_go K T u (p_beg K u) := (go_beg hKT h39)
    have GG_93 := G_93 hok
    have ok_93 := GG_93.1
    have le_93 := GG_93.2.2.2.1
    have er_93 := GG_93.2.2.2.2
    have h8_93 : (p_beg K u).2.1 ≠ 40 → R_93 108 0 = nI (4 - 4) := fun z => by rw [hR_93]; exact h8_65 (le_93 z)
    refine lv_aload_n hx hb dX14_act_93 rfl (lv_at hl 2 rfl) ?_
    refine q_get hx hb hts hown hA hW iX14 rO_0 rfl 18 (by decide) (hts (.fieldLink RX14 42 "HighRecipesModel" "fresh" "LHighRecipesModel$Book;") (by decide +kernel)) (fun _ h9 => h9) (v := .ref (M + 25)) rfl dX14_act_94 ?_
    refine q_getN hx hb hts hown hA hW iX13 rO_25 rfl 5 (by decide) (va_Nw.use rfl (hA.2.2.2.1 ("HighRecipesModel", 218, "HighRecipesModel$Book", "does", "[I", "HighRecipesModel") (by decide +kernel))) (fun _ h9 => h9) (v := .ref (M + 28)) rfl dX14_act_97 ?_
    refine lv_iload_n hx hb dX14_act_100 rfl (lv_at hl 1 rfl) ?_
    refine lv_iload_n hx hb dX14_act_101 rfl (lv_at hl 0 rfl) ?_
    refine q_ast hx hb hA hW hS (rO_28 (g := R_93 28) rfl) ac rfl (by omega) (by decide) dX14_act_102 (fun H locs hW hS => ?_)
    have hW := q_sa 28 hW rfl rfl
    refine lv_aload_n hx hb dX14_act_103 rfl (lv_at hl 2 rfl) ?_
    refine q_get hx hb hts hown hA hW iX14 rO_0 rfl 18 (by decide) (hts (.fieldLink RX14 42 "HighRecipesModel" "fresh" "LHighRecipesModel$Book;") (by decide +kernel)) (fun _ h9 => h9) (v := .ref (M + 25)) rfl dX14_act_104 ?_
    refine q_getN hx hb hts hown hA hW iX13 rO_25 rfl 12 (by decide) (va_Nw.use rfl (hA.2.2.2.1 ("HighRecipesModel", 212, "HighRecipesModel$Book", "next", "[I", "HighRecipesModel") (by decide +kernel))) (fun _ h9 => h9) (v := .ref (M + 35)) rfl dX14_act_107 ?_
    refine lv_iload_n hx hb dX14_act_110 rfl (lv_at hl 1 rfl) ?_
    refine lv_iconst (v := (-1)) hx hb dX14_act_111 (by decide) ?_
    refine q_ast hx hb hA hW hS (rO_35 (g := R_93 35) rfl) ac rfl (by omega) (by decide) dX14_act_112 (fun H locs hW hS => ?_)
    have hW := q_sa 35 hW rfl rfl
    refine lv_aload_n hx hb dX14_act_113 rfl (lv_at hl 2 rfl) ?_
    refine q_get hx hb hts hown hA hW iX14 rO_0 rfl 18 (by decide) (hts (.fieldLink RX14 42 "HighRecipesModel" "fresh" "LHighRecipesModel$Book;") (by decide +kernel)) (fun _ h9 => h9) (v := .ref (M + 25)) rfl dX14_act_114 ?_
    refine q_getN hx hb hts hown hA hW iX13 rO_25 rfl 10 (by decide) (va_Nw.use rfl (hA.2.2.2.1 ("HighRecipesModel", 221, "HighRecipesModel$Book", "block", "[I", "HighRecipesModel") (by decide +kernel))) (fun _ h9 => h9) (v := .ref (M + 33)) rfl dX14_act_117 ?_
    refine lv_iload_n hx hb dX14_act_120 rfl (lv_at hl 1 rfl) ?_
    refine lv_iconst (v := (-1)) hx hb dX14_act_121 (by decide) ?_
    refine q_ast hx hb hA hW hS (rO_33 (g := R_93 33) rfl) ac rfl (by omega) (by decide) dX14_act_122 (fun H locs hW hS => ?_)
    have hW := q_sa 33 hW rfl rfl
    refine lv_aload_n hx hb dX14_act_123 rfl (lv_at hl 2 rfl) ?_
    refine q_get hx hb hts hown hA hW iX14 rO_0 rfl 18 (by decide) (hts (.fieldLink RX14 42 "HighRecipesModel" "fresh" "LHighRecipesModel$Book;") (by decide +kernel)) (fun _ h9 => h9) (v := .ref (M + 25)) rfl dX14_act_124 ?_
    refine q_getN hx hb hts hown hA hW iX13 rO_25 rfl 11 (by decide) (va_Nw.use rfl (hA.2.2.2.1 ("HighRecipesModel", 224, "HighRecipesModel$Book", "other", "[I", "HighRecipesModel") (by decide +kernel))) (fun _ h9 => h9) (v := .ref (M + 34)) rfl dX14_act_127 ?_
    refine lv_iload_n hx hb dX14_act_130 rfl (lv_at hl 1 rfl) ?_
    refine lv_iconst (v := (-1)) hx hb dX14_act_131 (by decide) ?_
    refine q_ast hx hb hA hW hS (rO_34 (g := R_93 34) rfl) ac rfl (by omega) (by decide) dX14_act_132 (fun H locs hW hS => ?_)
    have hW := q_sa 34 hW rfl rfl
    obtain ⟨R_133, hR_133⟩ : ∃ z, z = rp (rp (rp (rp R_93 28 (upd (R_93 28) ac 13)) 35 (upd (R_93 35) ac (-1))) 33 (upd (R_93 33) ac (-1))) 34 (upd (R_93 34) ac (-1)) := ⟨_, rfl⟩
    rw [← hR_133] at hW
    have Q_133 : r_Q r R_133 K T (p_beg K u) tk nd cc ac (tk_65 + 1) nd_65 cc_65 (min 80 (ac + 1)) := by rw [hR_133]; exact ((((Q_93.st (by decide) (by omega)).st (by decide) (by omega)).st (by decide) (by omega)).st (by decide) (by omega))
    have T_133 := Q_133.tok hTK
    have num_133 := Q_133.2.2
    unfold r_num at num_133
    have bt_133 := Q_133.1.1.2.1
    have bn_133 := Q_133.1.1.2.2.2.1
    have bc_133 := Q_133.1.1.2.2.2.2.2.1
    have ba_133 := Q_133.1.1.2.2.2.2.2.2.2
    have y28_133 : True → R_133 28 ac = 13 := fun _ => by rw [hR_133]; exact st_row (r := R_93) (j := 28) (q0 := ac) (x := 13)
    have y35_133 : True → R_133 35 ac = -1 := fun _ => by rw [hR_133]; exact st_row (r := R_93) (j := 35) (q0 := ac) (x := -1)
    have y33_133 : True → R_133 33 ac = -1 := fun _ => by rw [hR_133]; exact st_row (r := R_93) (j := 33) (q0 := ac) (x := -1)
    have y34_133 : True → R_133 34 ac = -1 := fun _ => by rw [hR_133]; exact st_row (r := R_93) (j := 34) (q0 := ac) (x := -1)
    have h8_133 : (p_beg K u).2.1 ≠ 40 → R_133 108 0 = nI (4 - 4) := fun z => by rw [hR_133]; exact h8_93 z
    refine lv_iload_n hx hb dX14_act_133 rfl (lv_at hl 0 rfl) ?_
    refine lv_bipush (v := 15) hx hb dX14_act_134 (by decide) ?_
    refine lv_icmp_ne (tgt := 147) hx hb dX14_act_136 (by decide) (fun c_136 => ?_) (fun c_136 => False.elim ((fun h9 => absurd h9 (by decide)) c_136))
    refine lv_iload_n hx hb dX14_act_147 rfl (lv_at hl 0 rfl) ?_
    refine lv_bipush (v := 16) hx hb dX14_act_148 (by decide) ?_
    refine lv_icmp_ne (tgt := 161) hx hb dX14_act_150 (by decide) (fun c_150 => ?_) (fun c_150 => False.elim ((fun h9 => absurd h9 (by decide)) c_150))
    refine lv_aload_n hx hb dX14_act_161 rfl (lv_at hl 2 rfl) ?_
    refine lv_iload_n hx hb dX14_act_162 rfl (lv_at hl 1 rfl) ?_
    refine lv_iload_n hx hb dX14_act_163 rfl (lv_at hl 0 rfl) ?_
    refine q_cv (va_runV (As := [.int (nI ac), .int 13]) (rest := []) ⟨hx, hb, hml, hown, hts⟩ (kX14_plain_13 l E (rO E f M R_133) n M R_133 K Wd T (p_beg K u) (tk_65 + 1) nd_65 cc_65 (min 80 (ac + 1)) pN pn rN rc ac rO_K T_133 hT hKT hK41 Q_133.1 ok_93 (hnm.mv (Q_133.2.1.1 6 (by decide) (by decide) (by decide))) hpn (show R_133 130 0 = nI pn from by rw [hR_133]; exact (show R_93 130 0 = nI pn from by rw [hR_93]; exact ((congrFun (q_65.2.1.1 130 (by decide) (by decide) (by decide)) 0).trans hpn9))) (hnr.mv (Q_133.2.1.1 7 (by decide) (by decide) (by decide))) hrc (show R_133 109 0 = nI rc from by rw [hR_133]; exact (show R_93 109 0 = nI rc from by rw [hR_93]; exact ((congrFun (q_65.2.1.1 109 (by decide) (by decide) (by decide)) 0).trans hrc9))) (show R_133 108 0 = nI (4 - 4) from by rw [hR_133]; exact (show R_93 108 0 = nI (4 - 4) from by rw [hR_93]; exact (e8_65.trans hv8))) (by omega)) (cwV 2 hts gX14_act_X14_plain rfl rfl rfl (by decide +kernel) ⟨(by show 29 + 1 ≤ 4 * d0 + 42; omega), (by show 8 + (3 + 11) + 721 ≤ 100 * d0 + 1060; omega)⟩) (q_pV hA hW hS (ci := 12) rfl rO_0) rfl rfl hl.1 rfl (lv_room (Nat.le_of_ble_eq_true rfl)) dX14_act_164 ⟨Nat.le_of_ble_eq_true rfl, Nat.le_of_ble_eq_true rfl⟩) hS (fun f_164 n_164 H locs hp hW hS => ?_)
    obtain ⟨R_164, tk_164, nd_164, cc_164, ac_164, q_164, e7_164, e8_164, ec_164, ex_164, rfl, rfl⟩ := hp
    have G_164 : p_go K T (p_beg K u) (p_take K 29 (p_val K Wd pN pn 4 (p_beg K u))) := ((go_val0 hKT 4 _).trans (go_take hKT (by decide)))
    have GG_164 := G_164 ok_93
    have ok_164 := GG_164.1
    have le_164 := GG_164.2.2.2.1
    have er_164 := GG_164.2.2.2.2
    have Q_164 := Q_133.trans9 q_164 (by omega)
    have T_164 := Q_164.tok hTK
    have num_164 := Q_164.2.2
    unfold r_num at num_164
    have bt_164 := Q_164.1.1.2.1
    have bn_164 := Q_164.1.1.2.2.2.1
    have bc_164 := Q_164.1.1.2.2.2.2.2.1
    have ba_164 := Q_164.1.1.2.2.2.2.2.2.2
    have qn_164 := q_164.2.2
    unfold r_num at qn_164
    have h8_164 : (p_take K 29 (p_val K Wd pN pn 4 (p_beg K u))).2.1 ≠ 40 → R_164 108 0 = nI (4 - 4) := fun z => (e8_164 z).trans (h8_133 (le_164 z))
    rw [rO_rO] at hW
    have hW : q_W E (rO E f M R_164) n H := hW
    have eA : p_act K Wd pN pn rN rc (p_blk K Wd pN pn rN rc d0) u = p_take K 29 (p_val K Wd pN pn 4 (p_beg K u)) := by unfold p_act; rw [hw]; rfl
    have eS : p_actS K Wd pN pn rN rc RS (p_blk K Wd pN pn rN rc d0) (p_blkS K Wd pN pn rN rc RS d0) u = k_note (p_valD K Wd pN pn 4 (p_beg K u)) := by unfold p_actS; rw [hw]; rfl
    have EX : (p_act K Wd pN pn rN rc (p_blk K Wd pN pn rN rc d0) u).2.1 ≠ 40 → (p_act K Wd pN pn rN rc (p_blk K Wd pN pn rN rc d0) u).2.2.1 = 0 → ac < 80 ∧ ac + 1 ≤ ac_164 ∧ R_164 35 ac = -1 ∧ mA (bR R_164 25) pn nd_164 cc_164 ac_164 RS rc (d0 + 1) ac (p_actS K Wd pN pn rN rc RS (p_blk K Wd pN pn rN rc d0) (p_blkS K Wd pN pn rN rc RS d0) u) := by
      intro h1 h2
      rw [eA] at h1 h2
      have k1 := le_164 h1
      have hb9 := beg_ok (er_164 h2)
      have hac8 : ac < 80 := by have z := hnw.2.2.2.2.2; rw [z]; exact Nat.lt_of_le_of_lt (Nat.min_le_right _ _) hb9
      have h0 : ac < min 80 (ac + 1) := Nat.lt_min.mpr ⟨hac8, Nat.lt_succ_self _⟩
      have rr := ex_164.1 h0
      have mm := ex_164.2 h0 h1 h2
      have y35 := rr.1.trans (y35_133 trivial)
      have y28 := rr.2.trans (y28_133 trivial)
      refine ⟨hac8, by omega, y35, by omega, ?_⟩
      rw [eS]
      obtain ⟨x, m1, m2⟩ := mm
      exact Or.inr (Or.inr (Or.inr (Or.inr (Or.inr (Or.inr (Or.inl (⟨y28, x, _, m1, m2, rfl⟩)))))))
    refine lv_iload_n hx hb dX14_act_167 rfl (lv_at hl 1 rfl) ?_
    exact q_iret hx hb hr hlocks hW hS ⟨_, _, _, _, _, (by rw [eA]; exact Q_164), (e7_164.trans (show R_133 107 0 = r 107 0 from by rw [hR_133]; exact (show R_93 107 0 = r 107 0 from by rw [hR_93]; exact (e7_65.trans rfl)))), (fun h1 => by rw [eA] at h1; exact (fun z => (e8_164 z).trans (show R_133 108 0 = r 108 0 from by rw [hR_133]; exact (show R_93 108 0 = r 108 0 from by rw [hR_93]; exact (e8_65.trans rfl)))) h1), trivial, ⟨rfl, EX⟩, rfl, rfl⟩ (Nat.le_of_ble_eq_true rfl) (Nat.le_of_ble_eq_true rfl) dX14_act_168

set_option maxHeartbeats 4000000 in
set_option maxRecDepth 100000 in
theorem kX14_act_14 (l : Launch) (E : q_E) (f : q_H) (n : Nat) (M : Nat) (r : q_R) (K : Nat → Nat) (Wd : Nat → Int64) (T : Nat) (u : p_S) (tk nd cc ac : Nat) (pN : Nat → Int64) (pn : Nat) (rN : Nat → Int64) (rc : Nat) (RS : Nat → q_S) (d0 : Nat)  (hm : RM E f M r) (hTK : r_T r K Wd T) (hT : T ≤ 400) (hKT : 39 ≤ K T) (hK41 : ∀ j, K j < 41) (hP : r_P r K T u tk nd cc ac) (hok : p_ok K T u) (hnm : r_nm r K Wd T 6 pn pN) (hpn : pn ≤ 8) (hpn9 : r 130 0 = nI pn) (hnr : r_nm r K Wd T 7 rc rN) (hrc : rc ≤ 6) (hrc9 : r 109 0 = nI rc) (hv8 : r 108 0 = nI (4 - 4)) (ihB : RBLK l E RS d0) (hd6 : d0 + 1 ≤ 6) (hv7 : r 107 0 = nI (6 - d0)) (hw : u.2.1 = 14) : Met l yX14_act wsX14_act ({ frames := 4 * d0 + 42, cells := 0, slots := 0, locals := 100 * d0 + 1060 }) (q_P E [.ref M] f n) (q_Qi E (fun r0 f1 n1 => ∃ (r1 : q_R) (tk1 nd1 cc1 ac1 : Nat), r_Q r r1 K T ((p_act K Wd pN pn rN rc (p_blk K Wd pN pn rN rc d0) u)) tk nd cc ac tk1 nd1 cc1 ac1 ∧ r1 107 0 = r 107 0 ∧ (((p_act K Wd pN pn rN rc (p_blk K Wd pN pn rN rc d0) u)).2.1 ≠ 40 → r1 108 0 = r 108 0) ∧ (True) ∧ (nI ac = r0 ∧ ((p_act K Wd pN pn rN rc (p_blk K Wd pN pn rN rc d0) u).2.1 ≠ 40 → (p_act K Wd pN pn rN rc (p_blk K Wd pN pn rN rc d0) u).2.2.1 = 0 → ac < 80 ∧ ac + 1 ≤ ac1 ∧ r1 35 ac = -1 ∧ mA (bR r1 25) pn nd1 cc1 ac1 RS rc (d0 + 1) ac (p_actS K Wd pN pn rN rc RS (p_blk K Wd pN pn rN rc d0) (p_blkS K Wd pN pn rN rc RS d0) u))) ∧ rO E f M r1 = f1 ∧ n = n1)) 0 0 (q_ge E) := by
  refine Met.ofW (cc := cX14_act) (maxL := 3) (ret := (some .int)) (by decide) rfl ?_
  intro p e s m args below meth c s₁ B hml hv
  obtain ⟨rfl, hA, hW⟩ := hv
  have hx := B.exec
  have hb := B.bytes
  have hr := B.returns
  have hts := atoms_spec (ws := wsX14_act) B.pre
  have hown : s.vm.findClass RX14 = some m.cls := findClass_of_methodNamed B.named
  have hlocks := B.notSynchronized
  have hS : va_S (q_ge E) s.heap s.heap [] := va_S.rf
  have iX13 : ∀ w ∈ wsX130, w ∈ wsX14_act := by decide +kernel
  have iX14 : ∀ w ∈ wsX140, w ∈ wsX14_act := by decide +kernel
  have hl := lv_entry ([.ref M]) (n := 3) (Nat.le_of_ble_eq_true rfl)
  rw [lg_entry_eq]
  generalize (lg_sl ([.ref M]) ++ List.replicate (3 - (lg_sl ([.ref M])).length) Slot.unset).toArray = ls at hl ⊢
  have hl : lv_has ls 3 [(0, .ref M)] := hl
  have hmE := hm.eq
  rw [hm.eq] at hW
  have Q0 := r_Q.rf hP
  have htk := hP.1.2.1
  have hnd := hP.1.2.2.2.1
  have hcc := hP.1.2.2.2.2.2.1
  have hac := hP.1.2.2.2.2.2.2.2
  have hnw := hP.nw (show u.2.1 ≠ 40 by omega)
  have h39 : u.2.1 < 39 := by omega
  refine lv_bipush (v := 80) hx hb dX14_act_0 (by decide) ?_
  refine lv_aload_n hx hb dX14_act_2 rfl (lv_at hl 0 rfl) ?_
  refine q_get hx hb hts hown hA hW iX14 rO_0 rfl 18 (by decide) (hts (.fieldLink RX14 42 "HighRecipesModel" "fresh" "LHighRecipesModel$Book;") (by decide +kernel)) (fun _ h9 => h9) (v := .ref (M + 25)) rfl dX14_act_3 ?_
  refine q_getN hx hb hts hown hA hW iX13 rO_25 rfl 4 (by decide) (va_Nw.use rfl (hA.2.2.2.1 ("HighRecipesModel", 215, "HighRecipesModel$Book", "acts", "I", "HighRecipesModel") (by decide +kernel))) (fun _ h9 => h9) (v := .int (nI ac)) (congrArg (fun z => some (Value.int z)) hP.1.2.2.2.2.2.2.1) dX14_act_6 ?_
  refine va_mmin hx hb (hml.trans hl.1.symm) hown (hts (.methodLink RX14 57 Lib.Math.min.name) (by decide +kernel)) (hts (.static Lib.Math.min.name) (by decide +kernel)) (hts (.initialized "java/lang/Math") (by decide +kernel)) (hts (.code Lib.Math.min.name Lib.Math.min.code 2 (some .int)) (by decide +kernel)) (by show 1 ≤ 4 * d0 + 42; omega) (by show 13 ≤ 100 * d0 + 1060; omega) (Nat.le_of_ble_eq_true rfl) (Nat.le_of_ble_eq_true rfl) dX14_act_9 ?_
  rw [show (if nI ac < 80 then nI ac else 80) = nI ac from (q_min_n (a := 80) (b := ac) (by decide) (by omega)).trans (by rw [Nat.min_eq_right hac])]
  refine lv_istore_n (lv' := [(1, .int (nI ac)), (0, .ref M)]) hx hb dX14_act_12 rfl hl (by decide) rfl (fun ls hl => ?_)
  refine lv_aload_n hx hb dX14_act_13 rfl (lv_at hl 1 rfl) ?_
  refine q_get hx hb hts hown hA hW iX14 rO_0 rfl 4 (by decide) (hts (.fieldLink RX14 17 "HighRecipesModel" "kind" "[I") (by decide +kernel)) (fun _ h9 => h9) (v := .ref (M + 2)) rfl dX14_act_14 ?_
  refine lv_aload_n hx hb dX14_act_17 rfl (lv_at hl 1 rfl) ?_
  refine q_get hx hb hts hown hA hW iX14 rO_0 rfl 8 (by decide) (hts (.fieldLink RX14 120 "HighRecipesModel" "token" "I") (by decide +kernel)) (fun _ h9 => h9) (v := .int (nI tk)) (congrArg (fun z => some (Value.int z)) hP.1.1) dX14_act_18 ?_
  refine q_ald hx hb hA hW (rO_2 (g := r 2) rfl) tk rfl (by omega) (by decide) (x := 14) (by rw [hTK.1 tk htk, hnw.2.1, ← hnw.2.2.1, hw]; rfl) dX14_act_21 ?_
  refine lv_istore_n (lv' := [(2, .int 14), (1, .int (nI ac)), (0, .ref M)]) hx hb dX14_act_22 rfl hl (by decide) rfl (fun ls hl => ?_)
  refine lv_iload_n hx hb dX14_act_23 rfl (lv_at hl 0 rfl) ?_
  refine lv_iconst (v := 3) hx hb dX14_act_24 (by decide) ?_
  refine lv_icmp_eq (tgt := 57) hx hb dX14_act_25 (by decide) (fun c_25 => False.elim ((fun h9 => absurd h9 (by decide)) c_25)) (fun c_25 => ?_)
  refine lv_iload_n hx hb dX14_act_28 rfl (lv_at hl 0 rfl) ?_
  refine lv_bipush (v := 7) hx hb dX14_act_29 (by decide) ?_
  refine lv_icmp_eq (tgt := 57) hx hb dX14_act_31 (by decide) (fun c_31 => False.elim ((fun h9 => absurd h9 (by decide)) c_31)) (fun c_31 => ?_)
  refine lv_iload_n hx hb dX14_act_34 rfl (lv_at hl 0 rfl) ?_
  refine lv_bipush (v := 9) hx hb dX14_act_35 (by decide) ?_
  refine lv_icmp_eq (tgt := 57) hx hb dX14_act_37 (by decide) (fun c_37 => False.elim ((fun h9 => absurd h9 (by decide)) c_37)) (fun c_37 => ?_)
  refine lv_iload_n hx hb dX14_act_40 rfl (lv_at hl 0 rfl) ?_
  refine lv_bipush (v := 11) hx hb dX14_act_41 (by decide) ?_
  refine lv_bipush (v := 16) hx hb dX14_act_43 (by decide) ?_
  refine q_ci (va_runS (As := [.int 14, .int 11, .int 16]) (rest := []) ⟨hx, hb, hml, hown, hts⟩ (kX14_isIn l E (rO E f M r) n 14 11 16) (va_cwS 3 hts gX14_act_X14_isIn rfl rfl rfl (by decide +kernel) ⟨(by show 0 + 1 ≤ 4 * d0 + 42; omega), (by show 8 + (3 + 11) + 0 ≤ 100 * d0 + 1060; omega)⟩) (q_pS hA hW hS) rfl rfl hl.1 rfl (lv_room (Nat.le_of_ble_eq_true rfl)) dX14_act_45 ⟨Nat.le_of_ble_eq_true rfl, Nat.le_of_ble_eq_true rfl⟩) hS (fun r_45 f_45 n_45 H locs hp hW hS => ?_)
  obtain ⟨rfl, rfl, rfl⟩ := hp
  have hW : q_W E (rO E f M r) n H := hW
  refine lv_if_ne (tgt := 57) hx hb dX14_act_48 (by decide) (fun c_48 => ?_) (fun c_48 => False.elim ((fun h9 => absurd h9 (by decide)) c_48))
  refine lv_iload_n hx hb dX14_act_57 rfl (lv_at hl 1 rfl) ?_
  refine lv_bipush (v := 80) hx hb dX14_act_58 (by decide) ?_
  refine lv_icmp_ne (tgt := 68) hx hb dX14_act_60 (by decide) (fun c_60 => ?_) (fun c_60 => ?_)
  · have e80 : ¬ ac = 80 := fun h9 => c_60 (by rw [h9]; rfl)
    refine lv_aload_n hx hb dX14_act_68 rfl (lv_at hl 2 rfl) ?_
    refine q_get hx hb hts hown hA hW iX14 rO_0 rfl 18 (by decide) (hts (.fieldLink RX14 42 "HighRecipesModel" "fresh" "LHighRecipesModel$Book;") (by decide +kernel)) (fun _ h9 => h9) (v := .ref (M + 25)) rfl dX14_act_69 ?_
    refine lv_bipush (v := 80) hx hb dX14_act_72 (by decide) ?_
    refine lv_iload_n hx hb dX14_act_74 rfl (lv_at hl 1 rfl) ?_
    refine lv_iconst (v := 1) hx hb dX14_act_75 (by decide) ?_
    refine lv_iadd hx hb dX14_act_76 ?_
    rw [nI_1]
    refine va_mmin hx hb (hml.trans hl.1.symm) hown (hts (.methodLink RX14 57 Lib.Math.min.name) (by decide +kernel)) (hts (.static Lib.Math.min.name) (by decide +kernel)) (hts (.initialized "java/lang/Math") (by decide +kernel)) (hts (.code Lib.Math.min.name Lib.Math.min.code 2 (some .int)) (by decide +kernel)) (by show 1 ≤ 4 * d0 + 42; omega) (by show 14 ≤ 100 * d0 + 1060; omega) (Nat.le_of_ble_eq_true rfl) (Nat.le_of_ble_eq_true rfl) dX14_act_77 ?_
    rw [show (if nI (ac + 1) < 80 then nI (ac + 1) else 80) = nI (min 80 (ac + 1)) from q_min_n (a := 80) (b := ac + 1) (by decide) (by omega)]
    refine q_putN hx hb hts hown hA hW hS iX13 tyX13 tyX13_ok nmX13 rO_25 rfl 4 (by decide) (va_Nw.use rfl (hA.2.2.2.1 ("HighRecipesModel", 215, "HighRecipesModel$Book", "acts", "I", "HighRecipesModel") (by decide +kernel))) (fun _ h9 => h9) rfl rfl rfl (Nat.le_of_ble_eq_true rfl) dX14_act_80 (fun H locs hW hS => ?_)
    have hW := q_s25 132 (nI (min 80 (ac + 1))) hW rfl (by decide)
    refine lv_aload_n hx hb dX14_act_83 rfl (lv_at hl 2 rfl) ?_
    refine lv_dup hx hb dX14_act_84 rfl ?_
    refine q_get hx hb hts hown hA hW iX14 rO_0 rfl 8 (by decide) (hts (.fieldLink RX14 120 "HighRecipesModel" "token" "I") (by decide +kernel)) (fun _ h9 => h9) (v := .int (nI tk)) (congrArg (fun z => some (Value.int z)) hP.1.1) dX14_act_85 ?_
    refine lv_iconst (v := 1) hx hb dX14_act_88 (by decide) ?_
    refine lv_iadd hx hb dX14_act_89 ?_
    refine q_put hx hb hts hown hA hW hS iX14 tyX14 tyX14_ok nmX14 rO_0 rfl 8 (by decide) (hts (.fieldLink RX14 120 "HighRecipesModel" "token" "I") (by decide +kernel)) (fun _ h9 => h9) rfl rfl rfl (Nat.le_of_ble_eq_true rfl) dX14_act_90 (fun H locs hW hS => ?_)
    rw [show (nI tk) + 1 = nI (tk + 1) from nI_1 tk] at hW
    have hW := q_s0 103 (nI (tk + 1)) hW rfl (by decide)
    obtain ⟨R_93, hR_93⟩ : ∃ z, z = rp (rp r 132 (fun _ => nI (min 80 (ac + 1)))) 103 (fun _ => nI (tk + 1)) := ⟨_, rfl⟩
    rw [← hR_93] at hW
    have Q_93 : r_Q r R_93 K T (p_beg K u) tk nd cc ac (tk + 1) nd cc (min 80 (ac + 1)) := by rw [hR_93]; exact (r_Q.beg (by rw [decide_eq_false e80]; exact Q0) h39 hKT)
    have T_93 := Q_93.tok hTK
    have num_93 := Q_93.2.2
    unfold r_num at num_93
    have bt_93 := Q_93.1.1.2.1
    have bn_93 := Q_93.1.1.2.2.2.1
    have bc_93 := Q_93.1.1.2.2.2.2.2.1
    have ba_93 := Q_93.1.1.2.2.2.2.2.2.2
    have G_93 : p_go K T u (p_beg K u) := (go_beg hKT h39)
    have GG_93 := G_93 hok
    have ok_93 := GG_93.1
    have le_93 := GG_93.2.2.2.1
    have er_93 := GG_93.2.2.2.2
    have h8_93 : (p_beg K u).2.1 ≠ 40 → R_93 108 0 = nI (4 - 4) := fun z => by rw [hR_93]; exact (fun _ => hv8) (le_93 z)
    refine lv_aload_n hx hb dX14_act_93 rfl (lv_at hl 2 rfl) ?_
    refine q_get hx hb hts hown hA hW iX14 rO_0 rfl 18 (by decide) (hts (.fieldLink RX14 42 "HighRecipesModel" "fresh" "LHighRecipesModel$Book;") (by decide +kernel)) (fun _ h9 => h9) (v := .ref (M + 25)) rfl dX14_act_94 ?_
    refine q_getN hx hb hts hown hA hW iX13 rO_25 rfl 5 (by decide) (va_Nw.use rfl (hA.2.2.2.1 ("HighRecipesModel", 218, "HighRecipesModel$Book", "does", "[I", "HighRecipesModel") (by decide +kernel))) (fun _ h9 => h9) (v := .ref (M + 28)) rfl dX14_act_97 ?_
    refine lv_iload_n hx hb dX14_act_100 rfl (lv_at hl 1 rfl) ?_
    refine lv_iload_n hx hb dX14_act_101 rfl (lv_at hl 0 rfl) ?_
    refine q_ast hx hb hA hW hS (rO_28 (g := R_93 28) rfl) ac rfl (by omega) (by decide) dX14_act_102 (fun H locs hW hS => ?_)
    have hW := q_sa 28 hW rfl rfl
    refine lv_aload_n hx hb dX14_act_103 rfl (lv_at hl 2 rfl) ?_
    refine q_get hx hb hts hown hA hW iX14 rO_0 rfl 18 (by decide) (hts (.fieldLink RX14 42 "HighRecipesModel" "fresh" "LHighRecipesModel$Book;") (by decide +kernel)) (fun _ h9 => h9) (v := .ref (M + 25)) rfl dX14_act_104 ?_
    refine q_getN hx hb hts hown hA hW iX13 rO_25 rfl 12 (by decide) (va_Nw.use rfl (hA.2.2.2.1 ("HighRecipesModel", 212, "HighRecipesModel$Book", "next", "[I", "HighRecipesModel") (by decide +kernel))) (fun _ h9 => h9) (v := .ref (M + 35)) rfl dX14_act_107 ?_
    refine lv_iload_n hx hb dX14_act_110 rfl (lv_at hl 1 rfl) ?_
    refine lv_iconst (v := (-1)) hx hb dX14_act_111 (by decide) ?_
    refine q_ast hx hb hA hW hS (rO_35 (g := R_93 35) rfl) ac rfl (by omega) (by decide) dX14_act_112 (fun H locs hW hS => ?_)
    have hW := q_sa 35 hW rfl rfl
    refine lv_aload_n hx hb dX14_act_113 rfl (lv_at hl 2 rfl) ?_
    refine q_get hx hb hts hown hA hW iX14 rO_0 rfl 18 (by decide) (hts (.fieldLink RX14 42 "HighRecipesModel" "fresh" "LHighRecipesModel$Book;") (by decide +kernel)) (fun _ h9 => h9) (v := .ref (M + 25)) rfl dX14_act_114 ?_
    refine q_getN hx hb hts hown hA hW iX13 rO_25 rfl 10 (by decide) (va_Nw.use rfl (hA.2.2.2.1 ("HighRecipesModel", 221, "HighRecipesModel$Book", "block", "[I", "HighRecipesModel") (by decide +kernel))) (fun _ h9 => h9) (v := .ref (M + 33)) rfl dX14_act_117 ?_
    refine lv_iload_n hx hb dX14_act_120 rfl (lv_at hl 1 rfl) ?_
    refine lv_iconst (v := (-1)) hx hb dX14_act_121 (by decide) ?_
    refine q_ast hx hb hA hW hS (rO_33 (g := R_93 33) rfl) ac rfl (by omega) (by decide) dX14_act_122 (fun H locs hW hS => ?_)
    have hW := q_sa 33 hW rfl rfl
    refine lv_aload_n hx hb dX14_act_123 rfl (lv_at hl 2 rfl) ?_
    refine q_get hx hb hts hown hA hW iX14 rO_0 rfl 18 (by decide) (hts (.fieldLink RX14 42 "HighRecipesModel" "fresh" "LHighRecipesModel$Book;") (by decide +kernel)) (fun _ h9 => h9) (v := .ref (M + 25)) rfl dX14_act_124 ?_
    refine q_getN hx hb hts hown hA hW iX13 rO_25 rfl 11 (by decide) (va_Nw.use rfl (hA.2.2.2.1 ("HighRecipesModel", 224, "HighRecipesModel$Book", "other", "[I", "HighRecipesModel") (by decide +kernel))) (fun _ h9 => h9) (v := .ref (M + 34)) rfl dX14_act_127 ?_
    refine lv_iload_n hx hb dX14_act_130 rfl (lv_at hl 1 rfl) ?_
    refine lv_iconst (v := (-1)) hx hb dX14_act_131 (by decide) ?_
    refine q_ast hx hb hA hW hS (rO_34 (g := R_93 34) rfl) ac rfl (by omega) (by decide) dX14_act_132 (fun H locs hW hS => ?_)
    have hW := q_sa 34 hW rfl rfl
    obtain ⟨R_133, hR_133⟩ : ∃ z, z = rp (rp (rp (rp R_93 28 (upd (R_93 28) ac 14)) 35 (upd (R_93 35) ac (-1))) 33 (upd (R_93 33) ac (-1))) 34 (upd (R_93 34) ac (-1)) := ⟨_, rfl⟩
    rw [← hR_133] at hW
    have Q_133 : r_Q r R_133 K T (p_beg K u) tk nd cc ac (tk + 1) nd cc (min 80 (ac + 1)) := by rw [hR_133]; exact ((((Q_93.st (by decide) (by omega)).st (by decide) (by omega)).st (by decide) (by omega)).st (by decide) (by omega))
    have T_133 := Q_133.tok hTK
    have num_133 := Q_133.2.2
    unfold r_num at num_133
    have bt_133 := Q_133.1.1.2.1
    have bn_133 := Q_133.1.1.2.2.2.1
    have bc_133 := Q_133.1.1.2.2.2.2.2.1
    have ba_133 := Q_133.1.1.2.2.2.2.2.2.2
    have y28_133 : True → R_133 28 ac = 14 := fun _ => by rw [hR_133]; exact st_row (r := R_93) (j := 28) (q0 := ac) (x := 14)
    have y35_133 : True → R_133 35 ac = -1 := fun _ => by rw [hR_133]; exact st_row (r := R_93) (j := 35) (q0 := ac) (x := -1)
    have y33_133 : True → R_133 33 ac = -1 := fun _ => by rw [hR_133]; exact st_row (r := R_93) (j := 33) (q0 := ac) (x := -1)
    have y34_133 : True → R_133 34 ac = -1 := fun _ => by rw [hR_133]; exact st_row (r := R_93) (j := 34) (q0 := ac) (x := -1)
    have h8_133 : (p_beg K u).2.1 ≠ 40 → R_133 108 0 = nI (4 - 4) := fun z => by rw [hR_133]; exact h8_93 z
    refine lv_iload_n hx hb dX14_act_133 rfl (lv_at hl 0 rfl) ?_
    refine lv_bipush (v := 15) hx hb dX14_act_134 (by decide) ?_
    refine lv_icmp_ne (tgt := 147) hx hb dX14_act_136 (by decide) (fun c_136 => ?_) (fun c_136 => False.elim ((fun h9 => absurd h9 (by decide)) c_136))
    refine lv_iload_n hx hb dX14_act_147 rfl (lv_at hl 0 rfl) ?_
    refine lv_bipush (v := 16) hx hb dX14_act_148 (by decide) ?_
    refine lv_icmp_ne (tgt := 161) hx hb dX14_act_150 (by decide) (fun c_150 => ?_) (fun c_150 => False.elim ((fun h9 => absurd h9 (by decide)) c_150))
    refine lv_aload_n hx hb dX14_act_161 rfl (lv_at hl 2 rfl) ?_
    refine lv_iload_n hx hb dX14_act_162 rfl (lv_at hl 1 rfl) ?_
    refine lv_iload_n hx hb dX14_act_163 rfl (lv_at hl 0 rfl) ?_
    refine q_cv (va_runV (As := [.int (nI ac), .int 14]) (rest := []) ⟨hx, hb, hml, hown, hts⟩ (kX14_plain_14 l E (rO E f M R_133) n M R_133 K Wd T (p_beg K u) (tk + 1) nd cc (min 80 (ac + 1)) pN pn rN rc ac rO_K T_133 hT hKT hK41 Q_133.1 ok_93 (hnm.mv (Q_133.2.1.1 6 (by decide) (by decide) (by decide))) hpn (show R_133 130 0 = nI pn from by rw [hR_133]; exact (show R_93 130 0 = nI pn from by rw [hR_93]; exact hpn9)) (hnr.mv (Q_133.2.1.1 7 (by decide) (by decide) (by decide))) hrc (show R_133 109 0 = nI rc from by rw [hR_133]; exact (show R_93 109 0 = nI rc from by rw [hR_93]; exact hrc9)) (show R_133 108 0 = nI (4 - 4) from by rw [hR_133]; exact (show R_93 108 0 = nI (4 - 4) from by rw [hR_93]; exact hv8)) (by omega)) (cwV 2 hts gX14_act_X14_plain rfl rfl rfl (by decide +kernel) ⟨(by show 3 + 1 ≤ 4 * d0 + 42; omega), (by show 8 + (3 + 11) + 69 ≤ 100 * d0 + 1060; omega)⟩) (q_pV hA hW hS (ci := 12) rfl rO_0) rfl rfl hl.1 rfl (lv_room (Nat.le_of_ble_eq_true rfl)) dX14_act_164 ⟨Nat.le_of_ble_eq_true rfl, Nat.le_of_ble_eq_true rfl⟩) hS (fun f_164 n_164 H locs hp hW hS => ?_)
    obtain ⟨R_164, tk_164, nd_164, cc_164, ac_164, q_164, e7_164, e8_164, ec_164, ex_164, rfl, rfl⟩ := hp
    have G_164 : p_go K T (p_beg K u) (p_take K 29 (p_known K Wd rN rc (p_beg K u))) := ((go_known hKT).trans (go_take hKT (by decide)))
    have GG_164 := G_164 ok_93
    have ok_164 := GG_164.1
    have le_164 := GG_164.2.2.2.1
    have er_164 := GG_164.2.2.2.2
    have Q_164 := Q_133.trans9 q_164 (by omega)
    have T_164 := Q_164.tok hTK
    have num_164 := Q_164.2.2
    unfold r_num at num_164
    have bt_164 := Q_164.1.1.2.1
    have bn_164 := Q_164.1.1.2.2.2.1
    have bc_164 := Q_164.1.1.2.2.2.2.2.1
    have ba_164 := Q_164.1.1.2.2.2.2.2.2.2
    have qn_164 := q_164.2.2
    unfold r_num at qn_164
    have h8_164 : (p_take K 29 (p_known K Wd rN rc (p_beg K u))).2.1 ≠ 40 → R_164 108 0 = nI (4 - 4) := fun z => (e8_164 z).trans (h8_133 (le_164 z))
    rw [rO_rO] at hW
    have hW : q_W E (rO E f M R_164) n H := hW
    have eA : p_act K Wd pN pn rN rc (p_blk K Wd pN pn rN rc d0) u = p_take K 29 (p_known K Wd rN rc (p_beg K u)) := by unfold p_act; rw [hw]; rfl
    have eS : p_actS K Wd pN pn rN rc RS (p_blk K Wd pN pn rN rc d0) (p_blkS K Wd pN pn rN rc RS d0) u = RS (ix rN rc (Wd (p_beg K u).1)).toNatClampNeg := by unfold p_actS; rw [hw]; rfl
    have EX : (p_act K Wd pN pn rN rc (p_blk K Wd pN pn rN rc d0) u).2.1 ≠ 40 → (p_act K Wd pN pn rN rc (p_blk K Wd pN pn rN rc d0) u).2.2.1 = 0 → ac < 80 ∧ ac + 1 ≤ ac_164 ∧ R_164 35 ac = -1 ∧ mA (bR R_164 25) pn nd_164 cc_164 ac_164 RS rc (d0 + 1) ac (p_actS K Wd pN pn rN rc RS (p_blk K Wd pN pn rN rc d0) (p_blkS K Wd pN pn rN rc RS d0) u) := by
      intro h1 h2
      rw [eA] at h1 h2
      have k1 := le_164 h1
      have hb9 := beg_ok (er_164 h2)
      have hac8 : ac < 80 := by have z := hnw.2.2.2.2.2; rw [z]; exact Nat.lt_of_le_of_lt (Nat.min_le_right _ _) hb9
      have h0 : ac < min 80 (ac + 1) := Nat.lt_min.mpr ⟨hac8, Nat.lt_succ_self _⟩
      have rr := ex_164.1 h0
      have mm := ex_164.2 h0 h1 h2
      have y35 := rr.1.trans (y35_133 trivial)
      have y28 := rr.2.trans (y28_133 trivial)
      refine ⟨hac8, by omega, y35, by omega, ?_⟩
      rw [eS]
      obtain ⟨i, m1, m2, m3⟩ := mm
      exact Or.inr (Or.inr (Or.inr (Or.inr (Or.inr (Or.inr (Or.inr (Or.inl (⟨y28, i, m1, m3, by rw [m2, nI_clamp (by omega)]⟩))))))))
    refine lv_iload_n hx hb dX14_act_167 rfl (lv_at hl 1 rfl) ?_
    exact q_iret hx hb hr hlocks hW hS ⟨_, _, _, _, _, (by rw [eA]; exact Q_164), (e7_164.trans (show R_133 107 0 = r 107 0 from by rw [hR_133]; exact (show R_93 107 0 = r 107 0 from by rw [hR_93]; exact rfl))), (fun h1 => by rw [eA] at h1; exact (fun z => (e8_164 z).trans (show R_133 108 0 = r 108 0 from by rw [hR_133]; exact (show R_93 108 0 = r 108 0 from by rw [hR_93]; exact rfl))) h1), trivial, ⟨rfl, EX⟩, rfl, rfl⟩ (Nat.le_of_ble_eq_true rfl) (Nat.le_of_ble_eq_true rfl) dX14_act_168
  · have e80 : ac = 80 := (nI_eq (by omega) (by decide)).1 c_60
    refine lv_aload_n hx hb dX14_act_63 rfl (lv_at hl 2 rfl) ?_
    refine lv_iconst (v := 4) hx hb dX14_act_64 (by decide) ?_
    refine q_cv (va_runV (As := [.int 4]) (rest := []) ⟨hx, hb, hml, hown, hts⟩ (kX14_mark l E (rO E f M r) n M r K Wd T u tk nd cc ac 4 rO_K hTK hT hKT hK41 Q0.1 hok) (cwV 1 hts gX14_act_X14_mark rfl rfl rfl (by decide +kernel) ⟨(by show 0 + 1 ≤ 4 * d0 + 42; omega), (by show 8 + (2 + 11) + 0 ≤ 100 * d0 + 1060; omega)⟩) (q_pV hA hW hS (ci := 12) rfl rO_0) rfl rfl hl.1 rfl (lv_room (Nat.le_of_ble_eq_true rfl)) dX14_act_65 ⟨Nat.le_of_ble_eq_true rfl, Nat.le_of_ble_eq_true rfl⟩) hS (fun f_65 n_65 H locs hp hW hS => ?_)
    obtain ⟨R_65, tk_65, nd_65, cc_65, ac_65, q_65, e7_65, e8_65, ec_65, ex_65, rfl, rfl⟩ := hp
    have G_65 : p_go K T u (p_ci true 4 u) := (go_ci (by decide) (by decide))
    have GG_65 := G_65 hok
    have ok_65 := GG_65.1
    have le_65 := GG_65.2.2.2.1
    have er_65 := GG_65.2.2.2.2
    have Q_65 := Q0.trans q_65
    have T_65 := Q_65.tok hTK
    have num_65 := Q_65.2.2
    unfold r_num at num_65
    have bt_65 := Q_65.1.1.2.1
    have bn_65 := Q_65.1.1.2.2.2.1
    have bc_65 := Q_65.1.1.2.2.2.2.2.1
    have ba_65 := Q_65.1.1.2.2.2.2.2.2.2
    have qn_65 := q_65.2.2
    unfold r_num at qn_65
    have h8_65 : (p_ci true 4 u).2.1 ≠ 40 → R_65 108 0 = nI (4 - 4) := fun z => (e8_65).trans ((fun _ => hv8) (le_65 z))
    rw [rO_rO] at hW
    have hW : q_W E (rO E f M R_65) n H := hW
    have eac9 : ac_65 = ac := (ec_65.2.trans rfl)
    rw [eac9] at Q_65
    refine lv_aload_n hx hb dX14_act_68 rfl (lv_at hl 2 rfl) ?_
    refine q_get hx hb hts hown hA hW iX14 rO_0 rfl 18 (by decide) (hts (.fieldLink RX14 42 "HighRecipesModel" "fresh" "LHighRecipesModel$Book;") (by decide +kernel)) (fun _ h9 => h9) (v := .ref (M + 25)) rfl dX14_act_69 ?_
    refine lv_bipush (v := 80) hx hb dX14_act_72 (by decide) ?_
    refine lv_iload_n hx hb dX14_act_74 rfl (lv_at hl 1 rfl) ?_
    refine lv_iconst (v := 1) hx hb dX14_act_75 (by decide) ?_
    refine lv_iadd hx hb dX14_act_76 ?_
    rw [nI_1]
    refine va_mmin hx hb (hml.trans hl.1.symm) hown (hts (.methodLink RX14 57 Lib.Math.min.name) (by decide +kernel)) (hts (.static Lib.Math.min.name) (by decide +kernel)) (hts (.initialized "java/lang/Math") (by decide +kernel)) (hts (.code Lib.Math.min.name Lib.Math.min.code 2 (some .int)) (by decide +kernel)) (by show 1 ≤ 4 * d0 + 42; omega) (by show 14 ≤ 100 * d0 + 1060; omega) (Nat.le_of_ble_eq_true rfl) (Nat.le_of_ble_eq_true rfl) dX14_act_77 ?_
    rw [show (if nI (ac + 1) < 80 then nI (ac + 1) else 80) = nI (min 80 (ac + 1)) from q_min_n (a := 80) (b := ac + 1) (by decide) (by omega)]
    refine q_putN hx hb hts hown hA hW hS iX13 tyX13 tyX13_ok nmX13 rO_25 rfl 4 (by decide) (va_Nw.use rfl (hA.2.2.2.1 ("HighRecipesModel", 215, "HighRecipesModel$Book", "acts", "I", "HighRecipesModel") (by decide +kernel))) (fun _ h9 => h9) rfl rfl rfl (Nat.le_of_ble_eq_true rfl) dX14_act_80 (fun H locs hW hS => ?_)
    have hW := q_s25 132 (nI (min 80 (ac + 1))) hW rfl (by decide)
    refine lv_aload_n hx hb dX14_act_83 rfl (lv_at hl 2 rfl) ?_
    refine lv_dup hx hb dX14_act_84 rfl ?_
    refine q_get hx hb hts hown hA hW iX14 rO_0 rfl 8 (by decide) (hts (.fieldLink RX14 120 "HighRecipesModel" "token" "I") (by decide +kernel)) (fun _ h9 => h9) (v := .int (nI tk_65)) (congrArg (fun z => some (Value.int z)) Q_65.1.1.1) dX14_act_85 ?_
    refine lv_iconst (v := 1) hx hb dX14_act_88 (by decide) ?_
    refine lv_iadd hx hb dX14_act_89 ?_
    refine q_put hx hb hts hown hA hW hS iX14 tyX14 tyX14_ok nmX14 rO_0 rfl 8 (by decide) (hts (.fieldLink RX14 120 "HighRecipesModel" "token" "I") (by decide +kernel)) (fun _ h9 => h9) rfl rfl rfl (Nat.le_of_ble_eq_true rfl) dX14_act_90 (fun H locs hW hS => ?_)
    rw [show (nI tk_65) + 1 = nI (tk_65 + 1) from nI_1 tk_65] at hW
    have hW := q_s0 103 (nI (tk_65 + 1)) hW rfl (by decide)
    obtain ⟨R_93, hR_93⟩ : ∃ z, z = rp (rp R_65 132 (fun _ => nI (min 80 (ac + 1)))) 103 (fun _ => nI (tk_65 + 1)) := ⟨_, rfl⟩
    rw [← hR_93] at hW
    have Q_93 : r_Q r R_93 K T (p_beg K u) tk nd cc ac (tk_65 + 1) nd_65 cc_65 (min 80 (ac + 1)) := by rw [hR_93]; exact (r_Q.beg (by rw [decide_eq_true e80]; exact Q_65) h39 hKT)
    have T_93 := Q_93.tok hTK
    have num_93 := Q_93.2.2
    unfold r_num at num_93
    have bt_93 := Q_93.1.1.2.1
    have bn_93 := Q_93.1.1.2.2.2.1
    have bc_93 := Q_93.1.1.2.2.2.2.2.1
    have ba_93 := Q_93.1.1.2.2.2.2.2.2.2
    have G_93 : p_go K T u (p_beg K u) := (go_beg hKT h39)
    have GG_93 := G_93 hok
    have ok_93 := GG_93.1
    have le_93 := GG_93.2.2.2.1
    have er_93 := GG_93.2.2.2.2
    have h8_93 : (p_beg K u).2.1 ≠ 40 → R_93 108 0 = nI (4 - 4) := fun z => by rw [hR_93]; exact h8_65 (le_93 z)
    refine lv_aload_n hx hb dX14_act_93 rfl (lv_at hl 2 rfl) ?_
    refine q_get hx hb hts hown hA hW iX14 rO_0 rfl 18 (by decide) (hts (.fieldLink RX14 42 "HighRecipesModel" "fresh" "LHighRecipesModel$Book;") (by decide +kernel)) (fun _ h9 => h9) (v := .ref (M + 25)) rfl dX14_act_94 ?_
    refine q_getN hx hb hts hown hA hW iX13 rO_25 rfl 5 (by decide) (va_Nw.use rfl (hA.2.2.2.1 ("HighRecipesModel", 218, "HighRecipesModel$Book", "does", "[I", "HighRecipesModel") (by decide +kernel))) (fun _ h9 => h9) (v := .ref (M + 28)) rfl dX14_act_97 ?_
    refine lv_iload_n hx hb dX14_act_100 rfl (lv_at hl 1 rfl) ?_
    refine lv_iload_n hx hb dX14_act_101 rfl (lv_at hl 0 rfl) ?_
    refine q_ast hx hb hA hW hS (rO_28 (g := R_93 28) rfl) ac rfl (by omega) (by decide) dX14_act_102 (fun H locs hW hS => ?_)
    have hW := q_sa 28 hW rfl rfl
    refine lv_aload_n hx hb dX14_act_103 rfl (lv_at hl 2 rfl) ?_
    refine q_get hx hb hts hown hA hW iX14 rO_0 rfl 18 (by decide) (hts (.fieldLink RX14 42 "HighRecipesModel" "fresh" "LHighRecipesModel$Book;") (by decide +kernel)) (fun _ h9 => h9) (v := .ref (M + 25)) rfl dX14_act_104 ?_
    refine q_getN hx hb hts hown hA hW iX13 rO_25 rfl 12 (by decide) (va_Nw.use rfl (hA.2.2.2.1 ("HighRecipesModel", 212, "HighRecipesModel$Book", "next", "[I", "HighRecipesModel") (by decide +kernel))) (fun _ h9 => h9) (v := .ref (M + 35)) rfl dX14_act_107 ?_
    refine lv_iload_n hx hb dX14_act_110 rfl (lv_at hl 1 rfl) ?_
    refine lv_iconst (v := (-1)) hx hb dX14_act_111 (by decide) ?_
    refine q_ast hx hb hA hW hS (rO_35 (g := R_93 35) rfl) ac rfl (by omega) (by decide) dX14_act_112 (fun H locs hW hS => ?_)
    have hW := q_sa 35 hW rfl rfl
    refine lv_aload_n hx hb dX14_act_113 rfl (lv_at hl 2 rfl) ?_
    refine q_get hx hb hts hown hA hW iX14 rO_0 rfl 18 (by decide) (hts (.fieldLink RX14 42 "HighRecipesModel" "fresh" "LHighRecipesModel$Book;") (by decide +kernel)) (fun _ h9 => h9) (v := .ref (M + 25)) rfl dX14_act_114 ?_
    refine q_getN hx hb hts hown hA hW iX13 rO_25 rfl 10 (by decide) (va_Nw.use rfl (hA.2.2.2.1 ("HighRecipesModel", 221, "HighRecipesModel$Book", "block", "[I", "HighRecipesModel") (by decide +kernel))) (fun _ h9 => h9) (v := .ref (M + 33)) rfl dX14_act_117 ?_
    refine lv_iload_n hx hb dX14_act_120 rfl (lv_at hl 1 rfl) ?_
    refine lv_iconst (v := (-1)) hx hb dX14_act_121 (by decide) ?_
    refine q_ast hx hb hA hW hS (rO_33 (g := R_93 33) rfl) ac rfl (by omega) (by decide) dX14_act_122 (fun H locs hW hS => ?_)
    have hW := q_sa 33 hW rfl rfl
    refine lv_aload_n hx hb dX14_act_123 rfl (lv_at hl 2 rfl) ?_
    refine q_get hx hb hts hown hA hW iX14 rO_0 rfl 18 (by decide) (hts (.fieldLink RX14 42 "HighRecipesModel" "fresh" "LHighRecipesModel$Book;") (by decide +kernel)) (fun _ h9 => h9) (v := .ref (M + 25)) rfl dX14_act_124 ?_
    refine q_getN hx hb hts hown hA hW iX13 rO_25 rfl 11 (by decide) (va_Nw.use rfl (hA.2.2.2.1 ("HighRecipesModel", 224, "HighRecipesModel$Book", "other", "[I", "HighRecipesModel") (by decide +kernel))) (fun _ h9 => h9) (v := .ref (M + 34)) rfl dX14_act_127 ?_
    refine lv_iload_n hx hb dX14_act_130 rfl (lv_at hl 1 rfl) ?_
    refine lv_iconst (v := (-1)) hx hb dX14_act_131 (by decide) ?_
    refine q_ast hx hb hA hW hS (rO_34 (g := R_93 34) rfl) ac rfl (by omega) (by decide) dX14_act_132 (fun H locs hW hS => ?_)
    have hW := q_sa 34 hW rfl rfl
    obtain ⟨R_133, hR_133⟩ : ∃ z, z = rp (rp (rp (rp R_93 28 (upd (R_93 28) ac 14)) 35 (upd (R_93 35) ac (-1))) 33 (upd (R_93 33) ac (-1))) 34 (upd (R_93 34) ac (-1)) := ⟨_, rfl⟩
    rw [← hR_133] at hW
    have Q_133 : r_Q r R_133 K T (p_beg K u) tk nd cc ac (tk_65 + 1) nd_65 cc_65 (min 80 (ac + 1)) := by rw [hR_133]; exact ((((Q_93.st (by decide) (by omega)).st (by decide) (by omega)).st (by decide) (by omega)).st (by decide) (by omega))
    have T_133 := Q_133.tok hTK
    have num_133 := Q_133.2.2
    unfold r_num at num_133
    have bt_133 := Q_133.1.1.2.1
    have bn_133 := Q_133.1.1.2.2.2.1
    have bc_133 := Q_133.1.1.2.2.2.2.2.1
    have ba_133 := Q_133.1.1.2.2.2.2.2.2.2
    have y28_133 : True → R_133 28 ac = 14 := fun _ => by rw [hR_133]; exact st_row (r := R_93) (j := 28) (q0 := ac) (x := 14)
    have y35_133 : True → R_133 35 ac = -1 := fun _ => by rw [hR_133]; exact st_row (r := R_93) (j := 35) (q0 := ac) (x := -1)
    have y33_133 : True → R_133 33 ac = -1 := fun _ => by rw [hR_133]; exact st_row (r := R_93) (j := 33) (q0 := ac) (x := -1)
    have y34_133 : True → R_133 34 ac = -1 := fun _ => by rw [hR_133]; exact st_row (r := R_93) (j := 34) (q0 := ac) (x := -1)
    have h8_133 : (p_beg K u).2.1 ≠ 40 → R_133 108 0 = nI (4 - 4) := fun z => by rw [hR_133]; exact h8_93 z
    refine lv_iload_n hx hb dX14_act_133 rfl (lv_at hl 0 rfl) ?_
    refine lv_bipush (v := 15) hx hb dX14_act_134 (by decide) ?_
    refine lv_icmp_ne (tgt := 147) hx hb dX14_act_136 (by decide) (fun c_136 => ?_) (fun c_136 => False.elim ((fun h9 => absurd h9 (by decide)) c_136))
    refine lv_iload_n hx hb dX14_act_147 rfl (lv_at hl 0 rfl) ?_
    refine lv_bipush (v := 16) hx hb dX14_act_148 (by decide) ?_
    refine lv_icmp_ne (tgt := 161) hx hb dX14_act_150 (by decide) (fun c_150 => ?_) (fun c_150 => False.elim ((fun h9 => absurd h9 (by decide)) c_150))
    refine lv_aload_n hx hb dX14_act_161 rfl (lv_at hl 2 rfl) ?_
    refine lv_iload_n hx hb dX14_act_162 rfl (lv_at hl 1 rfl) ?_
    refine lv_iload_n hx hb dX14_act_163 rfl (lv_at hl 0 rfl) ?_
    refine q_cv (va_runV (As := [.int (nI ac), .int 14]) (rest := []) ⟨hx, hb, hml, hown, hts⟩ (kX14_plain_14 l E (rO E f M R_133) n M R_133 K Wd T (p_beg K u) (tk_65 + 1) nd_65 cc_65 (min 80 (ac + 1)) pN pn rN rc ac rO_K T_133 hT hKT hK41 Q_133.1 ok_93 (hnm.mv (Q_133.2.1.1 6 (by decide) (by decide) (by decide))) hpn (show R_133 130 0 = nI pn from by rw [hR_133]; exact (show R_93 130 0 = nI pn from by rw [hR_93]; exact ((congrFun (q_65.2.1.1 130 (by decide) (by decide) (by decide)) 0).trans hpn9))) (hnr.mv (Q_133.2.1.1 7 (by decide) (by decide) (by decide))) hrc (show R_133 109 0 = nI rc from by rw [hR_133]; exact (show R_93 109 0 = nI rc from by rw [hR_93]; exact ((congrFun (q_65.2.1.1 109 (by decide) (by decide) (by decide)) 0).trans hrc9))) (show R_133 108 0 = nI (4 - 4) from by rw [hR_133]; exact (show R_93 108 0 = nI (4 - 4) from by rw [hR_93]; exact (e8_65.trans hv8))) (by omega)) (cwV 2 hts gX14_act_X14_plain rfl rfl rfl (by decide +kernel) ⟨(by show 3 + 1 ≤ 4 * d0 + 42; omega), (by show 8 + (3 + 11) + 69 ≤ 100 * d0 + 1060; omega)⟩) (q_pV hA hW hS (ci := 12) rfl rO_0) rfl rfl hl.1 rfl (lv_room (Nat.le_of_ble_eq_true rfl)) dX14_act_164 ⟨Nat.le_of_ble_eq_true rfl, Nat.le_of_ble_eq_true rfl⟩) hS (fun f_164 n_164 H locs hp hW hS => ?_)
    obtain ⟨R_164, tk_164, nd_164, cc_164, ac_164, q_164, e7_164, e8_164, ec_164, ex_164, rfl, rfl⟩ := hp
    have G_164 : p_go K T (p_beg K u) (p_take K 29 (p_known K Wd rN rc (p_beg K u))) := ((go_known hKT).trans (go_take hKT (by decide)))
    have GG_164 := G_164 ok_93
    have ok_164 := GG_164.1
    have le_164 := GG_164.2.2.2.1
    have er_164 := GG_164.2.2.2.2
    have Q_164 := Q_133.trans9 q_164 (by omega)
    have T_164 := Q_164.tok hTK
    have num_164 := Q_164.2.2
    unfold r_num at num_164
    have bt_164 := Q_164.1.1.2.1
    have bn_164 := Q_164.1.1.2.2.2.1
    have bc_164 := Q_164.1.1.2.2.2.2.2.1
    have ba_164 := Q_164.1.1.2.2.2.2.2.2.2
    have qn_164 := q_164.2.2
    unfold r_num at qn_164
    have h8_164 : (p_take K 29 (p_known K Wd rN rc (p_beg K u))).2.1 ≠ 40 → R_164 108 0 = nI (4 - 4) := fun z => (e8_164 z).trans (h8_133 (le_164 z))
    rw [rO_rO] at hW
    have hW : q_W E (rO E f M R_164) n H := hW
    have eA : p_act K Wd pN pn rN rc (p_blk K Wd pN pn rN rc d0) u = p_take K 29 (p_known K Wd rN rc (p_beg K u)) := by unfold p_act; rw [hw]; rfl
    have eS : p_actS K Wd pN pn rN rc RS (p_blk K Wd pN pn rN rc d0) (p_blkS K Wd pN pn rN rc RS d0) u = RS (ix rN rc (Wd (p_beg K u).1)).toNatClampNeg := by unfold p_actS; rw [hw]; rfl
    have EX : (p_act K Wd pN pn rN rc (p_blk K Wd pN pn rN rc d0) u).2.1 ≠ 40 → (p_act K Wd pN pn rN rc (p_blk K Wd pN pn rN rc d0) u).2.2.1 = 0 → ac < 80 ∧ ac + 1 ≤ ac_164 ∧ R_164 35 ac = -1 ∧ mA (bR R_164 25) pn nd_164 cc_164 ac_164 RS rc (d0 + 1) ac (p_actS K Wd pN pn rN rc RS (p_blk K Wd pN pn rN rc d0) (p_blkS K Wd pN pn rN rc RS d0) u) := by
      intro h1 h2
      rw [eA] at h1 h2
      have k1 := le_164 h1
      have hb9 := beg_ok (er_164 h2)
      have hac8 : ac < 80 := by have z := hnw.2.2.2.2.2; rw [z]; exact Nat.lt_of_le_of_lt (Nat.min_le_right _ _) hb9
      have h0 : ac < min 80 (ac + 1) := Nat.lt_min.mpr ⟨hac8, Nat.lt_succ_self _⟩
      have rr := ex_164.1 h0
      have mm := ex_164.2 h0 h1 h2
      have y35 := rr.1.trans (y35_133 trivial)
      have y28 := rr.2.trans (y28_133 trivial)
      refine ⟨hac8, by omega, y35, by omega, ?_⟩
      rw [eS]
      obtain ⟨i, m1, m2, m3⟩ := mm
      exact Or.inr (Or.inr (Or.inr (Or.inr (Or.inr (Or.inr (Or.inr (Or.inl (⟨y28, i, m1, m3, by rw [m2, nI_clamp (by omega)]⟩))))))))
    refine lv_iload_n hx hb dX14_act_167 rfl (lv_at hl 1 rfl) ?_
    exact q_iret hx hb hr hlocks hW hS ⟨_, _, _, _, _, (by rw [eA]; exact Q_164), (e7_164.trans (show R_133 107 0 = r 107 0 from by rw [hR_133]; exact (show R_93 107 0 = r 107 0 from by rw [hR_93]; exact (e7_65.trans rfl)))), (fun h1 => by rw [eA] at h1; exact (fun z => (e8_164 z).trans (show R_133 108 0 = r 108 0 from by rw [hR_133]; exact (show R_93 108 0 = r 108 0 from by rw [hR_93]; exact (e8_65.trans rfl)))) h1), trivial, ⟨rfl, EX⟩, rfl, rfl⟩ (Nat.le_of_ble_eq_true rfl) (Nat.le_of_ble_eq_true rfl) dX14_act_168

set_option maxHeartbeats 4000000 in
set_option maxRecDepth 100000 in
theorem kX14_act_15 (l : Launch) (E : q_E) (f : q_H) (n : Nat) (M : Nat) (r : q_R) (K : Nat → Nat) (Wd : Nat → Int64) (T : Nat) (u : p_S) (tk nd cc ac : Nat) (pN : Nat → Int64) (pn : Nat) (rN : Nat → Int64) (rc : Nat) (RS : Nat → q_S) (d0 : Nat)  (hm : RM E f M r) (hTK : r_T r K Wd T) (hT : T ≤ 400) (hKT : 39 ≤ K T) (hK41 : ∀ j, K j < 41) (hP : r_P r K T u tk nd cc ac) (hok : p_ok K T u) (hnm : r_nm r K Wd T 6 pn pN) (hpn : pn ≤ 8) (hpn9 : r 130 0 = nI pn) (hnr : r_nm r K Wd T 7 rc rN) (hrc : rc ≤ 6) (hrc9 : r 109 0 = nI rc) (hv8 : r 108 0 = nI (4 - 4)) (ihB : RBLK l E RS d0) (hd6 : d0 + 1 ≤ 6) (hv7 : r 107 0 = nI (6 - d0)) (hw : u.2.1 = 15) : Met l yX14_act wsX14_act ({ frames := 4 * d0 + 42, cells := 0, slots := 0, locals := 100 * d0 + 1060 }) (q_P E [.ref M] f n) (q_Qi E (fun r0 f1 n1 => ∃ (r1 : q_R) (tk1 nd1 cc1 ac1 : Nat), r_Q r r1 K T ((p_act K Wd pN pn rN rc (p_blk K Wd pN pn rN rc d0) u)) tk nd cc ac tk1 nd1 cc1 ac1 ∧ r1 107 0 = r 107 0 ∧ (((p_act K Wd pN pn rN rc (p_blk K Wd pN pn rN rc d0) u)).2.1 ≠ 40 → r1 108 0 = r 108 0) ∧ (True) ∧ (nI ac = r0 ∧ ((p_act K Wd pN pn rN rc (p_blk K Wd pN pn rN rc d0) u).2.1 ≠ 40 → (p_act K Wd pN pn rN rc (p_blk K Wd pN pn rN rc d0) u).2.2.1 = 0 → ac < 80 ∧ ac + 1 ≤ ac1 ∧ r1 35 ac = -1 ∧ mA (bR r1 25) pn nd1 cc1 ac1 RS rc (d0 + 1) ac (p_actS K Wd pN pn rN rc RS (p_blk K Wd pN pn rN rc d0) (p_blkS K Wd pN pn rN rc RS d0) u))) ∧ rO E f M r1 = f1 ∧ n = n1)) 0 0 (q_ge E) := by
  refine Met.ofW (cc := cX14_act) (maxL := 3) (ret := (some .int)) (by decide) rfl ?_
  intro p e s m args below meth c s₁ B hml hv
  obtain ⟨rfl, hA, hW⟩ := hv
  have hx := B.exec
  have hb := B.bytes
  have hr := B.returns
  have hts := atoms_spec (ws := wsX14_act) B.pre
  have hown : s.vm.findClass RX14 = some m.cls := findClass_of_methodNamed B.named
  have hlocks := B.notSynchronized
  have hS : va_S (q_ge E) s.heap s.heap [] := va_S.rf
  have iX13 : ∀ w ∈ wsX130, w ∈ wsX14_act := by decide +kernel
  have iX14 : ∀ w ∈ wsX140, w ∈ wsX14_act := by decide +kernel
  have hl := lv_entry ([.ref M]) (n := 3) (Nat.le_of_ble_eq_true rfl)
  rw [lg_entry_eq]
  generalize (lg_sl ([.ref M]) ++ List.replicate (3 - (lg_sl ([.ref M])).length) Slot.unset).toArray = ls at hl ⊢
  have hl : lv_has ls 3 [(0, .ref M)] := hl
  have hmE := hm.eq
  rw [hm.eq] at hW
  have Q0 := r_Q.rf hP
  have htk := hP.1.2.1
  have hnd := hP.1.2.2.2.1
  have hcc := hP.1.2.2.2.2.2.1
  have hac := hP.1.2.2.2.2.2.2.2
  have hnw := hP.nw (show u.2.1 ≠ 40 by omega)
  have h39 : u.2.1 < 39 := by omega
  refine lv_bipush (v := 80) hx hb dX14_act_0 (by decide) ?_
  refine lv_aload_n hx hb dX14_act_2 rfl (lv_at hl 0 rfl) ?_
  refine q_get hx hb hts hown hA hW iX14 rO_0 rfl 18 (by decide) (hts (.fieldLink RX14 42 "HighRecipesModel" "fresh" "LHighRecipesModel$Book;") (by decide +kernel)) (fun _ h9 => h9) (v := .ref (M + 25)) rfl dX14_act_3 ?_
  refine q_getN hx hb hts hown hA hW iX13 rO_25 rfl 4 (by decide) (va_Nw.use rfl (hA.2.2.2.1 ("HighRecipesModel", 215, "HighRecipesModel$Book", "acts", "I", "HighRecipesModel") (by decide +kernel))) (fun _ h9 => h9) (v := .int (nI ac)) (congrArg (fun z => some (Value.int z)) hP.1.2.2.2.2.2.2.1) dX14_act_6 ?_
  refine va_mmin hx hb (hml.trans hl.1.symm) hown (hts (.methodLink RX14 57 Lib.Math.min.name) (by decide +kernel)) (hts (.static Lib.Math.min.name) (by decide +kernel)) (hts (.initialized "java/lang/Math") (by decide +kernel)) (hts (.code Lib.Math.min.name Lib.Math.min.code 2 (some .int)) (by decide +kernel)) (by show 1 ≤ 4 * d0 + 42; omega) (by show 13 ≤ 100 * d0 + 1060; omega) (Nat.le_of_ble_eq_true rfl) (Nat.le_of_ble_eq_true rfl) dX14_act_9 ?_
  rw [show (if nI ac < 80 then nI ac else 80) = nI ac from (q_min_n (a := 80) (b := ac) (by decide) (by omega)).trans (by rw [Nat.min_eq_right hac])]
  refine lv_istore_n (lv' := [(1, .int (nI ac)), (0, .ref M)]) hx hb dX14_act_12 rfl hl (by decide) rfl (fun ls hl => ?_)
  refine lv_aload_n hx hb dX14_act_13 rfl (lv_at hl 1 rfl) ?_
  refine q_get hx hb hts hown hA hW iX14 rO_0 rfl 4 (by decide) (hts (.fieldLink RX14 17 "HighRecipesModel" "kind" "[I") (by decide +kernel)) (fun _ h9 => h9) (v := .ref (M + 2)) rfl dX14_act_14 ?_
  refine lv_aload_n hx hb dX14_act_17 rfl (lv_at hl 1 rfl) ?_
  refine q_get hx hb hts hown hA hW iX14 rO_0 rfl 8 (by decide) (hts (.fieldLink RX14 120 "HighRecipesModel" "token" "I") (by decide +kernel)) (fun _ h9 => h9) (v := .int (nI tk)) (congrArg (fun z => some (Value.int z)) hP.1.1) dX14_act_18 ?_
  refine q_ald hx hb hA hW (rO_2 (g := r 2) rfl) tk rfl (by omega) (by decide) (x := 15) (by rw [hTK.1 tk htk, hnw.2.1, ← hnw.2.2.1, hw]; rfl) dX14_act_21 ?_
  refine lv_istore_n (lv' := [(2, .int 15), (1, .int (nI ac)), (0, .ref M)]) hx hb dX14_act_22 rfl hl (by decide) rfl (fun ls hl => ?_)
  refine lv_iload_n hx hb dX14_act_23 rfl (lv_at hl 0 rfl) ?_
  refine lv_iconst (v := 3) hx hb dX14_act_24 (by decide) ?_
  refine lv_icmp_eq (tgt := 57) hx hb dX14_act_25 (by decide) (fun c_25 => False.elim ((fun h9 => absurd h9 (by decide)) c_25)) (fun c_25 => ?_)
  refine lv_iload_n hx hb dX14_act_28 rfl (lv_at hl 0 rfl) ?_
  refine lv_bipush (v := 7) hx hb dX14_act_29 (by decide) ?_
  refine lv_icmp_eq (tgt := 57) hx hb dX14_act_31 (by decide) (fun c_31 => False.elim ((fun h9 => absurd h9 (by decide)) c_31)) (fun c_31 => ?_)
  refine lv_iload_n hx hb dX14_act_34 rfl (lv_at hl 0 rfl) ?_
  refine lv_bipush (v := 9) hx hb dX14_act_35 (by decide) ?_
  refine lv_icmp_eq (tgt := 57) hx hb dX14_act_37 (by decide) (fun c_37 => False.elim ((fun h9 => absurd h9 (by decide)) c_37)) (fun c_37 => ?_)
  refine lv_iload_n hx hb dX14_act_40 rfl (lv_at hl 0 rfl) ?_
  refine lv_bipush (v := 11) hx hb dX14_act_41 (by decide) ?_
  refine lv_bipush (v := 16) hx hb dX14_act_43 (by decide) ?_
  refine q_ci (va_runS (As := [.int 15, .int 11, .int 16]) (rest := []) ⟨hx, hb, hml, hown, hts⟩ (kX14_isIn l E (rO E f M r) n 15 11 16) (va_cwS 3 hts gX14_act_X14_isIn rfl rfl rfl (by decide +kernel) ⟨(by show 0 + 1 ≤ 4 * d0 + 42; omega), (by show 8 + (3 + 11) + 0 ≤ 100 * d0 + 1060; omega)⟩) (q_pS hA hW hS) rfl rfl hl.1 rfl (lv_room (Nat.le_of_ble_eq_true rfl)) dX14_act_45 ⟨Nat.le_of_ble_eq_true rfl, Nat.le_of_ble_eq_true rfl⟩) hS (fun r_45 f_45 n_45 H locs hp hW hS => ?_)
  obtain ⟨rfl, rfl, rfl⟩ := hp
  have hW : q_W E (rO E f M r) n H := hW
  refine lv_if_ne (tgt := 57) hx hb dX14_act_48 (by decide) (fun c_48 => ?_) (fun c_48 => False.elim ((fun h9 => absurd h9 (by decide)) c_48))
  refine lv_iload_n hx hb dX14_act_57 rfl (lv_at hl 1 rfl) ?_
  refine lv_bipush (v := 80) hx hb dX14_act_58 (by decide) ?_
  refine lv_icmp_ne (tgt := 68) hx hb dX14_act_60 (by decide) (fun c_60 => ?_) (fun c_60 => ?_)
  · have e80 : ¬ ac = 80 := fun h9 => c_60 (by rw [h9]; rfl)
    refine lv_aload_n hx hb dX14_act_68 rfl (lv_at hl 2 rfl) ?_
    refine q_get hx hb hts hown hA hW iX14 rO_0 rfl 18 (by decide) (hts (.fieldLink RX14 42 "HighRecipesModel" "fresh" "LHighRecipesModel$Book;") (by decide +kernel)) (fun _ h9 => h9) (v := .ref (M + 25)) rfl dX14_act_69 ?_
    refine lv_bipush (v := 80) hx hb dX14_act_72 (by decide) ?_
    refine lv_iload_n hx hb dX14_act_74 rfl (lv_at hl 1 rfl) ?_
    refine lv_iconst (v := 1) hx hb dX14_act_75 (by decide) ?_
    refine lv_iadd hx hb dX14_act_76 ?_
    rw [nI_1]
    refine va_mmin hx hb (hml.trans hl.1.symm) hown (hts (.methodLink RX14 57 Lib.Math.min.name) (by decide +kernel)) (hts (.static Lib.Math.min.name) (by decide +kernel)) (hts (.initialized "java/lang/Math") (by decide +kernel)) (hts (.code Lib.Math.min.name Lib.Math.min.code 2 (some .int)) (by decide +kernel)) (by show 1 ≤ 4 * d0 + 42; omega) (by show 14 ≤ 100 * d0 + 1060; omega) (Nat.le_of_ble_eq_true rfl) (Nat.le_of_ble_eq_true rfl) dX14_act_77 ?_
    rw [show (if nI (ac + 1) < 80 then nI (ac + 1) else 80) = nI (min 80 (ac + 1)) from q_min_n (a := 80) (b := ac + 1) (by decide) (by omega)]
    refine q_putN hx hb hts hown hA hW hS iX13 tyX13 tyX13_ok nmX13 rO_25 rfl 4 (by decide) (va_Nw.use rfl (hA.2.2.2.1 ("HighRecipesModel", 215, "HighRecipesModel$Book", "acts", "I", "HighRecipesModel") (by decide +kernel))) (fun _ h9 => h9) rfl rfl rfl (Nat.le_of_ble_eq_true rfl) dX14_act_80 (fun H locs hW hS => ?_)
    have hW := q_s25 132 (nI (min 80 (ac + 1))) hW rfl (by decide)
    refine lv_aload_n hx hb dX14_act_83 rfl (lv_at hl 2 rfl) ?_
    refine lv_dup hx hb dX14_act_84 rfl ?_
    refine q_get hx hb hts hown hA hW iX14 rO_0 rfl 8 (by decide) (hts (.fieldLink RX14 120 "HighRecipesModel" "token" "I") (by decide +kernel)) (fun _ h9 => h9) (v := .int (nI tk)) (congrArg (fun z => some (Value.int z)) hP.1.1) dX14_act_85 ?_
    refine lv_iconst (v := 1) hx hb dX14_act_88 (by decide) ?_
    refine lv_iadd hx hb dX14_act_89 ?_
    refine q_put hx hb hts hown hA hW hS iX14 tyX14 tyX14_ok nmX14 rO_0 rfl 8 (by decide) (hts (.fieldLink RX14 120 "HighRecipesModel" "token" "I") (by decide +kernel)) (fun _ h9 => h9) rfl rfl rfl (Nat.le_of_ble_eq_true rfl) dX14_act_90 (fun H locs hW hS => ?_)
    rw [show (nI tk) + 1 = nI (tk + 1) from nI_1 tk] at hW
    have hW := q_s0 103 (nI (tk + 1)) hW rfl (by decide)
    obtain ⟨R_93, hR_93⟩ : ∃ z, z = rp (rp r 132 (fun _ => nI (min 80 (ac + 1)))) 103 (fun _ => nI (tk + 1)) := ⟨_, rfl⟩
    rw [← hR_93] at hW
    have Q_93 : r_Q r R_93 K T (p_beg K u) tk nd cc ac (tk + 1) nd cc (min 80 (ac + 1)) := by rw [hR_93]; exact (r_Q.beg (by rw [decide_eq_false e80]; exact Q0) h39 hKT)
    have T_93 := Q_93.tok hTK
    have num_93 := Q_93.2.2
    unfold r_num at num_93
    have bt_93 := Q_93.1.1.2.1
    have bn_93 := Q_93.1.1.2.2.2.1
    have bc_93 := Q_93.1.1.2.2.2.2.2.1
    have ba_93 := Q_93.1.1.2.2.2.2.2.2.2
    have G_93 : p_go K T u (p_beg K u) := (go_beg hKT h39)
    have GG_93 := G_93 hok
    have ok_93 := GG_93.1
    have le_93 := GG_93.2.2.2.1
    have er_93 := GG_93.2.2.2.2
    have h8_93 : (p_beg K u).2.1 ≠ 40 → R_93 108 0 = nI (4 - 4) := fun z => by rw [hR_93]; exact (fun _ => hv8) (le_93 z)
    refine lv_aload_n hx hb dX14_act_93 rfl (lv_at hl 2 rfl) ?_
    refine q_get hx hb hts hown hA hW iX14 rO_0 rfl 18 (by decide) (hts (.fieldLink RX14 42 "HighRecipesModel" "fresh" "LHighRecipesModel$Book;") (by decide +kernel)) (fun _ h9 => h9) (v := .ref (M + 25)) rfl dX14_act_94 ?_
    refine q_getN hx hb hts hown hA hW iX13 rO_25 rfl 5 (by decide) (va_Nw.use rfl (hA.2.2.2.1 ("HighRecipesModel", 218, "HighRecipesModel$Book", "does", "[I", "HighRecipesModel") (by decide +kernel))) (fun _ h9 => h9) (v := .ref (M + 28)) rfl dX14_act_97 ?_
    refine lv_iload_n hx hb dX14_act_100 rfl (lv_at hl 1 rfl) ?_
    refine lv_iload_n hx hb dX14_act_101 rfl (lv_at hl 0 rfl) ?_
    refine q_ast hx hb hA hW hS (rO_28 (g := R_93 28) rfl) ac rfl (by omega) (by decide) dX14_act_102 (fun H locs hW hS => ?_)
    have hW := q_sa 28 hW rfl rfl
    refine lv_aload_n hx hb dX14_act_103 rfl (lv_at hl 2 rfl) ?_
    refine q_get hx hb hts hown hA hW iX14 rO_0 rfl 18 (by decide) (hts (.fieldLink RX14 42 "HighRecipesModel" "fresh" "LHighRecipesModel$Book;") (by decide +kernel)) (fun _ h9 => h9) (v := .ref (M + 25)) rfl dX14_act_104 ?_
    refine q_getN hx hb hts hown hA hW iX13 rO_25 rfl 12 (by decide) (va_Nw.use rfl (hA.2.2.2.1 ("HighRecipesModel", 212, "HighRecipesModel$Book", "next", "[I", "HighRecipesModel") (by decide +kernel))) (fun _ h9 => h9) (v := .ref (M + 35)) rfl dX14_act_107 ?_
    refine lv_iload_n hx hb dX14_act_110 rfl (lv_at hl 1 rfl) ?_
    refine lv_iconst (v := (-1)) hx hb dX14_act_111 (by decide) ?_
    refine q_ast hx hb hA hW hS (rO_35 (g := R_93 35) rfl) ac rfl (by omega) (by decide) dX14_act_112 (fun H locs hW hS => ?_)
    have hW := q_sa 35 hW rfl rfl
    refine lv_aload_n hx hb dX14_act_113 rfl (lv_at hl 2 rfl) ?_
    refine q_get hx hb hts hown hA hW iX14 rO_0 rfl 18 (by decide) (hts (.fieldLink RX14 42 "HighRecipesModel" "fresh" "LHighRecipesModel$Book;") (by decide +kernel)) (fun _ h9 => h9) (v := .ref (M + 25)) rfl dX14_act_114 ?_
    refine q_getN hx hb hts hown hA hW iX13 rO_25 rfl 10 (by decide) (va_Nw.use rfl (hA.2.2.2.1 ("HighRecipesModel", 221, "HighRecipesModel$Book", "block", "[I", "HighRecipesModel") (by decide +kernel))) (fun _ h9 => h9) (v := .ref (M + 33)) rfl dX14_act_117 ?_
    refine lv_iload_n hx hb dX14_act_120 rfl (lv_at hl 1 rfl) ?_
    refine lv_iconst (v := (-1)) hx hb dX14_act_121 (by decide) ?_
    refine q_ast hx hb hA hW hS (rO_33 (g := R_93 33) rfl) ac rfl (by omega) (by decide) dX14_act_122 (fun H locs hW hS => ?_)
    have hW := q_sa 33 hW rfl rfl
    refine lv_aload_n hx hb dX14_act_123 rfl (lv_at hl 2 rfl) ?_
    refine q_get hx hb hts hown hA hW iX14 rO_0 rfl 18 (by decide) (hts (.fieldLink RX14 42 "HighRecipesModel" "fresh" "LHighRecipesModel$Book;") (by decide +kernel)) (fun _ h9 => h9) (v := .ref (M + 25)) rfl dX14_act_124 ?_
    refine q_getN hx hb hts hown hA hW iX13 rO_25 rfl 11 (by decide) (va_Nw.use rfl (hA.2.2.2.1 ("HighRecipesModel", 224, "HighRecipesModel$Book", "other", "[I", "HighRecipesModel") (by decide +kernel))) (fun _ h9 => h9) (v := .ref (M + 34)) rfl dX14_act_127 ?_
    refine lv_iload_n hx hb dX14_act_130 rfl (lv_at hl 1 rfl) ?_
    refine lv_iconst (v := (-1)) hx hb dX14_act_131 (by decide) ?_
    refine q_ast hx hb hA hW hS (rO_34 (g := R_93 34) rfl) ac rfl (by omega) (by decide) dX14_act_132 (fun H locs hW hS => ?_)
    have hW := q_sa 34 hW rfl rfl
    obtain ⟨R_133, hR_133⟩ : ∃ z, z = rp (rp (rp (rp R_93 28 (upd (R_93 28) ac 15)) 35 (upd (R_93 35) ac (-1))) 33 (upd (R_93 33) ac (-1))) 34 (upd (R_93 34) ac (-1)) := ⟨_, rfl⟩
    rw [← hR_133] at hW
    have Q_133 : r_Q r R_133 K T (p_beg K u) tk nd cc ac (tk + 1) nd cc (min 80 (ac + 1)) := by rw [hR_133]; exact ((((Q_93.st (by decide) (by omega)).st (by decide) (by omega)).st (by decide) (by omega)).st (by decide) (by omega))
    have T_133 := Q_133.tok hTK
    have num_133 := Q_133.2.2
    unfold r_num at num_133
    have bt_133 := Q_133.1.1.2.1
    have bn_133 := Q_133.1.1.2.2.2.1
    have bc_133 := Q_133.1.1.2.2.2.2.2.1
    have ba_133 := Q_133.1.1.2.2.2.2.2.2.2
    have y28_133 : True → R_133 28 ac = 15 := fun _ => by rw [hR_133]; exact st_row (r := R_93) (j := 28) (q0 := ac) (x := 15)
    have y35_133 : True → R_133 35 ac = -1 := fun _ => by rw [hR_133]; exact st_row (r := R_93) (j := 35) (q0 := ac) (x := -1)
    have y33_133 : True → R_133 33 ac = -1 := fun _ => by rw [hR_133]; exact st_row (r := R_93) (j := 33) (q0 := ac) (x := -1)
    have y34_133 : True → R_133 34 ac = -1 := fun _ => by rw [hR_133]; exact st_row (r := R_93) (j := 34) (q0 := ac) (x := -1)
    have h8_133 : (p_beg K u).2.1 ≠ 40 → R_133 108 0 = nI (4 - 4) := fun z => by rw [hR_133]; exact h8_93 z
    refine lv_iload_n hx hb dX14_act_133 rfl (lv_at hl 0 rfl) ?_
    refine lv_bipush (v := 15) hx hb dX14_act_134 (by decide) ?_
    refine lv_icmp_ne (tgt := 147) hx hb dX14_act_136 (by decide) (fun c_136 => False.elim ((fun h9 => h9 rfl) c_136)) (fun c_136 => ?_)
    refine lv_aload_n hx hb dX14_act_139 rfl (lv_at hl 2 rfl) ?_
    refine lv_iload_n hx hb dX14_act_140 rfl (lv_at hl 1 rfl) ?_
    refine q_cv (va_runV (As := [.int (nI ac)]) (rest := []) ⟨hx, hb, hml, hown, hts⟩ (kX14_again l E (rO E f M R_133) n M R_133 K Wd T (p_beg K u) (tk + 1) nd cc (min 80 (ac + 1)) pN pn rN rc ac RS d0 rO_K T_133 hT hKT hK41 Q_133.1 ok_93 (hnm.mv (Q_133.2.1.1 6 (by decide) (by decide) (by decide))) hpn (show R_133 130 0 = nI pn from by rw [hR_133]; exact (show R_93 130 0 = nI pn from by rw [hR_93]; exact hpn9)) (hnr.mv (Q_133.2.1.1 7 (by decide) (by decide) (by decide))) hrc (show R_133 109 0 = nI rc from by rw [hR_133]; exact (show R_93 109 0 = nI rc from by rw [hR_93]; exact hrc9)) (show R_133 108 0 = nI (4 - 4) from by rw [hR_133]; exact (show R_93 108 0 = nI (4 - 4) from by rw [hR_93]; exact hv8)) (by omega) ihB hd6 (show R_133 107 0 = nI (6 - d0) from by rw [hR_133]; exact (show R_93 107 0 = nI (6 - d0) from by rw [hR_93]; exact hv7))) (cwV 1 hts gX14_act_X14_again rfl rfl rfl (by decide +kernel) ⟨(by show (4 * d0 + 41) + 1 ≤ 4 * d0 + 42; omega), (by show 8 + (4 + 11) + (100 * d0 + 1030) ≤ 100 * d0 + 1060; omega)⟩) (q_pV hA hW hS (ci := 12) rfl rO_0) rfl rfl hl.1 rfl (lv_room (Nat.le_of_ble_eq_true rfl)) dX14_act_141 ⟨Nat.le_of_ble_eq_true rfl, Nat.le_of_ble_eq_true rfl⟩) hS (fun f_141 n_141 H locs hp hW hS => ?_)
    obtain ⟨R_141, tk_141, nd_141, cc_141, ac_141, q_141, e7_141, e8_141, ec_141, ex_141, rfl, rfl⟩ := hp
    have G_141 : p_go K T (p_beg K u) (p_blk K Wd pN pn rN rc d0 (p_val K Wd pN pn 4 (p_beg K u))) := ((go_val0 hKT 4 _).trans (go_blk hKT d0 _))
    have GG_141 := G_141 ok_93
    have ok_141 := GG_141.1
    have le_141 := GG_141.2.2.2.1
    have er_141 := GG_141.2.2.2.2
    have Q_141 := Q_133.trans9 q_141 (by omega)
    have T_141 := Q_141.tok hTK
    have num_141 := Q_141.2.2
    unfold r_num at num_141
    have bt_141 := Q_141.1.1.2.1
    have bn_141 := Q_141.1.1.2.2.2.1
    have bc_141 := Q_141.1.1.2.2.2.2.2.1
    have ba_141 := Q_141.1.1.2.2.2.2.2.2.2
    have qn_141 := q_141.2.2
    unfold r_num at qn_141
    have h8_141 : (p_blk K Wd pN pn rN rc d0 (p_val K Wd pN pn 4 (p_beg K u))).2.1 ≠ 40 → R_141 108 0 = nI (4 - 4) := fun z => (e8_141 z).trans (h8_133 (le_141 z))
    rw [rO_rO] at hW
    have hW : q_W E (rO E f M R_141) n H := hW
    refine lv_goto (tgt := 167) hx hb dX14_act_144 (by decide) ?_
    have eA : p_act K Wd pN pn rN rc (p_blk K Wd pN pn rN rc d0) u = p_blk K Wd pN pn rN rc d0 (p_val K Wd pN pn 4 (p_beg K u)) := by unfold p_act; rw [hw]; rfl
    have eS : p_actS K Wd pN pn rN rc RS (p_blk K Wd pN pn rN rc d0) (p_blkS K Wd pN pn rN rc RS d0) u = k_again (p_valD K Wd pN pn 4 (p_beg K u)) (p_blkS K Wd pN pn rN rc RS d0 (p_val K Wd pN pn 4 (p_beg K u))) := by unfold p_actS; rw [hw]; rfl
    have EX : (p_act K Wd pN pn rN rc (p_blk K Wd pN pn rN rc d0) u).2.1 ≠ 40 → (p_act K Wd pN pn rN rc (p_blk K Wd pN pn rN rc d0) u).2.2.1 = 0 → ac < 80 ∧ ac + 1 ≤ ac_141 ∧ R_141 35 ac = -1 ∧ mA (bR R_141 25) pn nd_141 cc_141 ac_141 RS rc (d0 + 1) ac (p_actS K Wd pN pn rN rc RS (p_blk K Wd pN pn rN rc d0) (p_blkS K Wd pN pn rN rc RS d0) u) := by
      intro h1 h2
      rw [eA] at h1 h2
      have k1 := le_141 h1
      have hb9 := beg_ok (er_141 h2)
      have hac8 : ac < 80 := by have z := hnw.2.2.2.2.2; rw [z]; exact Nat.lt_of_le_of_lt (Nat.min_le_right _ _) hb9
      have h0 : ac < min 80 (ac + 1) := Nat.lt_min.mpr ⟨hac8, Nat.lt_succ_self _⟩
      have rr := ex_141.1 h0
      have mm := ex_141.2 h0 h1 h2
      have y35 := rr.1.trans (y35_133 trivial)
      have y28 := rr.2.trans (y28_133 trivial)
      refine ⟨hac8, by omega, y35, by omega, ?_⟩
      rw [eS]
      obtain ⟨x, m1, m2, m3, m4⟩ := mm
      have hd0 : 1 ≤ d0 := by rcases Nat.eq_zero_or_pos d0 with e | e; exact absurd (by rw [e]; exact blk_w0) h1; exact e
      exact Or.inr (Or.inr (Or.inr (Or.inr (Or.inr (Or.inr (Or.inr (Or.inr (Or.inl (⟨y28, hd0, x, _, m3, _, m1, m2, mL_lo m4 (by omega), rfl⟩)))))))))
    refine lv_iload_n hx hb dX14_act_167 rfl (lv_at hl 1 rfl) ?_
    exact q_iret hx hb hr hlocks hW hS ⟨_, _, _, _, _, (by rw [eA]; exact Q_141), (e7_141.trans (show R_133 107 0 = r 107 0 from by rw [hR_133]; exact (show R_93 107 0 = r 107 0 from by rw [hR_93]; exact rfl))), (fun h1 => by rw [eA] at h1; exact (fun z => (e8_141 z).trans (show R_133 108 0 = r 108 0 from by rw [hR_133]; exact (show R_93 108 0 = r 108 0 from by rw [hR_93]; exact rfl))) h1), trivial, ⟨rfl, EX⟩, rfl, rfl⟩ (Nat.le_of_ble_eq_true rfl) (Nat.le_of_ble_eq_true rfl) dX14_act_168
  · have e80 : ac = 80 := (nI_eq (by omega) (by decide)).1 c_60
    refine lv_aload_n hx hb dX14_act_63 rfl (lv_at hl 2 rfl) ?_
    refine lv_iconst (v := 4) hx hb dX14_act_64 (by decide) ?_
    refine q_cv (va_runV (As := [.int 4]) (rest := []) ⟨hx, hb, hml, hown, hts⟩ (kX14_mark l E (rO E f M r) n M r K Wd T u tk nd cc ac 4 rO_K hTK hT hKT hK41 Q0.1 hok) (cwV 1 hts gX14_act_X14_mark rfl rfl rfl (by decide +kernel) ⟨(by show 0 + 1 ≤ 4 * d0 + 42; omega), (by show 8 + (2 + 11) + 0 ≤ 100 * d0 + 1060; omega)⟩) (q_pV hA hW hS (ci := 12) rfl rO_0) rfl rfl hl.1 rfl (lv_room (Nat.le_of_ble_eq_true rfl)) dX14_act_65 ⟨Nat.le_of_ble_eq_true rfl, Nat.le_of_ble_eq_true rfl⟩) hS (fun f_65 n_65 H locs hp hW hS => ?_)
    obtain ⟨R_65, tk_65, nd_65, cc_65, ac_65, q_65, e7_65, e8_65, ec_65, ex_65, rfl, rfl⟩ := hp
    have G_65 : p_go K T u (p_ci true 4 u) := (go_ci (by decide) (by decide))
    have GG_65 := G_65 hok
    have ok_65 := GG_65.1
    have le_65 := GG_65.2.2.2.1
    have er_65 := GG_65.2.2.2.2
    have Q_65 := Q0.trans q_65
    have T_65 := Q_65.tok hTK
    have num_65 := Q_65.2.2
    unfold r_num at num_65
    have bt_65 := Q_65.1.1.2.1
    have bn_65 := Q_65.1.1.2.2.2.1
    have bc_65 := Q_65.1.1.2.2.2.2.2.1
    have ba_65 := Q_65.1.1.2.2.2.2.2.2.2
    have qn_65 := q_65.2.2
    unfold r_num at qn_65
    have h8_65 : (p_ci true 4 u).2.1 ≠ 40 → R_65 108 0 = nI (4 - 4) := fun z => (e8_65).trans ((fun _ => hv8) (le_65 z))
    rw [rO_rO] at hW
    have hW : q_W E (rO E f M R_65) n H := hW
    have eac9 : ac_65 = ac := (ec_65.2.trans rfl)
    rw [eac9] at Q_65
    refine lv_aload_n hx hb dX14_act_68 rfl (lv_at hl 2 rfl) ?_
    refine q_get hx hb hts hown hA hW iX14 rO_0 rfl 18 (by decide) (hts (.fieldLink RX14 42 "HighRecipesModel" "fresh" "LHighRecipesModel$Book;") (by decide +kernel)) (fun _ h9 => h9) (v := .ref (M + 25)) rfl dX14_act_69 ?_
    refine lv_bipush (v := 80) hx hb dX14_act_72 (by decide) ?_
    refine lv_iload_n hx hb dX14_act_74 rfl (lv_at hl 1 rfl) ?_
    refine lv_iconst (v := 1) hx hb dX14_act_75 (by decide) ?_
    refine lv_iadd hx hb dX14_act_76 ?_
    rw [nI_1]
    refine va_mmin hx hb (hml.trans hl.1.symm) hown (hts (.methodLink RX14 57 Lib.Math.min.name) (by decide +kernel)) (hts (.static Lib.Math.min.name) (by decide +kernel)) (hts (.initialized "java/lang/Math") (by decide +kernel)) (hts (.code Lib.Math.min.name Lib.Math.min.code 2 (some .int)) (by decide +kernel)) (by show 1 ≤ 4 * d0 + 42; omega) (by show 14 ≤ 100 * d0 + 1060; omega) (Nat.le_of_ble_eq_true rfl) (Nat.le_of_ble_eq_true rfl) dX14_act_77 ?_
    rw [show (if nI (ac + 1) < 80 then nI (ac + 1) else 80) = nI (min 80 (ac + 1)) from q_min_n (a := 80) (b := ac + 1) (by decide) (by omega)]
    refine q_putN hx hb hts hown hA hW hS iX13 tyX13 tyX13_ok nmX13 rO_25 rfl 4 (by decide) (va_Nw.use rfl (hA.2.2.2.1 ("HighRecipesModel", 215, "HighRecipesModel$Book", "acts", "I", "HighRecipesModel") (by decide +kernel))) (fun _ h9 => h9) rfl rfl rfl (Nat.le_of_ble_eq_true rfl) dX14_act_80 (fun H locs hW hS => ?_)
    have hW := q_s25 132 (nI (min 80 (ac + 1))) hW rfl (by decide)
    refine lv_aload_n hx hb dX14_act_83 rfl (lv_at hl 2 rfl) ?_
    refine lv_dup hx hb dX14_act_84 rfl ?_
    refine q_get hx hb hts hown hA hW iX14 rO_0 rfl 8 (by decide) (hts (.fieldLink RX14 120 "HighRecipesModel" "token" "I") (by decide +kernel)) (fun _ h9 => h9) (v := .int (nI tk_65)) (congrArg (fun z => some (Value.int z)) Q_65.1.1.1) dX14_act_85 ?_
    refine lv_iconst (v := 1) hx hb dX14_act_88 (by decide) ?_
    refine lv_iadd hx hb dX14_act_89 ?_
    refine q_put hx hb hts hown hA hW hS iX14 tyX14 tyX14_ok nmX14 rO_0 rfl 8 (by decide) (hts (.fieldLink RX14 120 "HighRecipesModel" "token" "I") (by decide +kernel)) (fun _ h9 => h9) rfl rfl rfl (Nat.le_of_ble_eq_true rfl) dX14_act_90 (fun H locs hW hS => ?_)
    rw [show (nI tk_65) + 1 = nI (tk_65 + 1) from nI_1 tk_65] at hW
    have hW := q_s0 103 (nI (tk_65 + 1)) hW rfl (by decide)
    obtain ⟨R_93, hR_93⟩ : ∃ z, z = rp (rp R_65 132 (fun _ => nI (min 80 (ac + 1)))) 103 (fun _ => nI (tk_65 + 1)) := ⟨_, rfl⟩
    rw [← hR_93] at hW
    have Q_93 : r_Q r R_93 K T (p_beg K u) tk nd cc ac (tk_65 + 1) nd_65 cc_65 (min 80 (ac + 1)) := by rw [hR_93]; exact (r_Q.beg (by rw [decide_eq_true e80]; exact Q_65) h39 hKT)
    have T_93 := Q_93.tok hTK
    have num_93 := Q_93.2.2
    unfold r_num at num_93
    have bt_93 := Q_93.1.1.2.1
    have bn_93 := Q_93.1.1.2.2.2.1
    have bc_93 := Q_93.1.1.2.2.2.2.2.1
    have ba_93 := Q_93.1.1.2.2.2.2.2.2.2
    have G_93 : p_go K T u (p_beg K u) := (go_beg hKT h39)
    have GG_93 := G_93 hok
    have ok_93 := GG_93.1
    have le_93 := GG_93.2.2.2.1
    have er_93 := GG_93.2.2.2.2
    have h8_93 : (p_beg K u).2.1 ≠ 40 → R_93 108 0 = nI (4 - 4) := fun z => by rw [hR_93]; exact h8_65 (le_93 z)
    refine lv_aload_n hx hb dX14_act_93 rfl (lv_at hl 2 rfl) ?_
    refine q_get hx hb hts hown hA hW iX14 rO_0 rfl 18 (by decide) (hts (.fieldLink RX14 42 "HighRecipesModel" "fresh" "LHighRecipesModel$Book;") (by decide +kernel)) (fun _ h9 => h9) (v := .ref (M + 25)) rfl dX14_act_94 ?_
    refine q_getN hx hb hts hown hA hW iX13 rO_25 rfl 5 (by decide) (va_Nw.use rfl (hA.2.2.2.1 ("HighRecipesModel", 218, "HighRecipesModel$Book", "does", "[I", "HighRecipesModel") (by decide +kernel))) (fun _ h9 => h9) (v := .ref (M + 28)) rfl dX14_act_97 ?_
    refine lv_iload_n hx hb dX14_act_100 rfl (lv_at hl 1 rfl) ?_
    refine lv_iload_n hx hb dX14_act_101 rfl (lv_at hl 0 rfl) ?_
    refine q_ast hx hb hA hW hS (rO_28 (g := R_93 28) rfl) ac rfl (by omega) (by decide) dX14_act_102 (fun H locs hW hS => ?_)
    have hW := q_sa 28 hW rfl rfl
    refine lv_aload_n hx hb dX14_act_103 rfl (lv_at hl 2 rfl) ?_
    refine q_get hx hb hts hown hA hW iX14 rO_0 rfl 18 (by decide) (hts (.fieldLink RX14 42 "HighRecipesModel" "fresh" "LHighRecipesModel$Book;") (by decide +kernel)) (fun _ h9 => h9) (v := .ref (M + 25)) rfl dX14_act_104 ?_
    refine q_getN hx hb hts hown hA hW iX13 rO_25 rfl 12 (by decide) (va_Nw.use rfl (hA.2.2.2.1 ("HighRecipesModel", 212, "HighRecipesModel$Book", "next", "[I", "HighRecipesModel") (by decide +kernel))) (fun _ h9 => h9) (v := .ref (M + 35)) rfl dX14_act_107 ?_
    refine lv_iload_n hx hb dX14_act_110 rfl (lv_at hl 1 rfl) ?_
    refine lv_iconst (v := (-1)) hx hb dX14_act_111 (by decide) ?_
    refine q_ast hx hb hA hW hS (rO_35 (g := R_93 35) rfl) ac rfl (by omega) (by decide) dX14_act_112 (fun H locs hW hS => ?_)
    have hW := q_sa 35 hW rfl rfl
    refine lv_aload_n hx hb dX14_act_113 rfl (lv_at hl 2 rfl) ?_
    refine q_get hx hb hts hown hA hW iX14 rO_0 rfl 18 (by decide) (hts (.fieldLink RX14 42 "HighRecipesModel" "fresh" "LHighRecipesModel$Book;") (by decide +kernel)) (fun _ h9 => h9) (v := .ref (M + 25)) rfl dX14_act_114 ?_
    refine q_getN hx hb hts hown hA hW iX13 rO_25 rfl 10 (by decide) (va_Nw.use rfl (hA.2.2.2.1 ("HighRecipesModel", 221, "HighRecipesModel$Book", "block", "[I", "HighRecipesModel") (by decide +kernel))) (fun _ h9 => h9) (v := .ref (M + 33)) rfl dX14_act_117 ?_
    refine lv_iload_n hx hb dX14_act_120 rfl (lv_at hl 1 rfl) ?_
    refine lv_iconst (v := (-1)) hx hb dX14_act_121 (by decide) ?_
    refine q_ast hx hb hA hW hS (rO_33 (g := R_93 33) rfl) ac rfl (by omega) (by decide) dX14_act_122 (fun H locs hW hS => ?_)
    have hW := q_sa 33 hW rfl rfl
    refine lv_aload_n hx hb dX14_act_123 rfl (lv_at hl 2 rfl) ?_
    refine q_get hx hb hts hown hA hW iX14 rO_0 rfl 18 (by decide) (hts (.fieldLink RX14 42 "HighRecipesModel" "fresh" "LHighRecipesModel$Book;") (by decide +kernel)) (fun _ h9 => h9) (v := .ref (M + 25)) rfl dX14_act_124 ?_
    refine q_getN hx hb hts hown hA hW iX13 rO_25 rfl 11 (by decide) (va_Nw.use rfl (hA.2.2.2.1 ("HighRecipesModel", 224, "HighRecipesModel$Book", "other", "[I", "HighRecipesModel") (by decide +kernel))) (fun _ h9 => h9) (v := .ref (M + 34)) rfl dX14_act_127 ?_
    refine lv_iload_n hx hb dX14_act_130 rfl (lv_at hl 1 rfl) ?_
    refine lv_iconst (v := (-1)) hx hb dX14_act_131 (by decide) ?_
    refine q_ast hx hb hA hW hS (rO_34 (g := R_93 34) rfl) ac rfl (by omega) (by decide) dX14_act_132 (fun H locs hW hS => ?_)
    have hW := q_sa 34 hW rfl rfl
    obtain ⟨R_133, hR_133⟩ : ∃ z, z = rp (rp (rp (rp R_93 28 (upd (R_93 28) ac 15)) 35 (upd (R_93 35) ac (-1))) 33 (upd (R_93 33) ac (-1))) 34 (upd (R_93 34) ac (-1)) := ⟨_, rfl⟩
    rw [← hR_133] at hW
    have Q_133 : r_Q r R_133 K T (p_beg K u) tk nd cc ac (tk_65 + 1) nd_65 cc_65 (min 80 (ac + 1)) := by rw [hR_133]; exact ((((Q_93.st (by decide) (by omega)).st (by decide) (by omega)).st (by decide) (by omega)).st (by decide) (by omega))
    have T_133 := Q_133.tok hTK
    have num_133 := Q_133.2.2
    unfold r_num at num_133
    have bt_133 := Q_133.1.1.2.1
    have bn_133 := Q_133.1.1.2.2.2.1
    have bc_133 := Q_133.1.1.2.2.2.2.2.1
    have ba_133 := Q_133.1.1.2.2.2.2.2.2.2
    have y28_133 : True → R_133 28 ac = 15 := fun _ => by rw [hR_133]; exact st_row (r := R_93) (j := 28) (q0 := ac) (x := 15)
    have y35_133 : True → R_133 35 ac = -1 := fun _ => by rw [hR_133]; exact st_row (r := R_93) (j := 35) (q0 := ac) (x := -1)
    have y33_133 : True → R_133 33 ac = -1 := fun _ => by rw [hR_133]; exact st_row (r := R_93) (j := 33) (q0 := ac) (x := -1)
    have y34_133 : True → R_133 34 ac = -1 := fun _ => by rw [hR_133]; exact st_row (r := R_93) (j := 34) (q0 := ac) (x := -1)
    have h8_133 : (p_beg K u).2.1 ≠ 40 → R_133 108 0 = nI (4 - 4) := fun z => by rw [hR_133]; exact h8_93 z
    refine lv_iload_n hx hb dX14_act_133 rfl (lv_at hl 0 rfl) ?_
    refine lv_bipush (v := 15) hx hb dX14_act_134 (by decide) ?_
    refine lv_icmp_ne (tgt := 147) hx hb dX14_act_136 (by decide) (fun c_136 => False.elim ((fun h9 => h9 rfl) c_136)) (fun c_136 => ?_)
    refine lv_aload_n hx hb dX14_act_139 rfl (lv_at hl 2 rfl) ?_
    refine lv_iload_n hx hb dX14_act_140 rfl (lv_at hl 1 rfl) ?_
    refine q_cv (va_runV (As := [.int (nI ac)]) (rest := []) ⟨hx, hb, hml, hown, hts⟩ (kX14_again l E (rO E f M R_133) n M R_133 K Wd T (p_beg K u) (tk_65 + 1) nd_65 cc_65 (min 80 (ac + 1)) pN pn rN rc ac RS d0 rO_K T_133 hT hKT hK41 Q_133.1 ok_93 (hnm.mv (Q_133.2.1.1 6 (by decide) (by decide) (by decide))) hpn (show R_133 130 0 = nI pn from by rw [hR_133]; exact (show R_93 130 0 = nI pn from by rw [hR_93]; exact ((congrFun (q_65.2.1.1 130 (by decide) (by decide) (by decide)) 0).trans hpn9))) (hnr.mv (Q_133.2.1.1 7 (by decide) (by decide) (by decide))) hrc (show R_133 109 0 = nI rc from by rw [hR_133]; exact (show R_93 109 0 = nI rc from by rw [hR_93]; exact ((congrFun (q_65.2.1.1 109 (by decide) (by decide) (by decide)) 0).trans hrc9))) (show R_133 108 0 = nI (4 - 4) from by rw [hR_133]; exact (show R_93 108 0 = nI (4 - 4) from by rw [hR_93]; exact (e8_65.trans hv8))) (by omega) ihB hd6 (show R_133 107 0 = nI (6 - d0) from by rw [hR_133]; exact (show R_93 107 0 = nI (6 - d0) from by rw [hR_93]; exact (e7_65.trans hv7)))) (cwV 1 hts gX14_act_X14_again rfl rfl rfl (by decide +kernel) ⟨(by show (4 * d0 + 41) + 1 ≤ 4 * d0 + 42; omega), (by show 8 + (4 + 11) + (100 * d0 + 1030) ≤ 100 * d0 + 1060; omega)⟩) (q_pV hA hW hS (ci := 12) rfl rO_0) rfl rfl hl.1 rfl (lv_room (Nat.le_of_ble_eq_true rfl)) dX14_act_141 ⟨Nat.le_of_ble_eq_true rfl, Nat.le_of_ble_eq_true rfl⟩) hS (fun f_141 n_141 H locs hp hW hS => ?_)
    obtain ⟨R_141, tk_141, nd_141, cc_141, ac_141, q_141, e7_141, e8_141, ec_141, ex_141, rfl, rfl⟩ := hp
    have G_141 : p_go K T (p_beg K u) (p_blk K Wd pN pn rN rc d0 (p_val K Wd pN pn 4 (p_beg K u))) := ((go_val0 hKT 4 _).trans (go_blk hKT d0 _))
    have GG_141 := G_141 ok_93
    have ok_141 := GG_141.1
    have le_141 := GG_141.2.2.2.1
    have er_141 := GG_141.2.2.2.2
    have Q_141 := Q_133.trans9 q_141 (by omega)
    have T_141 := Q_141.tok hTK
    have num_141 := Q_141.2.2
    unfold r_num at num_141
    have bt_141 := Q_141.1.1.2.1
    have bn_141 := Q_141.1.1.2.2.2.1
    have bc_141 := Q_141.1.1.2.2.2.2.2.1
    have ba_141 := Q_141.1.1.2.2.2.2.2.2.2
    have qn_141 := q_141.2.2
    unfold r_num at qn_141
    have h8_141 : (p_blk K Wd pN pn rN rc d0 (p_val K Wd pN pn 4 (p_beg K u))).2.1 ≠ 40 → R_141 108 0 = nI (4 - 4) := fun z => (e8_141 z).trans (h8_133 (le_141 z))
    rw [rO_rO] at hW
    have hW : q_W E (rO E f M R_141) n H := hW
    refine lv_goto (tgt := 167) hx hb dX14_act_144 (by decide) ?_
    have eA : p_act K Wd pN pn rN rc (p_blk K Wd pN pn rN rc d0) u = p_blk K Wd pN pn rN rc d0 (p_val K Wd pN pn 4 (p_beg K u)) := by unfold p_act; rw [hw]; rfl
    have eS : p_actS K Wd pN pn rN rc RS (p_blk K Wd pN pn rN rc d0) (p_blkS K Wd pN pn rN rc RS d0) u = k_again (p_valD K Wd pN pn 4 (p_beg K u)) (p_blkS K Wd pN pn rN rc RS d0 (p_val K Wd pN pn 4 (p_beg K u))) := by unfold p_actS; rw [hw]; rfl
    have EX : (p_act K Wd pN pn rN rc (p_blk K Wd pN pn rN rc d0) u).2.1 ≠ 40 → (p_act K Wd pN pn rN rc (p_blk K Wd pN pn rN rc d0) u).2.2.1 = 0 → ac < 80 ∧ ac + 1 ≤ ac_141 ∧ R_141 35 ac = -1 ∧ mA (bR R_141 25) pn nd_141 cc_141 ac_141 RS rc (d0 + 1) ac (p_actS K Wd pN pn rN rc RS (p_blk K Wd pN pn rN rc d0) (p_blkS K Wd pN pn rN rc RS d0) u) := by
      intro h1 h2
      rw [eA] at h1 h2
      have k1 := le_141 h1
      have hb9 := beg_ok (er_141 h2)
      have hac8 : ac < 80 := by have z := hnw.2.2.2.2.2; rw [z]; exact Nat.lt_of_le_of_lt (Nat.min_le_right _ _) hb9
      have h0 : ac < min 80 (ac + 1) := Nat.lt_min.mpr ⟨hac8, Nat.lt_succ_self _⟩
      have rr := ex_141.1 h0
      have mm := ex_141.2 h0 h1 h2
      have y35 := rr.1.trans (y35_133 trivial)
      have y28 := rr.2.trans (y28_133 trivial)
      refine ⟨hac8, by omega, y35, by omega, ?_⟩
      rw [eS]
      obtain ⟨x, m1, m2, m3, m4⟩ := mm
      have hd0 : 1 ≤ d0 := by rcases Nat.eq_zero_or_pos d0 with e | e; exact absurd (by rw [e]; exact blk_w0) h1; exact e
      exact Or.inr (Or.inr (Or.inr (Or.inr (Or.inr (Or.inr (Or.inr (Or.inr (Or.inl (⟨y28, hd0, x, _, m3, _, m1, m2, mL_lo m4 (by omega), rfl⟩)))))))))
    refine lv_iload_n hx hb dX14_act_167 rfl (lv_at hl 1 rfl) ?_
    exact q_iret hx hb hr hlocks hW hS ⟨_, _, _, _, _, (by rw [eA]; exact Q_141), (e7_141.trans (show R_133 107 0 = r 107 0 from by rw [hR_133]; exact (show R_93 107 0 = r 107 0 from by rw [hR_93]; exact (e7_65.trans rfl)))), (fun h1 => by rw [eA] at h1; exact (fun z => (e8_141 z).trans (show R_133 108 0 = r 108 0 from by rw [hR_133]; exact (show R_93 108 0 = r 108 0 from by rw [hR_93]; exact (e8_65.trans rfl)))) h1), trivial, ⟨rfl, EX⟩, rfl, rfl⟩ (Nat.le_of_ble_eq_true rfl) (Nat.le_of_ble_eq_true rfl) dX14_act_168

set_option maxHeartbeats 4000000 in
set_option maxRecDepth 100000 in
theorem kX14_act_16 (l : Launch) (E : q_E) (f : q_H) (n : Nat) (M : Nat) (r : q_R) (K : Nat → Nat) (Wd : Nat → Int64) (T : Nat) (u : p_S) (tk nd cc ac : Nat) (pN : Nat → Int64) (pn : Nat) (rN : Nat → Int64) (rc : Nat) (RS : Nat → q_S) (d0 : Nat)  (hm : RM E f M r) (hTK : r_T r K Wd T) (hT : T ≤ 400) (hKT : 39 ≤ K T) (hK41 : ∀ j, K j < 41) (hP : r_P r K T u tk nd cc ac) (hok : p_ok K T u) (hnm : r_nm r K Wd T 6 pn pN) (hpn : pn ≤ 8) (hpn9 : r 130 0 = nI pn) (hnr : r_nm r K Wd T 7 rc rN) (hrc : rc ≤ 6) (hrc9 : r 109 0 = nI rc) (hv8 : r 108 0 = nI (4 - 4)) (ihB : RBLK l E RS d0) (hd6 : d0 + 1 ≤ 6) (hv7 : r 107 0 = nI (6 - d0)) (hw : u.2.1 = 16) : Met l yX14_act wsX14_act ({ frames := 4 * d0 + 42, cells := 0, slots := 0, locals := 100 * d0 + 1060 }) (q_P E [.ref M] f n) (q_Qi E (fun r0 f1 n1 => ∃ (r1 : q_R) (tk1 nd1 cc1 ac1 : Nat), r_Q r r1 K T ((p_act K Wd pN pn rN rc (p_blk K Wd pN pn rN rc d0) u)) tk nd cc ac tk1 nd1 cc1 ac1 ∧ r1 107 0 = r 107 0 ∧ (((p_act K Wd pN pn rN rc (p_blk K Wd pN pn rN rc d0) u)).2.1 ≠ 40 → r1 108 0 = r 108 0) ∧ (True) ∧ (nI ac = r0 ∧ ((p_act K Wd pN pn rN rc (p_blk K Wd pN pn rN rc d0) u).2.1 ≠ 40 → (p_act K Wd pN pn rN rc (p_blk K Wd pN pn rN rc d0) u).2.2.1 = 0 → ac < 80 ∧ ac + 1 ≤ ac1 ∧ r1 35 ac = -1 ∧ mA (bR r1 25) pn nd1 cc1 ac1 RS rc (d0 + 1) ac (p_actS K Wd pN pn rN rc RS (p_blk K Wd pN pn rN rc d0) (p_blkS K Wd pN pn rN rc RS d0) u))) ∧ rO E f M r1 = f1 ∧ n = n1)) 0 0 (q_ge E) := by
  refine Met.ofW (cc := cX14_act) (maxL := 3) (ret := (some .int)) (by decide) rfl ?_
  intro p e s m args below meth c s₁ B hml hv
  obtain ⟨rfl, hA, hW⟩ := hv
  have hx := B.exec
  have hb := B.bytes
  have hr := B.returns
  have hts := atoms_spec (ws := wsX14_act) B.pre
  have hown : s.vm.findClass RX14 = some m.cls := findClass_of_methodNamed B.named
  have hlocks := B.notSynchronized
  have hS : va_S (q_ge E) s.heap s.heap [] := va_S.rf
  have iX13 : ∀ w ∈ wsX130, w ∈ wsX14_act := by decide +kernel
  have iX14 : ∀ w ∈ wsX140, w ∈ wsX14_act := by decide +kernel
  have hl := lv_entry ([.ref M]) (n := 3) (Nat.le_of_ble_eq_true rfl)
  rw [lg_entry_eq]
  generalize (lg_sl ([.ref M]) ++ List.replicate (3 - (lg_sl ([.ref M])).length) Slot.unset).toArray = ls at hl ⊢
  have hl : lv_has ls 3 [(0, .ref M)] := hl
  have hmE := hm.eq
  rw [hm.eq] at hW
  have Q0 := r_Q.rf hP
  have htk := hP.1.2.1
  have hnd := hP.1.2.2.2.1
  have hcc := hP.1.2.2.2.2.2.1
  have hac := hP.1.2.2.2.2.2.2.2
  have hnw := hP.nw (show u.2.1 ≠ 40 by omega)
  have h39 : u.2.1 < 39 := by omega
  refine lv_bipush (v := 80) hx hb dX14_act_0 (by decide) ?_
  refine lv_aload_n hx hb dX14_act_2 rfl (lv_at hl 0 rfl) ?_
  refine q_get hx hb hts hown hA hW iX14 rO_0 rfl 18 (by decide) (hts (.fieldLink RX14 42 "HighRecipesModel" "fresh" "LHighRecipesModel$Book;") (by decide +kernel)) (fun _ h9 => h9) (v := .ref (M + 25)) rfl dX14_act_3 ?_
  refine q_getN hx hb hts hown hA hW iX13 rO_25 rfl 4 (by decide) (va_Nw.use rfl (hA.2.2.2.1 ("HighRecipesModel", 215, "HighRecipesModel$Book", "acts", "I", "HighRecipesModel") (by decide +kernel))) (fun _ h9 => h9) (v := .int (nI ac)) (congrArg (fun z => some (Value.int z)) hP.1.2.2.2.2.2.2.1) dX14_act_6 ?_
  refine va_mmin hx hb (hml.trans hl.1.symm) hown (hts (.methodLink RX14 57 Lib.Math.min.name) (by decide +kernel)) (hts (.static Lib.Math.min.name) (by decide +kernel)) (hts (.initialized "java/lang/Math") (by decide +kernel)) (hts (.code Lib.Math.min.name Lib.Math.min.code 2 (some .int)) (by decide +kernel)) (by show 1 ≤ 4 * d0 + 42; omega) (by show 13 ≤ 100 * d0 + 1060; omega) (Nat.le_of_ble_eq_true rfl) (Nat.le_of_ble_eq_true rfl) dX14_act_9 ?_
  rw [show (if nI ac < 80 then nI ac else 80) = nI ac from (q_min_n (a := 80) (b := ac) (by decide) (by omega)).trans (by rw [Nat.min_eq_right hac])]
  refine lv_istore_n (lv' := [(1, .int (nI ac)), (0, .ref M)]) hx hb dX14_act_12 rfl hl (by decide) rfl (fun ls hl => ?_)
  refine lv_aload_n hx hb dX14_act_13 rfl (lv_at hl 1 rfl) ?_
  refine q_get hx hb hts hown hA hW iX14 rO_0 rfl 4 (by decide) (hts (.fieldLink RX14 17 "HighRecipesModel" "kind" "[I") (by decide +kernel)) (fun _ h9 => h9) (v := .ref (M + 2)) rfl dX14_act_14 ?_
  refine lv_aload_n hx hb dX14_act_17 rfl (lv_at hl 1 rfl) ?_
  refine q_get hx hb hts hown hA hW iX14 rO_0 rfl 8 (by decide) (hts (.fieldLink RX14 120 "HighRecipesModel" "token" "I") (by decide +kernel)) (fun _ h9 => h9) (v := .int (nI tk)) (congrArg (fun z => some (Value.int z)) hP.1.1) dX14_act_18 ?_
  refine q_ald hx hb hA hW (rO_2 (g := r 2) rfl) tk rfl (by omega) (by decide) (x := 16) (by rw [hTK.1 tk htk, hnw.2.1, ← hnw.2.2.1, hw]; rfl) dX14_act_21 ?_
  refine lv_istore_n (lv' := [(2, .int 16), (1, .int (nI ac)), (0, .ref M)]) hx hb dX14_act_22 rfl hl (by decide) rfl (fun ls hl => ?_)
  refine lv_iload_n hx hb dX14_act_23 rfl (lv_at hl 0 rfl) ?_
  refine lv_iconst (v := 3) hx hb dX14_act_24 (by decide) ?_
  refine lv_icmp_eq (tgt := 57) hx hb dX14_act_25 (by decide) (fun c_25 => False.elim ((fun h9 => absurd h9 (by decide)) c_25)) (fun c_25 => ?_)
  refine lv_iload_n hx hb dX14_act_28 rfl (lv_at hl 0 rfl) ?_
  refine lv_bipush (v := 7) hx hb dX14_act_29 (by decide) ?_
  refine lv_icmp_eq (tgt := 57) hx hb dX14_act_31 (by decide) (fun c_31 => False.elim ((fun h9 => absurd h9 (by decide)) c_31)) (fun c_31 => ?_)
  refine lv_iload_n hx hb dX14_act_34 rfl (lv_at hl 0 rfl) ?_
  refine lv_bipush (v := 9) hx hb dX14_act_35 (by decide) ?_
  refine lv_icmp_eq (tgt := 57) hx hb dX14_act_37 (by decide) (fun c_37 => False.elim ((fun h9 => absurd h9 (by decide)) c_37)) (fun c_37 => ?_)
  refine lv_iload_n hx hb dX14_act_40 rfl (lv_at hl 0 rfl) ?_
  refine lv_bipush (v := 11) hx hb dX14_act_41 (by decide) ?_
  refine lv_bipush (v := 16) hx hb dX14_act_43 (by decide) ?_
  refine q_ci (va_runS (As := [.int 16, .int 11, .int 16]) (rest := []) ⟨hx, hb, hml, hown, hts⟩ (kX14_isIn l E (rO E f M r) n 16 11 16) (va_cwS 3 hts gX14_act_X14_isIn rfl rfl rfl (by decide +kernel) ⟨(by show 0 + 1 ≤ 4 * d0 + 42; omega), (by show 8 + (3 + 11) + 0 ≤ 100 * d0 + 1060; omega)⟩) (q_pS hA hW hS) rfl rfl hl.1 rfl (lv_room (Nat.le_of_ble_eq_true rfl)) dX14_act_45 ⟨Nat.le_of_ble_eq_true rfl, Nat.le_of_ble_eq_true rfl⟩) hS (fun r_45 f_45 n_45 H locs hp hW hS => ?_)
  obtain ⟨rfl, rfl, rfl⟩ := hp
  have hW : q_W E (rO E f M r) n H := hW
  refine lv_if_ne (tgt := 57) hx hb dX14_act_48 (by decide) (fun c_48 => ?_) (fun c_48 => False.elim ((fun h9 => absurd h9 (by decide)) c_48))
  refine lv_iload_n hx hb dX14_act_57 rfl (lv_at hl 1 rfl) ?_
  refine lv_bipush (v := 80) hx hb dX14_act_58 (by decide) ?_
  refine lv_icmp_ne (tgt := 68) hx hb dX14_act_60 (by decide) (fun c_60 => ?_) (fun c_60 => ?_)
  · have e80 : ¬ ac = 80 := fun h9 => c_60 (by rw [h9]; rfl)
    refine lv_aload_n hx hb dX14_act_68 rfl (lv_at hl 2 rfl) ?_
    refine q_get hx hb hts hown hA hW iX14 rO_0 rfl 18 (by decide) (hts (.fieldLink RX14 42 "HighRecipesModel" "fresh" "LHighRecipesModel$Book;") (by decide +kernel)) (fun _ h9 => h9) (v := .ref (M + 25)) rfl dX14_act_69 ?_
    refine lv_bipush (v := 80) hx hb dX14_act_72 (by decide) ?_
    refine lv_iload_n hx hb dX14_act_74 rfl (lv_at hl 1 rfl) ?_
    refine lv_iconst (v := 1) hx hb dX14_act_75 (by decide) ?_
    refine lv_iadd hx hb dX14_act_76 ?_
    rw [nI_1]
    refine va_mmin hx hb (hml.trans hl.1.symm) hown (hts (.methodLink RX14 57 Lib.Math.min.name) (by decide +kernel)) (hts (.static Lib.Math.min.name) (by decide +kernel)) (hts (.initialized "java/lang/Math") (by decide +kernel)) (hts (.code Lib.Math.min.name Lib.Math.min.code 2 (some .int)) (by decide +kernel)) (by show 1 ≤ 4 * d0 + 42; omega) (by show 14 ≤ 100 * d0 + 1060; omega) (Nat.le_of_ble_eq_true rfl) (Nat.le_of_ble_eq_true rfl) dX14_act_77 ?_
    rw [show (if nI (ac + 1) < 80 then nI (ac + 1) else 80) = nI (min 80 (ac + 1)) from q_min_n (a := 80) (b := ac + 1) (by decide) (by omega)]
    refine q_putN hx hb hts hown hA hW hS iX13 tyX13 tyX13_ok nmX13 rO_25 rfl 4 (by decide) (va_Nw.use rfl (hA.2.2.2.1 ("HighRecipesModel", 215, "HighRecipesModel$Book", "acts", "I", "HighRecipesModel") (by decide +kernel))) (fun _ h9 => h9) rfl rfl rfl (Nat.le_of_ble_eq_true rfl) dX14_act_80 (fun H locs hW hS => ?_)
    have hW := q_s25 132 (nI (min 80 (ac + 1))) hW rfl (by decide)
    refine lv_aload_n hx hb dX14_act_83 rfl (lv_at hl 2 rfl) ?_
    refine lv_dup hx hb dX14_act_84 rfl ?_
    refine q_get hx hb hts hown hA hW iX14 rO_0 rfl 8 (by decide) (hts (.fieldLink RX14 120 "HighRecipesModel" "token" "I") (by decide +kernel)) (fun _ h9 => h9) (v := .int (nI tk)) (congrArg (fun z => some (Value.int z)) hP.1.1) dX14_act_85 ?_
    refine lv_iconst (v := 1) hx hb dX14_act_88 (by decide) ?_
    refine lv_iadd hx hb dX14_act_89 ?_
    refine q_put hx hb hts hown hA hW hS iX14 tyX14 tyX14_ok nmX14 rO_0 rfl 8 (by decide) (hts (.fieldLink RX14 120 "HighRecipesModel" "token" "I") (by decide +kernel)) (fun _ h9 => h9) rfl rfl rfl (Nat.le_of_ble_eq_true rfl) dX14_act_90 (fun H locs hW hS => ?_)
    rw [show (nI tk) + 1 = nI (tk + 1) from nI_1 tk] at hW
    have hW := q_s0 103 (nI (tk + 1)) hW rfl (by decide)
    obtain ⟨R_93, hR_93⟩ : ∃ z, z = rp (rp r 132 (fun _ => nI (min 80 (ac + 1)))) 103 (fun _ => nI (tk + 1)) := ⟨_, rfl⟩
    rw [← hR_93] at hW
    have Q_93 : r_Q r R_93 K T (p_beg K u) tk nd cc ac (tk + 1) nd cc (min 80 (ac + 1)) := by rw [hR_93]; exact (r_Q.beg (by rw [decide_eq_false e80]; exact Q0) h39 hKT)
    have T_93 := Q_93.tok hTK
    have num_93 := Q_93.2.2
    unfold r_num at num_93
    have bt_93 := Q_93.1.1.2.1
    have bn_93 := Q_93.1.1.2.2.2.1
    have bc_93 := Q_93.1.1.2.2.2.2.2.1
    have ba_93 := Q_93.1.1.2.2.2.2.2.2.2
    have G_93 : p_go K T u (p_beg K u) := (go_beg hKT h39)
    have GG_93 := G_93 hok
    have ok_93 := GG_93.1
    have le_93 := GG_93.2.2.2.1
    have er_93 := GG_93.2.2.2.2
    have h8_93 : (p_beg K u).2.1 ≠ 40 → R_93 108 0 = nI (4 - 4) := fun z => by rw [hR_93]; exact (fun _ => hv8) (le_93 z)
    refine lv_aload_n hx hb dX14_act_93 rfl (lv_at hl 2 rfl) ?_
    refine q_get hx hb hts hown hA hW iX14 rO_0 rfl 18 (by decide) (hts (.fieldLink RX14 42 "HighRecipesModel" "fresh" "LHighRecipesModel$Book;") (by decide +kernel)) (fun _ h9 => h9) (v := .ref (M + 25)) rfl dX14_act_94 ?_
    refine q_getN hx hb hts hown hA hW iX13 rO_25 rfl 5 (by decide) (va_Nw.use rfl (hA.2.2.2.1 ("HighRecipesModel", 218, "HighRecipesModel$Book", "does", "[I", "HighRecipesModel") (by decide +kernel))) (fun _ h9 => h9) (v := .ref (M + 28)) rfl dX14_act_97 ?_
    refine lv_iload_n hx hb dX14_act_100 rfl (lv_at hl 1 rfl) ?_
    refine lv_iload_n hx hb dX14_act_101 rfl (lv_at hl 0 rfl) ?_
    refine q_ast hx hb hA hW hS (rO_28 (g := R_93 28) rfl) ac rfl (by omega) (by decide) dX14_act_102 (fun H locs hW hS => ?_)
    have hW := q_sa 28 hW rfl rfl
    refine lv_aload_n hx hb dX14_act_103 rfl (lv_at hl 2 rfl) ?_
    refine q_get hx hb hts hown hA hW iX14 rO_0 rfl 18 (by decide) (hts (.fieldLink RX14 42 "HighRecipesModel" "fresh" "LHighRecipesModel$Book;") (by decide +kernel)) (fun _ h9 => h9) (v := .ref (M + 25)) rfl dX14_act_104 ?_
    refine q_getN hx hb hts hown hA hW iX13 rO_25 rfl 12 (by decide) (va_Nw.use rfl (hA.2.2.2.1 ("HighRecipesModel", 212, "HighRecipesModel$Book", "next", "[I", "HighRecipesModel") (by decide +kernel))) (fun _ h9 => h9) (v := .ref (M + 35)) rfl dX14_act_107 ?_
    refine lv_iload_n hx hb dX14_act_110 rfl (lv_at hl 1 rfl) ?_
    refine lv_iconst (v := (-1)) hx hb dX14_act_111 (by decide) ?_
    refine q_ast hx hb hA hW hS (rO_35 (g := R_93 35) rfl) ac rfl (by omega) (by decide) dX14_act_112 (fun H locs hW hS => ?_)
    have hW := q_sa 35 hW rfl rfl
    refine lv_aload_n hx hb dX14_act_113 rfl (lv_at hl 2 rfl) ?_
    refine q_get hx hb hts hown hA hW iX14 rO_0 rfl 18 (by decide) (hts (.fieldLink RX14 42 "HighRecipesModel" "fresh" "LHighRecipesModel$Book;") (by decide +kernel)) (fun _ h9 => h9) (v := .ref (M + 25)) rfl dX14_act_114 ?_
    refine q_getN hx hb hts hown hA hW iX13 rO_25 rfl 10 (by decide) (va_Nw.use rfl (hA.2.2.2.1 ("HighRecipesModel", 221, "HighRecipesModel$Book", "block", "[I", "HighRecipesModel") (by decide +kernel))) (fun _ h9 => h9) (v := .ref (M + 33)) rfl dX14_act_117 ?_
    refine lv_iload_n hx hb dX14_act_120 rfl (lv_at hl 1 rfl) ?_
    refine lv_iconst (v := (-1)) hx hb dX14_act_121 (by decide) ?_
    refine q_ast hx hb hA hW hS (rO_33 (g := R_93 33) rfl) ac rfl (by omega) (by decide) dX14_act_122 (fun H locs hW hS => ?_)
    have hW := q_sa 33 hW rfl rfl
    refine lv_aload_n hx hb dX14_act_123 rfl (lv_at hl 2 rfl) ?_
    refine q_get hx hb hts hown hA hW iX14 rO_0 rfl 18 (by decide) (hts (.fieldLink RX14 42 "HighRecipesModel" "fresh" "LHighRecipesModel$Book;") (by decide +kernel)) (fun _ h9 => h9) (v := .ref (M + 25)) rfl dX14_act_124 ?_
    refine q_getN hx hb hts hown hA hW iX13 rO_25 rfl 11 (by decide) (va_Nw.use rfl (hA.2.2.2.1 ("HighRecipesModel", 224, "HighRecipesModel$Book", "other", "[I", "HighRecipesModel") (by decide +kernel))) (fun _ h9 => h9) (v := .ref (M + 34)) rfl dX14_act_127 ?_
    refine lv_iload_n hx hb dX14_act_130 rfl (lv_at hl 1 rfl) ?_
    refine lv_iconst (v := (-1)) hx hb dX14_act_131 (by decide) ?_
    refine q_ast hx hb hA hW hS (rO_34 (g := R_93 34) rfl) ac rfl (by omega) (by decide) dX14_act_132 (fun H locs hW hS => ?_)
    have hW := q_sa 34 hW rfl rfl
    obtain ⟨R_133, hR_133⟩ : ∃ z, z = rp (rp (rp (rp R_93 28 (upd (R_93 28) ac 16)) 35 (upd (R_93 35) ac (-1))) 33 (upd (R_93 33) ac (-1))) 34 (upd (R_93 34) ac (-1)) := ⟨_, rfl⟩
    rw [← hR_133] at hW
    have Q_133 : r_Q r R_133 K T (p_beg K u) tk nd cc ac (tk + 1) nd cc (min 80 (ac + 1)) := by rw [hR_133]; exact ((((Q_93.st (by decide) (by omega)).st (by decide) (by omega)).st (by decide) (by omega)).st (by decide) (by omega))
    have T_133 := Q_133.tok hTK
    have num_133 := Q_133.2.2
    unfold r_num at num_133
    have bt_133 := Q_133.1.1.2.1
    have bn_133 := Q_133.1.1.2.2.2.1
    have bc_133 := Q_133.1.1.2.2.2.2.2.1
    have ba_133 := Q_133.1.1.2.2.2.2.2.2.2
    have y28_133 : True → R_133 28 ac = 16 := fun _ => by rw [hR_133]; exact st_row (r := R_93) (j := 28) (q0 := ac) (x := 16)
    have y35_133 : True → R_133 35 ac = -1 := fun _ => by rw [hR_133]; exact st_row (r := R_93) (j := 35) (q0 := ac) (x := -1)
    have y33_133 : True → R_133 33 ac = -1 := fun _ => by rw [hR_133]; exact st_row (r := R_93) (j := 33) (q0 := ac) (x := -1)
    have y34_133 : True → R_133 34 ac = -1 := fun _ => by rw [hR_133]; exact st_row (r := R_93) (j := 34) (q0 := ac) (x := -1)
    have h8_133 : (p_beg K u).2.1 ≠ 40 → R_133 108 0 = nI (4 - 4) := fun z => by rw [hR_133]; exact h8_93 z
    refine lv_iload_n hx hb dX14_act_133 rfl (lv_at hl 0 rfl) ?_
    refine lv_bipush (v := 15) hx hb dX14_act_134 (by decide) ?_
    refine lv_icmp_ne (tgt := 147) hx hb dX14_act_136 (by decide) (fun c_136 => ?_) (fun c_136 => False.elim ((fun h9 => absurd h9 (by decide)) c_136))
    refine lv_iload_n hx hb dX14_act_147 rfl (lv_at hl 0 rfl) ?_
    refine lv_bipush (v := 16) hx hb dX14_act_148 (by decide) ?_
    refine lv_icmp_ne (tgt := 161) hx hb dX14_act_150 (by decide) (fun c_150 => False.elim ((fun h9 => h9 rfl) c_150)) (fun c_150 => ?_)
    refine lv_aload_n hx hb dX14_act_153 rfl (lv_at hl 2 rfl) ?_
    refine lv_iload_n hx hb dX14_act_154 rfl (lv_at hl 1 rfl) ?_
    refine q_cv (va_runV (As := [.int (nI ac)]) (rest := []) ⟨hx, hb, hml, hown, hts⟩ (kX14_choice l E (rO E f M R_133) n M R_133 K Wd T (p_beg K u) (tk + 1) nd cc (min 80 (ac + 1)) pN pn rN rc ac RS d0 rO_K T_133 hT hKT hK41 Q_133.1 ok_93 (hnm.mv (Q_133.2.1.1 6 (by decide) (by decide) (by decide))) hpn (show R_133 130 0 = nI pn from by rw [hR_133]; exact (show R_93 130 0 = nI pn from by rw [hR_93]; exact hpn9)) (hnr.mv (Q_133.2.1.1 7 (by decide) (by decide) (by decide))) hrc (show R_133 109 0 = nI rc from by rw [hR_133]; exact (show R_93 109 0 = nI rc from by rw [hR_93]; exact hrc9)) (show R_133 108 0 = nI (4 - 4) from by rw [hR_133]; exact (show R_93 108 0 = nI (4 - 4) from by rw [hR_93]; exact hv8)) (by omega) ihB hd6 (show R_133 107 0 = nI (6 - d0) from by rw [hR_133]; exact (show R_93 107 0 = nI (6 - d0) from by rw [hR_93]; exact hv7))) (cwV 1 hts gX14_act_X14_choice rfl rfl rfl (by decide +kernel) ⟨(by show (4 * d0 + 41) + 1 ≤ 4 * d0 + 42; omega), (by show 8 + (6 + 11) + (100 * d0 + 1030) ≤ 100 * d0 + 1060; omega)⟩) (q_pV hA hW hS (ci := 12) rfl rO_0) rfl rfl hl.1 rfl (lv_room (Nat.le_of_ble_eq_true rfl)) dX14_act_155 ⟨Nat.le_of_ble_eq_true rfl, Nat.le_of_ble_eq_true rfl⟩) hS (fun f_155 n_155 H locs hp hW hS => ?_)
    obtain ⟨R_155, tk_155, nd_155, cc_155, ac_155, q_155, e7_155, e8_155, ec_155, ex_155, rfl, rfl⟩ := hp
    have G_155 : p_go K T (p_beg K u) (p_else K (p_blk K Wd pN pn rN rc d0) (p_blk K Wd pN pn rN rc d0 (p_cmps K Wd pN pn 400 (p_beg K u)))) := (((go_cmps hKT 400 _).trans (go_blk hKT d0 _)).trans (go_else hKT (go_blk hKT d0)))
    have GG_155 := G_155 ok_93
    have ok_155 := GG_155.1
    have le_155 := GG_155.2.2.2.1
    have er_155 := GG_155.2.2.2.2
    have Q_155 := Q_133.trans9 q_155 (by omega)
    have T_155 := Q_155.tok hTK
    have num_155 := Q_155.2.2
    unfold r_num at num_155
    have bt_155 := Q_155.1.1.2.1
    have bn_155 := Q_155.1.1.2.2.2.1
    have bc_155 := Q_155.1.1.2.2.2.2.2.1
    have ba_155 := Q_155.1.1.2.2.2.2.2.2.2
    have qn_155 := q_155.2.2
    unfold r_num at qn_155
    have h8_155 : (p_else K (p_blk K Wd pN pn rN rc d0) (p_blk K Wd pN pn rN rc d0 (p_cmps K Wd pN pn 400 (p_beg K u)))).2.1 ≠ 40 → R_155 108 0 = nI (4 - 4) := fun z => (e8_155 z).trans (h8_133 (le_155 z))
    rw [rO_rO] at hW
    have hW : q_W E (rO E f M R_155) n H := hW
    refine lv_goto (tgt := 167) hx hb dX14_act_158 (by decide) ?_
    have eA : p_act K Wd pN pn rN rc (p_blk K Wd pN pn rN rc d0) u = p_else K (p_blk K Wd pN pn rN rc d0) (p_blk K Wd pN pn rN rc d0 (p_cmps K Wd pN pn 400 (p_beg K u))) := by unfold p_act; rw [hw]; rfl
    have eS : p_actS K Wd pN pn rN rc RS (p_blk K Wd pN pn rN rc d0) (p_blkS K Wd pN pn rN rc RS d0) u = k_if (p_cmpsC K Wd pN pn 400 (p_beg K u) (fun _ _ => true)) (p_blkS K Wd pN pn rN rc RS d0 (p_cmps K Wd pN pn 400 (p_beg K u))) (if (p_blk K Wd pN pn rN rc d0 (p_cmps K Wd pN pn 400 (p_beg K u))).2.1 = 18 then p_blkS K Wd pN pn rN rc RS d0 (p_take K 18 (p_blk K Wd pN pn rN rc d0 (p_cmps K Wd pN pn 400 (p_beg K u)))) else k_nil) := by unfold p_actS; rw [hw]; rfl
    have EX : (p_act K Wd pN pn rN rc (p_blk K Wd pN pn rN rc d0) u).2.1 ≠ 40 → (p_act K Wd pN pn rN rc (p_blk K Wd pN pn rN rc d0) u).2.2.1 = 0 → ac < 80 ∧ ac + 1 ≤ ac_155 ∧ R_155 35 ac = -1 ∧ mA (bR R_155 25) pn nd_155 cc_155 ac_155 RS rc (d0 + 1) ac (p_actS K Wd pN pn rN rc RS (p_blk K Wd pN pn rN rc d0) (p_blkS K Wd pN pn rN rc RS d0) u) := by
      intro h1 h2
      rw [eA] at h1 h2
      have k1 := le_155 h1
      have hb9 := beg_ok (er_155 h2)
      have hac8 : ac < 80 := by have z := hnw.2.2.2.2.2; rw [z]; exact Nat.lt_of_le_of_lt (Nat.min_le_right _ _) hb9
      have h0 : ac < min 80 (ac + 1) := Nat.lt_min.mpr ⟨hac8, Nat.lt_succ_self _⟩
      have rr := ex_155.1 h0
      have mm := ex_155.2 h0 h1 h2
      have y35 := rr.1.trans (y35_133 trivial)
      have y28 := rr.2.trans (y28_133 trivial)
      refine ⟨hac8, by omega, y35, by omega, ?_⟩
      rw [eS]
      obtain ⟨mc, m1, m2, m3, m4, ⟨q1, m5⟩, ⟨q2, m6⟩⟩ := mm
      have hd0 : 1 ≤ d0 := by rcases Nat.eq_zero_or_pos d0 with e | e; exact absurd (by rw [e]; unfold p_else; rw [if_neg (by rw [blk_w0]; decide)]; exact blk_w0) h1; exact e
      exact Or.inr (Or.inr (Or.inr (Or.inr (Or.inr (Or.inr (Or.inr (Or.inr (Or.inr (⟨y28, hd0, _, mc, _, q1, _, q2, _, m1, m2, m3, m4, mL_lo m5 (by omega), mL_lo m6 (by omega), rfl⟩)))))))))
    refine lv_iload_n hx hb dX14_act_167 rfl (lv_at hl 1 rfl) ?_
    exact q_iret hx hb hr hlocks hW hS ⟨_, _, _, _, _, (by rw [eA]; exact Q_155), (e7_155.trans (show R_133 107 0 = r 107 0 from by rw [hR_133]; exact (show R_93 107 0 = r 107 0 from by rw [hR_93]; exact rfl))), (fun h1 => by rw [eA] at h1; exact (fun z => (e8_155 z).trans (show R_133 108 0 = r 108 0 from by rw [hR_133]; exact (show R_93 108 0 = r 108 0 from by rw [hR_93]; exact rfl))) h1), trivial, ⟨rfl, EX⟩, rfl, rfl⟩ (Nat.le_of_ble_eq_true rfl) (Nat.le_of_ble_eq_true rfl) dX14_act_168
  · have e80 : ac = 80 := (nI_eq (by omega) (by decide)).1 c_60
    refine lv_aload_n hx hb dX14_act_63 rfl (lv_at hl 2 rfl) ?_
    refine lv_iconst (v := 4) hx hb dX14_act_64 (by decide) ?_
    refine q_cv (va_runV (As := [.int 4]) (rest := []) ⟨hx, hb, hml, hown, hts⟩ (kX14_mark l E (rO E f M r) n M r K Wd T u tk nd cc ac 4 rO_K hTK hT hKT hK41 Q0.1 hok) (cwV 1 hts gX14_act_X14_mark rfl rfl rfl (by decide +kernel) ⟨(by show 0 + 1 ≤ 4 * d0 + 42; omega), (by show 8 + (2 + 11) + 0 ≤ 100 * d0 + 1060; omega)⟩) (q_pV hA hW hS (ci := 12) rfl rO_0) rfl rfl hl.1 rfl (lv_room (Nat.le_of_ble_eq_true rfl)) dX14_act_65 ⟨Nat.le_of_ble_eq_true rfl, Nat.le_of_ble_eq_true rfl⟩) hS (fun f_65 n_65 H locs hp hW hS => ?_)
    obtain ⟨R_65, tk_65, nd_65, cc_65, ac_65, q_65, e7_65, e8_65, ec_65, ex_65, rfl, rfl⟩ := hp
    have G_65 : p_go K T u (p_ci true 4 u) := (go_ci (by decide) (by decide))
    have GG_65 := G_65 hok
    have ok_65 := GG_65.1
    have le_65 := GG_65.2.2.2.1
    have er_65 := GG_65.2.2.2.2
    have Q_65 := Q0.trans q_65
    have T_65 := Q_65.tok hTK
    have num_65 := Q_65.2.2
    unfold r_num at num_65
    have bt_65 := Q_65.1.1.2.1
    have bn_65 := Q_65.1.1.2.2.2.1
    have bc_65 := Q_65.1.1.2.2.2.2.2.1
    have ba_65 := Q_65.1.1.2.2.2.2.2.2.2
    have qn_65 := q_65.2.2
    unfold r_num at qn_65
    have h8_65 : (p_ci true 4 u).2.1 ≠ 40 → R_65 108 0 = nI (4 - 4) := fun z => (e8_65).trans ((fun _ => hv8) (le_65 z))
    rw [rO_rO] at hW
    have hW : q_W E (rO E f M R_65) n H := hW
    have eac9 : ac_65 = ac := (ec_65.2.trans rfl)
    rw [eac9] at Q_65
    refine lv_aload_n hx hb dX14_act_68 rfl (lv_at hl 2 rfl) ?_
    refine q_get hx hb hts hown hA hW iX14 rO_0 rfl 18 (by decide) (hts (.fieldLink RX14 42 "HighRecipesModel" "fresh" "LHighRecipesModel$Book;") (by decide +kernel)) (fun _ h9 => h9) (v := .ref (M + 25)) rfl dX14_act_69 ?_
    refine lv_bipush (v := 80) hx hb dX14_act_72 (by decide) ?_
    refine lv_iload_n hx hb dX14_act_74 rfl (lv_at hl 1 rfl) ?_
    refine lv_iconst (v := 1) hx hb dX14_act_75 (by decide) ?_
    refine lv_iadd hx hb dX14_act_76 ?_
    rw [nI_1]
    refine va_mmin hx hb (hml.trans hl.1.symm) hown (hts (.methodLink RX14 57 Lib.Math.min.name) (by decide +kernel)) (hts (.static Lib.Math.min.name) (by decide +kernel)) (hts (.initialized "java/lang/Math") (by decide +kernel)) (hts (.code Lib.Math.min.name Lib.Math.min.code 2 (some .int)) (by decide +kernel)) (by show 1 ≤ 4 * d0 + 42; omega) (by show 14 ≤ 100 * d0 + 1060; omega) (Nat.le_of_ble_eq_true rfl) (Nat.le_of_ble_eq_true rfl) dX14_act_77 ?_
    rw [show (if nI (ac + 1) < 80 then nI (ac + 1) else 80) = nI (min 80 (ac + 1)) from q_min_n (a := 80) (b := ac + 1) (by decide) (by omega)]
    refine q_putN hx hb hts hown hA hW hS iX13 tyX13 tyX13_ok nmX13 rO_25 rfl 4 (by decide) (va_Nw.use rfl (hA.2.2.2.1 ("HighRecipesModel", 215, "HighRecipesModel$Book", "acts", "I", "HighRecipesModel") (by decide +kernel))) (fun _ h9 => h9) rfl rfl rfl (Nat.le_of_ble_eq_true rfl) dX14_act_80 (fun H locs hW hS => ?_)
    have hW := q_s25 132 (nI (min 80 (ac + 1))) hW rfl (by decide)
    refine lv_aload_n hx hb dX14_act_83 rfl (lv_at hl 2 rfl) ?_
    refine lv_dup hx hb dX14_act_84 rfl ?_
    refine q_get hx hb hts hown hA hW iX14 rO_0 rfl 8 (by decide) (hts (.fieldLink RX14 120 "HighRecipesModel" "token" "I") (by decide +kernel)) (fun _ h9 => h9) (v := .int (nI tk_65)) (congrArg (fun z => some (Value.int z)) Q_65.1.1.1) dX14_act_85 ?_
    refine lv_iconst (v := 1) hx hb dX14_act_88 (by decide) ?_
    refine lv_iadd hx hb dX14_act_89 ?_
    refine q_put hx hb hts hown hA hW hS iX14 tyX14 tyX14_ok nmX14 rO_0 rfl 8 (by decide) (hts (.fieldLink RX14 120 "HighRecipesModel" "token" "I") (by decide +kernel)) (fun _ h9 => h9) rfl rfl rfl (Nat.le_of_ble_eq_true rfl) dX14_act_90 (fun H locs hW hS => ?_)
    rw [show (nI tk_65) + 1 = nI (tk_65 + 1) from nI_1 tk_65] at hW
    have hW := q_s0 103 (nI (tk_65 + 1)) hW rfl (by decide)
    obtain ⟨R_93, hR_93⟩ : ∃ z, z = rp (rp R_65 132 (fun _ => nI (min 80 (ac + 1)))) 103 (fun _ => nI (tk_65 + 1)) := ⟨_, rfl⟩
    rw [← hR_93] at hW
    have Q_93 : r_Q r R_93 K T (p_beg K u) tk nd cc ac (tk_65 + 1) nd_65 cc_65 (min 80 (ac + 1)) := by rw [hR_93]; exact (r_Q.beg (by rw [decide_eq_true e80]; exact Q_65) h39 hKT)
    have T_93 := Q_93.tok hTK
    have num_93 := Q_93.2.2
    unfold r_num at num_93
    have bt_93 := Q_93.1.1.2.1
    have bn_93 := Q_93.1.1.2.2.2.1
    have bc_93 := Q_93.1.1.2.2.2.2.2.1
    have ba_93 := Q_93.1.1.2.2.2.2.2.2.2
    have G_93 : p_go K T u (p_beg K u) := (go_beg hKT h39)
    have GG_93 := G_93 hok
    have ok_93 := GG_93.1
    have le_93 := GG_93.2.2.2.1
    have er_93 := GG_93.2.2.2.2
    have h8_93 : (p_beg K u).2.1 ≠ 40 → R_93 108 0 = nI (4 - 4) := fun z => by rw [hR_93]; exact h8_65 (le_93 z)
    refine lv_aload_n hx hb dX14_act_93 rfl (lv_at hl 2 rfl) ?_
    refine q_get hx hb hts hown hA hW iX14 rO_0 rfl 18 (by decide) (hts (.fieldLink RX14 42 "HighRecipesModel" "fresh" "LHighRecipesModel$Book;") (by decide +kernel)) (fun _ h9 => h9) (v := .ref (M + 25)) rfl dX14_act_94 ?_
    refine q_getN hx hb hts hown hA hW iX13 rO_25 rfl 5 (by decide) (va_Nw.use rfl (hA.2.2.2.1 ("HighRecipesModel", 218, "HighRecipesModel$Book", "does", "[I", "HighRecipesModel") (by decide +kernel))) (fun _ h9 => h9) (v := .ref (M + 28)) rfl dX14_act_97 ?_
    refine lv_iload_n hx hb dX14_act_100 rfl (lv_at hl 1 rfl) ?_
    refine lv_iload_n hx hb dX14_act_101 rfl (lv_at hl 0 rfl) ?_
    refine q_ast hx hb hA hW hS (rO_28 (g := R_93 28) rfl) ac rfl (by omega) (by decide) dX14_act_102 (fun H locs hW hS => ?_)
    have hW := q_sa 28 hW rfl rfl
    refine lv_aload_n hx hb dX14_act_103 rfl (lv_at hl 2 rfl) ?_
    refine q_get hx hb hts hown hA hW iX14 rO_0 rfl 18 (by decide) (hts (.fieldLink RX14 42 "HighRecipesModel" "fresh" "LHighRecipesModel$Book;") (by decide +kernel)) (fun _ h9 => h9) (v := .ref (M + 25)) rfl dX14_act_104 ?_
    refine q_getN hx hb hts hown hA hW iX13 rO_25 rfl 12 (by decide) (va_Nw.use rfl (hA.2.2.2.1 ("HighRecipesModel", 212, "HighRecipesModel$Book", "next", "[I", "HighRecipesModel") (by decide +kernel))) (fun _ h9 => h9) (v := .ref (M + 35)) rfl dX14_act_107 ?_
    refine lv_iload_n hx hb dX14_act_110 rfl (lv_at hl 1 rfl) ?_
    refine lv_iconst (v := (-1)) hx hb dX14_act_111 (by decide) ?_
    refine q_ast hx hb hA hW hS (rO_35 (g := R_93 35) rfl) ac rfl (by omega) (by decide) dX14_act_112 (fun H locs hW hS => ?_)
    have hW := q_sa 35 hW rfl rfl
    refine lv_aload_n hx hb dX14_act_113 rfl (lv_at hl 2 rfl) ?_
    refine q_get hx hb hts hown hA hW iX14 rO_0 rfl 18 (by decide) (hts (.fieldLink RX14 42 "HighRecipesModel" "fresh" "LHighRecipesModel$Book;") (by decide +kernel)) (fun _ h9 => h9) (v := .ref (M + 25)) rfl dX14_act_114 ?_
    refine q_getN hx hb hts hown hA hW iX13 rO_25 rfl 10 (by decide) (va_Nw.use rfl (hA.2.2.2.1 ("HighRecipesModel", 221, "HighRecipesModel$Book", "block", "[I", "HighRecipesModel") (by decide +kernel))) (fun _ h9 => h9) (v := .ref (M + 33)) rfl dX14_act_117 ?_
    refine lv_iload_n hx hb dX14_act_120 rfl (lv_at hl 1 rfl) ?_
    refine lv_iconst (v := (-1)) hx hb dX14_act_121 (by decide) ?_
    refine q_ast hx hb hA hW hS (rO_33 (g := R_93 33) rfl) ac rfl (by omega) (by decide) dX14_act_122 (fun H locs hW hS => ?_)
    have hW := q_sa 33 hW rfl rfl
    refine lv_aload_n hx hb dX14_act_123 rfl (lv_at hl 2 rfl) ?_
    refine q_get hx hb hts hown hA hW iX14 rO_0 rfl 18 (by decide) (hts (.fieldLink RX14 42 "HighRecipesModel" "fresh" "LHighRecipesModel$Book;") (by decide +kernel)) (fun _ h9 => h9) (v := .ref (M + 25)) rfl dX14_act_124 ?_
    refine q_getN hx hb hts hown hA hW iX13 rO_25 rfl 11 (by decide) (va_Nw.use rfl (hA.2.2.2.1 ("HighRecipesModel", 224, "HighRecipesModel$Book", "other", "[I", "HighRecipesModel") (by decide +kernel))) (fun _ h9 => h9) (v := .ref (M + 34)) rfl dX14_act_127 ?_
    refine lv_iload_n hx hb dX14_act_130 rfl (lv_at hl 1 rfl) ?_
    refine lv_iconst (v := (-1)) hx hb dX14_act_131 (by decide) ?_
    refine q_ast hx hb hA hW hS (rO_34 (g := R_93 34) rfl) ac rfl (by omega) (by decide) dX14_act_132 (fun H locs hW hS => ?_)
    have hW := q_sa 34 hW rfl rfl
    obtain ⟨R_133, hR_133⟩ : ∃ z, z = rp (rp (rp (rp R_93 28 (upd (R_93 28) ac 16)) 35 (upd (R_93 35) ac (-1))) 33 (upd (R_93 33) ac (-1))) 34 (upd (R_93 34) ac (-1)) := ⟨_, rfl⟩
    rw [← hR_133] at hW
    have Q_133 : r_Q r R_133 K T (p_beg K u) tk nd cc ac (tk_65 + 1) nd_65 cc_65 (min 80 (ac + 1)) := by rw [hR_133]; exact ((((Q_93.st (by decide) (by omega)).st (by decide) (by omega)).st (by decide) (by omega)).st (by decide) (by omega))
    have T_133 := Q_133.tok hTK
    have num_133 := Q_133.2.2
    unfold r_num at num_133
    have bt_133 := Q_133.1.1.2.1
    have bn_133 := Q_133.1.1.2.2.2.1
    have bc_133 := Q_133.1.1.2.2.2.2.2.1
    have ba_133 := Q_133.1.1.2.2.2.2.2.2.2
    have y28_133 : True → R_133 28 ac = 16 := fun _ => by rw [hR_133]; exact st_row (r := R_93) (j := 28) (q0 := ac) (x := 16)
    have y35_133 : True → R_133 35 ac = -1 := fun _ => by rw [hR_133]; exact st_row (r := R_93) (j := 35) (q0 := ac) (x := -1)
    have y33_133 : True → R_133 33 ac = -1 := fun _ => by rw [hR_133]; exact st_row (r := R_93) (j := 33) (q0 := ac) (x := -1)
    have y34_133 : True → R_133 34 ac = -1 := fun _ => by rw [hR_133]; exact st_row (r := R_93) (j := 34) (q0 := ac) (x := -1)
    have h8_133 : (p_beg K u).2.1 ≠ 40 → R_133 108 0 = nI (4 - 4) := fun z => by rw [hR_133]; exact h8_93 z
    refine lv_iload_n hx hb dX14_act_133 rfl (lv_at hl 0 rfl) ?_
    refine lv_bipush (v := 15) hx hb dX14_act_134 (by decide) ?_
    refine lv_icmp_ne (tgt := 147) hx hb dX14_act_136 (by decide) (fun c_136 => ?_) (fun c_136 => False.elim ((fun h9 => absurd h9 (by decide)) c_136))
    refine lv_iload_n hx hb dX14_act_147 rfl (lv_at hl 0 rfl) ?_
    refine lv_bipush (v := 16) hx hb dX14_act_148 (by decide) ?_
    refine lv_icmp_ne (tgt := 161) hx hb dX14_act_150 (by decide) (fun c_150 => False.elim ((fun h9 => h9 rfl) c_150)) (fun c_150 => ?_)
    refine lv_aload_n hx hb dX14_act_153 rfl (lv_at hl 2 rfl) ?_
    refine lv_iload_n hx hb dX14_act_154 rfl (lv_at hl 1 rfl) ?_
    refine q_cv (va_runV (As := [.int (nI ac)]) (rest := []) ⟨hx, hb, hml, hown, hts⟩ (kX14_choice l E (rO E f M R_133) n M R_133 K Wd T (p_beg K u) (tk_65 + 1) nd_65 cc_65 (min 80 (ac + 1)) pN pn rN rc ac RS d0 rO_K T_133 hT hKT hK41 Q_133.1 ok_93 (hnm.mv (Q_133.2.1.1 6 (by decide) (by decide) (by decide))) hpn (show R_133 130 0 = nI pn from by rw [hR_133]; exact (show R_93 130 0 = nI pn from by rw [hR_93]; exact ((congrFun (q_65.2.1.1 130 (by decide) (by decide) (by decide)) 0).trans hpn9))) (hnr.mv (Q_133.2.1.1 7 (by decide) (by decide) (by decide))) hrc (show R_133 109 0 = nI rc from by rw [hR_133]; exact (show R_93 109 0 = nI rc from by rw [hR_93]; exact ((congrFun (q_65.2.1.1 109 (by decide) (by decide) (by decide)) 0).trans hrc9))) (show R_133 108 0 = nI (4 - 4) from by rw [hR_133]; exact (show R_93 108 0 = nI (4 - 4) from by rw [hR_93]; exact (e8_65.trans hv8))) (by omega) ihB hd6 (show R_133 107 0 = nI (6 - d0) from by rw [hR_133]; exact (show R_93 107 0 = nI (6 - d0) from by rw [hR_93]; exact (e7_65.trans hv7)))) (cwV 1 hts gX14_act_X14_choice rfl rfl rfl (by decide +kernel) ⟨(by show (4 * d0 + 41) + 1 ≤ 4 * d0 + 42; omega), (by show 8 + (6 + 11) + (100 * d0 + 1030) ≤ 100 * d0 + 1060; omega)⟩) (q_pV hA hW hS (ci := 12) rfl rO_0) rfl rfl hl.1 rfl (lv_room (Nat.le_of_ble_eq_true rfl)) dX14_act_155 ⟨Nat.le_of_ble_eq_true rfl, Nat.le_of_ble_eq_true rfl⟩) hS (fun f_155 n_155 H locs hp hW hS => ?_)
    obtain ⟨R_155, tk_155, nd_155, cc_155, ac_155, q_155, e7_155, e8_155, ec_155, ex_155, rfl, rfl⟩ := hp
    have G_155 : p_go K T (p_beg K u) (p_else K (p_blk K Wd pN pn rN rc d0) (p_blk K Wd pN pn rN rc d0 (p_cmps K Wd pN pn 400 (p_beg K u)))) := (((go_cmps hKT 400 _).trans (go_blk hKT d0 _)).trans (go_else hKT (go_blk hKT d0)))
    have GG_155 := G_155 ok_93
    have ok_155 := GG_155.1
    have le_155 := GG_155.2.2.2.1
    have er_155 := GG_155.2.2.2.2
    have Q_155 := Q_133.trans9 q_155 (by omega)
    have T_155 := Q_155.tok hTK
    have num_155 := Q_155.2.2
    unfold r_num at num_155
    have bt_155 := Q_155.1.1.2.1
    have bn_155 := Q_155.1.1.2.2.2.1
    have bc_155 := Q_155.1.1.2.2.2.2.2.1
    have ba_155 := Q_155.1.1.2.2.2.2.2.2.2
    have qn_155 := q_155.2.2
    unfold r_num at qn_155
    have h8_155 : (p_else K (p_blk K Wd pN pn rN rc d0) (p_blk K Wd pN pn rN rc d0 (p_cmps K Wd pN pn 400 (p_beg K u)))).2.1 ≠ 40 → R_155 108 0 = nI (4 - 4) := fun z => (e8_155 z).trans (h8_133 (le_155 z))
    rw [rO_rO] at hW
    have hW : q_W E (rO E f M R_155) n H := hW
    refine lv_goto (tgt := 167) hx hb dX14_act_158 (by decide) ?_
    have eA : p_act K Wd pN pn rN rc (p_blk K Wd pN pn rN rc d0) u = p_else K (p_blk K Wd pN pn rN rc d0) (p_blk K Wd pN pn rN rc d0 (p_cmps K Wd pN pn 400 (p_beg K u))) := by unfold p_act; rw [hw]; rfl
    have eS : p_actS K Wd pN pn rN rc RS (p_blk K Wd pN pn rN rc d0) (p_blkS K Wd pN pn rN rc RS d0) u = k_if (p_cmpsC K Wd pN pn 400 (p_beg K u) (fun _ _ => true)) (p_blkS K Wd pN pn rN rc RS d0 (p_cmps K Wd pN pn 400 (p_beg K u))) (if (p_blk K Wd pN pn rN rc d0 (p_cmps K Wd pN pn 400 (p_beg K u))).2.1 = 18 then p_blkS K Wd pN pn rN rc RS d0 (p_take K 18 (p_blk K Wd pN pn rN rc d0 (p_cmps K Wd pN pn 400 (p_beg K u)))) else k_nil) := by unfold p_actS; rw [hw]; rfl
    have EX : (p_act K Wd pN pn rN rc (p_blk K Wd pN pn rN rc d0) u).2.1 ≠ 40 → (p_act K Wd pN pn rN rc (p_blk K Wd pN pn rN rc d0) u).2.2.1 = 0 → ac < 80 ∧ ac + 1 ≤ ac_155 ∧ R_155 35 ac = -1 ∧ mA (bR R_155 25) pn nd_155 cc_155 ac_155 RS rc (d0 + 1) ac (p_actS K Wd pN pn rN rc RS (p_blk K Wd pN pn rN rc d0) (p_blkS K Wd pN pn rN rc RS d0) u) := by
      intro h1 h2
      rw [eA] at h1 h2
      have k1 := le_155 h1
      have hb9 := beg_ok (er_155 h2)
      have hac8 : ac < 80 := by have z := hnw.2.2.2.2.2; rw [z]; exact Nat.lt_of_le_of_lt (Nat.min_le_right _ _) hb9
      have h0 : ac < min 80 (ac + 1) := Nat.lt_min.mpr ⟨hac8, Nat.lt_succ_self _⟩
      have rr := ex_155.1 h0
      have mm := ex_155.2 h0 h1 h2
      have y35 := rr.1.trans (y35_133 trivial)
      have y28 := rr.2.trans (y28_133 trivial)
      refine ⟨hac8, by omega, y35, by omega, ?_⟩
      rw [eS]
      obtain ⟨mc, m1, m2, m3, m4, ⟨q1, m5⟩, ⟨q2, m6⟩⟩ := mm
      have hd0 : 1 ≤ d0 := by rcases Nat.eq_zero_or_pos d0 with e | e; exact absurd (by rw [e]; unfold p_else; rw [if_neg (by rw [blk_w0]; decide)]; exact blk_w0) h1; exact e
      exact Or.inr (Or.inr (Or.inr (Or.inr (Or.inr (Or.inr (Or.inr (Or.inr (Or.inr (⟨y28, hd0, _, mc, _, q1, _, q2, _, m1, m2, m3, m4, mL_lo m5 (by omega), mL_lo m6 (by omega), rfl⟩)))))))))
    refine lv_iload_n hx hb dX14_act_167 rfl (lv_at hl 1 rfl) ?_
    exact q_iret hx hb hr hlocks hW hS ⟨_, _, _, _, _, (by rw [eA]; exact Q_155), (e7_155.trans (show R_133 107 0 = r 107 0 from by rw [hR_133]; exact (show R_93 107 0 = r 107 0 from by rw [hR_93]; exact (e7_65.trans rfl)))), (fun h1 => by rw [eA] at h1; exact (fun z => (e8_155 z).trans (show R_133 108 0 = r 108 0 from by rw [hR_133]; exact (show R_93 108 0 = r 108 0 from by rw [hR_93]; exact (e8_65.trans rfl)))) h1), trivial, ⟨rfl, EX⟩, rfl, rfl⟩ (Nat.le_of_ble_eq_true rfl) (Nat.le_of_ble_eq_true rfl) dX14_act_168

theorem kX14_act_A (l : Launch) (E : q_E) (f : q_H) (n : Nat) (M : Nat) (r : q_R) (K : Nat → Nat) (Wd : Nat → Int64) (T : Nat) (u : p_S) (tk nd cc ac : Nat) (pN : Nat → Int64) (pn : Nat) (rN : Nat → Int64) (rc : Nat) (RS : Nat → q_S) (d0 : Nat)  (hm : RM E f M r) (hTK : r_T r K Wd T) (hT : T ≤ 400) (hKT : 39 ≤ K T) (hK41 : ∀ j, K j < 41) (hP : r_P r K T u tk nd cc ac) (hok : p_ok K T u) (hnm : r_nm r K Wd T 6 pn pN) (hpn : pn ≤ 8) (hpn9 : r 130 0 = nI pn) (hnr : r_nm r K Wd T 7 rc rN) (hrc : rc ≤ 6) (hrc9 : r 109 0 = nI rc) (hv8 : r 108 0 = nI (4 - 4)) (ihB : RBLK l E RS d0) (hd6 : d0 + 1 ≤ 6) (hv7 : r 107 0 = nI (6 - d0)) (hact : b_act u.2.1 = true) : Met l yX14_act wsX14_act ({ frames := 4 * d0 + 42, cells := 0, slots := 0, locals := 100 * d0 + 1060 }) (q_P E [.ref M] f n) (q_Qi E (fun r0 f1 n1 => ∃ (r1 : q_R) (tk1 nd1 cc1 ac1 : Nat), r_Q r r1 K T ((p_act K Wd pN pn rN rc (p_blk K Wd pN pn rN rc d0) u)) tk nd cc ac tk1 nd1 cc1 ac1 ∧ r1 107 0 = r 107 0 ∧ (((p_act K Wd pN pn rN rc (p_blk K Wd pN pn rN rc d0) u)).2.1 ≠ 40 → r1 108 0 = r 108 0) ∧ (True) ∧ (nI ac = r0 ∧ ((p_act K Wd pN pn rN rc (p_blk K Wd pN pn rN rc d0) u).2.1 ≠ 40 → (p_act K Wd pN pn rN rc (p_blk K Wd pN pn rN rc d0) u).2.2.1 = 0 → ac < 80 ∧ ac + 1 ≤ ac1 ∧ r1 35 ac = -1 ∧ mA (bR r1 25) pn nd1 cc1 ac1 RS rc (d0 + 1) ac (p_actS K Wd pN pn rN rc RS (p_blk K Wd pN pn rN rc d0) (p_blkS K Wd pN pn rN rc RS d0) u))) ∧ rO E f M r1 = f1 ∧ n = n1)) 0 0 (q_ge E) := by
  have h9 : u.2.1 = 3 ∨ u.2.1 = 7 ∨ u.2.1 = 9 ∨ u.2.1 = 11 ∨ u.2.1 = 12 ∨ u.2.1 = 13 ∨ u.2.1 = 14 ∨ u.2.1 = 15 ∨ u.2.1 = 16 := by simpa [b_act, or_assoc] using hact
  rcases h9 with h | h | h | h | h | h | h | h | h
  · exact kX14_act_3 l E f n M r K Wd T u tk nd cc ac pN pn rN rc RS d0 hm hTK hT hKT hK41 hP hok hnm hpn hpn9 hnr hrc hrc9 hv8 ihB hd6 hv7 h
  · exact kX14_act_7 l E f n M r K Wd T u tk nd cc ac pN pn rN rc RS d0 hm hTK hT hKT hK41 hP hok hnm hpn hpn9 hnr hrc hrc9 hv8 ihB hd6 hv7 h
  · exact kX14_act_9 l E f n M r K Wd T u tk nd cc ac pN pn rN rc RS d0 hm hTK hT hKT hK41 hP hok hnm hpn hpn9 hnr hrc hrc9 hv8 ihB hd6 hv7 h
  · exact kX14_act_11 l E f n M r K Wd T u tk nd cc ac pN pn rN rc RS d0 hm hTK hT hKT hK41 hP hok hnm hpn hpn9 hnr hrc hrc9 hv8 ihB hd6 hv7 h
  · exact kX14_act_12 l E f n M r K Wd T u tk nd cc ac pN pn rN rc RS d0 hm hTK hT hKT hK41 hP hok hnm hpn hpn9 hnr hrc hrc9 hv8 ihB hd6 hv7 h
  · exact kX14_act_13 l E f n M r K Wd T u tk nd cc ac pN pn rN rc RS d0 hm hTK hT hKT hK41 hP hok hnm hpn hpn9 hnr hrc hrc9 hv8 ihB hd6 hv7 h
  · exact kX14_act_14 l E f n M r K Wd T u tk nd cc ac pN pn rN rc RS d0 hm hTK hT hKT hK41 hP hok hnm hpn hpn9 hnr hrc hrc9 hv8 ihB hd6 hv7 h
  · exact kX14_act_15 l E f n M r K Wd T u tk nd cc ac pN pn rN rc RS d0 hm hTK hT hKT hK41 hP hok hnm hpn hpn9 hnr hrc hrc9 hv8 ihB hd6 hv7 h
  · exact kX14_act_16 l E f n M r K Wd T u tk nd cc ac pN pn rN rc RS d0 hm hTK hT hKT hK41 hP hok hnm hpn hpn9 hnr hrc hrc9 hv8 ihB hd6 hv7 h
