/-! a value, whole -/
section PVL
variable {K : Nat → Nat} {Wd pN : Nat → Int64} {pn d : Nat} {u : p_S}
theorem val_38 (h : u.2.1 = 38) : p_val K Wd pN pn d u = p_take K 38 (p_new u) := by
  cases d with
  | zero => exact if_pos h
  | succ d => exact if_pos h
theorem valD_38 (h : u.2.1 = 38) : p_valD K Wd pN pn d u = fun _ _ => (Wd u.1).toInt32 := by
  cases d with
  | zero => exact if_pos h
  | succ d => exact if_pos h
theorem val_cont (h0 : ¬ u.2.1 = 38) (h : b_cont u.2.1 = true) : p_val K Wd pN pn d u = p_known K Wd pN pn (p_take K 24 (p_step K true (p_new u))) := by
  cases d with
  | zero => exact (if_neg h0).trans (if_pos h)
  | succ d => exact (if_neg h0).trans (if_pos h)
theorem valD_cont (h0 : ¬ u.2.1 = 38) (h : b_cont u.2.1 = true) : p_valD K Wd pN pn d u = d_cont u.2.1 (ix pN pn (Wd (p_take K 24 (p_step K true (p_new u))).1)).toNatClampNeg := by
  cases d with
  | zero => exact (if_neg h0).trans (if_pos h)
  | succ d => exact (if_neg h0).trans (if_pos h)
theorem val_else (h0 : ¬ u.2.1 = 38) (h : ¬ b_cont u.2.1 = true) (h27 : ¬ u.2.1 = 27) : p_val K Wd pN pn d u = p_step K (b_meas u.2.1) (p_new u) := by
  cases d with
  | zero => exact ((if_neg h0).trans (if_neg h)).trans (if_neg (fun z => h27 z.1))
  | succ d => exact ((if_neg h0).trans (if_neg h)).trans (if_neg (fun z => h27 z.1))
theorem valD_else (h0 : ¬ u.2.1 = 38) (h : ¬ b_cont u.2.1 = true) (h27 : ¬ u.2.1 = 27) : p_valD K Wd pN pn d u = d_meas u.2.1 := by
  cases d with
  | zero => exact ((if_neg h0).trans (if_neg h)).trans (if_neg (fun z => h27 z.1))
  | succ d => exact ((if_neg h0).trans (if_neg h)).trans (if_neg (fun z => h27 z.1))
theorem val_27_0 (h : u.2.1 = 27) : p_val K Wd pN pn 0 u = p_step K false (p_new u) := by
  refine ((if_neg (by omega)).trans (if_neg (by rw [h]; decide))).trans ((if_neg (fun z => by cases z.2)).trans ?_)
  rw [show (b_meas u.2.1) = false from by rw [h]; rfl]
theorem val_27 (h : u.2.1 = 27) : p_val K Wd pN pn (d + 1) u = p_take K 28 (p_val K Wd pN pn d (p_mid K (p_val K Wd pN pn d (p_take K 27 (p_new u))))) := ((if_neg (by omega)).trans (if_neg (by rw [h]; decide))).trans (if_pos ⟨h, rfl⟩)
theorem valD_27 (h : u.2.1 = 27) : p_valD K Wd pN pn (d + 1) u = fun hd v => d_bin (p_val K Wd pN pn d (p_take K 27 (p_new u))).2.1 (p_valD K Wd pN pn d (p_take K 27 (p_new u)) hd v) (p_valD K Wd pN pn d (p_mid K (p_val K Wd pN pn d (p_take K 27 (p_new u)))) hd v) := ((if_neg (by omega)).trans (if_neg (by rw [h]; decide))).trans (if_pos ⟨h, rfl⟩)
theorem meas_of {w : Nat} (h : u.2.1 = w) (hw : b_meas w = true) : b_meas u.2.1 = true ∧ ¬ u.2.1 = 38 ∧ ¬ b_cont u.2.1 = true ∧ ¬ u.2.1 = 27 := by
  have z := b_meas_lt hw
  rw [h]
  refine ⟨hw, by omega, fun h9 => ?_, by omega⟩
  have := (b_cont_lt h9).2
  omega
end PVL

set_option maxHeartbeats 4000000 in
set_option maxRecDepth 100000 in
theorem kX14_value (l : Launch) (E : q_E) (f : q_H) (n : Nat) (M : Nat) (r : q_R) (K : Nat → Nat) (Wd : Nat → Int64) (T : Nat) (u : p_S) (tk nd cc ac : Nat) (pN : Nat → Int64) (pn : Nat) (d : Nat)  (hm : RM E f M r) (hTK : r_T r K Wd T) (hT : T ≤ 400) (hKT : 39 ≤ K T) (hK41 : ∀ j, K j < 41) (hP : r_P r K T u tk nd cc ac) (hok : p_ok K T u) (hnm : r_nm r K Wd T 6 pn pN) (hpn : pn ≤ 8) (hpn9 : r 130 0 = nI pn) (hv8 : r 108 0 = nI (4 - d)) (hd4 : d ≤ 4) (ihB : ∀ d1, d = d1 + 1 → RVAL l E d1) (ihI : u.2.1 = 27 → ∀ (f : q_H) (n M : Nat) (r : q_R) (tk nd cc ac : Nat), RM E f M r → r_T r K Wd T → r_P r K T u tk nd cc ac → r_nm r K Wd T 6 pn pN → r 130 0 = nI pn → r 108 0 = nI (4 - d) → Met l yX14_inBrackets wsX14_inBrackets ({ frames := 4 * d + 11, cells := 0, slots := 0, locals := 100 * d + 270 }) (q_P E [.ref M] f n) (q_Qi E (fun r0 f1 n1 => ∃ (r1 : q_R) (tk1 nd1 cc1 ac1 : Nat), r_Q r r1 K T (p_val K Wd pN pn d u) tk nd cc ac tk1 nd1 cc1 ac1 ∧ r1 107 0 = r 107 0 ∧ ((p_val K Wd pN pn d u).2.1 ≠ 40 → r1 108 0 = r 108 0) ∧ (cc1 = cc ∧ ac1 = ac) ∧ ((p_val K Wd pN pn d u).2.1 ≠ 40 → (p_val K Wd pN pn d u).2.2.1 = 0 → ∃ a, r0 = nI a ∧ mV (bR r1 25) pn nd1 (d + 1) a (p_valD K Wd pN pn d u)) ∧ rO E f M r1 = f1 ∧ n = n1)) 0 0 (q_ge E)) : Met l yX14_value wsX14_value ({ frames := 4 * d + 12, cells := 0, slots := 0, locals := 100 * d + 300 }) (q_P E [.ref M] f n) (q_Qi E (fun r0 f1 n1 => ∃ (r1 : q_R) (tk1 nd1 cc1 ac1 : Nat), r_Q r r1 K T (p_val K Wd pN pn d u) tk nd cc ac tk1 nd1 cc1 ac1 ∧ r1 107 0 = r 107 0 ∧ ((p_val K Wd pN pn d u).2.1 ≠ 40 → r1 108 0 = r 108 0) ∧ (cc1 = cc ∧ ac1 = ac) ∧ (((p_val K Wd pN pn d u).2.1 ≠ 40 → (p_val K Wd pN pn d u).2.2.1 = 0 → ∃ a, r0 = nI a ∧ mV (bR r1 25) pn nd1 (d + 1) a (p_valD K Wd pN pn d u))) ∧ rO E f M r1 = f1 ∧ n = n1)) 0 0 (q_ge E) := by
  refine Met.ofW (cc := cX14_value) (maxL := 2) (ret := (some .int)) (by decide) rfl ?_
  intro p e s m args below meth c s₁ B hml hv
  obtain ⟨rfl, hA, hW⟩ := hv
  have hx := B.exec
  have hb := B.bytes
  have hr := B.returns
  have hts := atoms_spec (ws := wsX14_value) B.pre
  have hown : s.vm.findClass RX14 = some m.cls := findClass_of_methodNamed B.named
  have hlocks := B.notSynchronized
  have hS : va_S (q_ge E) s.heap s.heap [] := va_S.rf
  have iX14 : ∀ w ∈ wsX140, w ∈ wsX14_value := by decide +kernel
  have hl := lv_entry ([.ref M]) (n := 2) (Nat.le_of_ble_eq_true rfl)
  rw [lg_entry_eq]
  generalize (lg_sl ([.ref M]) ++ List.replicate (2 - (lg_sl ([.ref M])).length) Slot.unset).toArray = ls at hl ⊢
  have hl : lv_has ls 2 [(0, .ref M)] := hl
  have hmE := hm.eq
  rw [hm.eq] at hW
  have Q0 := r_Q.rf hP
  have htk := hP.1.2.1
  have hnd := hP.1.2.2.2.1
  have hcc := hP.1.2.2.2.2.2.1
  have hac := hP.1.2.2.2.2.2.2.2
  have Q0n : r_Q r r K T (p_new u) tk nd cc ac tk nd cc ac := Q0
  have okn := hok.new
  refine lv_aload_n hx hb dX14_value_0 rfl (lv_at hl 0 rfl) ?_
  refine lv_bipush (v := 41) hx hb dX14_value_1 (by decide) ?_
  refine q_ci (va_runV (As := [.int 41]) (rest := []) ⟨hx, hb, hml, hown, hts⟩ (kX14_is l E (rO E f M r) n M r K Wd T (p_new u) tk nd cc ac 38 41 rO_K hTK hT hKT hK41 Q0n.1 okn rfl (by decide)) (cwV 1 hts gX14_value_X14_is rfl rfl rfl (by decide +kernel) ⟨(by show 0 + 1 ≤ 4 * d + 12; omega), (by show 8 + (2 + 11) + 0 ≤ 100 * d + 300; omega)⟩) (q_pV hA hW hS (ci := 12) rfl rO_0) rfl rfl hl.1 rfl (lv_room (Nat.le_of_ble_eq_true rfl)) dX14_value_3 ⟨Nat.le_of_ble_eq_true rfl, Nat.le_of_ble_eq_true rfl⟩) hS (fun r_3 f_3 n_3 H locs hp hW hS => ?_)
  obtain ⟨rfl, rfl, rfl⟩ := hp
  have hW : q_W E (rO E f M r) n H := hW
  refine lv_if_eq (tgt := 38) hx hb dX14_value_6 (by decide) (fun c_6 => ?_) (fun c_6 => ?_)
  · have e38 : ¬ u.2.1 = 38 := of_decide_eq_false (b01_0 c_6)
    refine lv_bipush (v := 19) hx hb dX14_value_38 (by decide) ?_
    refine lv_istore_n (lv' := [(1, .int 19), (0, .ref M)]) hx hb dX14_value_40 rfl hl (by decide) rfl (fun ls hl => ?_)
    refine lv_iload_n hx hb dX14_value_41 rfl (lv_at hl 0 rfl) ?_
    refine lv_bipush (v := 23) hx hb dX14_value_42 (by decide) ?_
    refine lv_icmp_gt (tgt := 69) hx hb dX14_value_44 (by decide) (fun c_44 => False.elim ((fun h9 => absurd h9 (by decide)) c_44)) (fun c_44 => ?_)
    refine lv_aload_n hx hb dX14_value_47 rfl (lv_at hl 1 rfl) ?_
    refine lv_iload_n hx hb dX14_value_48 rfl (lv_at hl 0 rfl) ?_
    rcases Decidable.em (u.2.1 = 19) with eu19 | eu19
    · refine q_ci (va_runV (As := [.int 19]) (rest := []) ⟨hx, hb, hml, hown, hts⟩ (kX14_takesT l E (rO E f M r) n M r K Wd T (p_new u) tk nd cc ac 19 19 rO_K hTK hT hKT hK41 Q0n.1 okn rfl (by decide) eu19) (cwV 1 hts gX14_value_X14_takes rfl rfl rfl (by decide +kernel) ⟨(by show 1 + 1 ≤ 4 * d + 12; omega), (by show 8 + (2 + 11) + 21 ≤ 100 * d + 300; omega)⟩) (q_pV hA hW hS (ci := 12) rfl rO_0) rfl rfl hl.1 rfl (lv_room (Nat.le_of_ble_eq_true rfl)) dX14_value_49 ⟨Nat.le_of_ble_eq_true rfl, Nat.le_of_ble_eq_true rfl⟩) hS (fun r_49 f_49 n_49 H locs hp hW hS => ?_)
      obtain ⟨R_49, tk_49, nd_49, cc_49, ac_49, q_49, e7_49, e8_49, ec_49, ex_49, rfl, rfl⟩ := hp
      have G_49 : p_go K T (p_new u) (p_step K true (p_new u)) := (go_step hKT (fun _ => by show u.2.1 < 39; omega))
      have GG_49 := G_49 okn
      have ok_49 := GG_49.1
      have le_49 := GG_49.2.2.2.1
      have er_49 := GG_49.2.2.2.2
      have Q_49 := Q0n.trans q_49
      have T_49 := Q_49.tok hTK
      have num_49 := Q_49.2.2
      unfold r_num at num_49
      have bt_49 := Q_49.1.1.2.1
      have bn_49 := Q_49.1.1.2.2.2.1
      have bc_49 := Q_49.1.1.2.2.2.2.2.1
      have ba_49 := Q_49.1.1.2.2.2.2.2.2.2
      have qn_49 := q_49.2.2
      unfold r_num at qn_49
      obtain ⟨ex_49, ey_49⟩ := ex_49
      subst ey_49
      rw [rO_rO] at hW
      have hW : q_W E (rO E f M R_49) n H := hW
      refine lv_if_eq (tgt := 63) hx hb dX14_value_52 (by decide) (fun c_52 => False.elim ((fun h9 => absurd h9 (by decide)) c_52)) (fun c_52 => ?_)
      refine lv_aload_n hx hb dX14_value_55 rfl (lv_at hl 1 rfl) ?_
      refine lv_iload_n hx hb dX14_value_56 rfl (lv_at hl 0 rfl) ?_
      refine lv_iconst (v := 0) hx hb dX14_value_57 (by decide) ?_
      refine lv_iconst (v := 0) hx hb dX14_value_58 (by decide) ?_
      refine q_ci (va_runV (As := [.int 19, .int 0, .int 0]) (rest := []) ⟨hx, hb, hml, hown, hts⟩ (kX14_node l E (rO E f M R_49) n M R_49 nd_49 19 0 0 rO_K Q_49.1.1.2.2.1 (by omega)) (cwV 3 hts gX14_value_X14_node rfl rfl rfl (by decide +kernel) ⟨(by show 0 + 1 ≤ 4 * d + 12; omega), (by show 8 + (5 + 11) + 0 ≤ 100 * d + 300; omega)⟩) (q_pV hA hW hS (ci := 12) rfl rO_0) rfl rfl hl.1 rfl (lv_room (Nat.le_of_ble_eq_true rfl)) dX14_value_59 ⟨Nat.le_of_ble_eq_true rfl, Nat.le_of_ble_eq_true rfl⟩) hS (fun r_59 f_59 n_59 H locs hp hW hS => ?_)
      obtain ⟨rfl, rfl, rfl⟩ := hp
      have hW : q_W E (rO E f M (rp (rp (rp (rp R_49 39 (upd (R_49 39) nd_49 19)) 40 (upd (R_49 40) nd_49 0)) 41 (upd (R_49 41) nd_49 0)) 134 (fun _ => nI (nd_49 + 1)))) n H := by rw [rO_rO] at hW; exact hW
      have hW : q_W E (rO E f M (rp (rp (rp (rp R_49 39 (upd (R_49 39) nd_49 19)) 40 (upd (R_49 40) nd_49 0)) 41 (upd (R_49 41) nd_49 0)) 134 (fun _ => nI (nd_49 + 1)))) n H := hW
      obtain ⟨R_62, hR_62⟩ : ∃ z, z = rp (rp (rp (rp R_49 39 (upd (R_49 39) nd_49 19)) 40 (upd (R_49 40) nd_49 0)) 41 (upd (R_49 41) nd_49 0)) 134 (fun _ => nI (nd_49 + 1)) := ⟨_, rfl⟩
      rw [← hR_62] at hW
      have Q_62 : r_Q r R_62 K T (p_step K true (p_new u)) tk nd cc ac tk_49 (nd_49 + 1) cc_49 ac_49 := by rw [hR_62]; exact (Q_49.node (by omega) hnd)
      have T_62 := Q_62.tok hTK
      have num_62 := Q_62.2.2
      unfold r_num at num_62
      have bt_62 := Q_62.1.1.2.1
      have bn_62 := Q_62.1.1.2.2.2.1
      have bc_62 := Q_62.1.1.2.2.2.2.2.1
      have ba_62 := Q_62.1.1.2.2.2.2.2.2.2
      have z39_62 : R_62 39 nd_49 = 19 := by rw [hR_62]; exact node_rows.1
      have z40_62 : R_62 40 nd_49 = 0 := by rw [hR_62]; exact node_rows.2.1
      have z41_62 : R_62 41 nd_49 = 0 := by rw [hR_62]; exact node_rows.2.2
      exact q_iret hx hb hr hlocks hW hS ⟨_, _, _, _, _, (by rw [val_else (meas_of eu19 rfl).2.1 (meas_of eu19 rfl).2.2.1 (meas_of eu19 rfl).2.2.2, (meas_of eu19 rfl).1]; exact Q_62), (show R_62 107 0 = r 107 0 from by rw [hR_62]; exact (e7_49.trans rfl)), (fun _ => (show R_62 108 0 = r 108 0 from by rw [hR_62]; exact (e8_49.trans rfl))), ⟨(ec_49.1.trans rfl), (ec_49.2.trans rfl)⟩, (fun h1 h2 => ⟨nd_49, rfl, by omega, 19, z39_62, Or.inr (Or.inl ⟨by decide, by decide, by rw [valD_else (meas_of eu19 rfl).2.1 (meas_of eu19 rfl).2.2.1 (meas_of eu19 rfl).2.2.2, eu19]⟩)⟩), rfl, rfl⟩ (Nat.le_of_ble_eq_true rfl) (Nat.le_of_ble_eq_true rfl) dX14_value_62
    · refine q_ci (va_runV (As := [.int 19]) (rest := []) ⟨hx, hb, hml, hown, hts⟩ (kX14_takesF l E (rO E f M r) n M r K Wd T (p_new u) tk nd cc ac 19 19 rO_K hTK hT hKT hK41 Q0n.1 okn rfl (by decide) eu19) (cwV 1 hts gX14_value_X14_takes rfl rfl rfl (by decide +kernel) ⟨(by show 1 + 1 ≤ 4 * d + 12; omega), (by show 8 + (2 + 11) + 21 ≤ 100 * d + 300; omega)⟩) (q_pV hA hW hS (ci := 12) rfl rO_0) rfl rfl hl.1 rfl (lv_room (Nat.le_of_ble_eq_true rfl)) dX14_value_49 ⟨Nat.le_of_ble_eq_true rfl, Nat.le_of_ble_eq_true rfl⟩) hS (fun r_49 f_49 n_49 H locs hp hW hS => ?_)
      obtain ⟨rfl, rfl, rfl⟩ := hp
      have hW : q_W E (rO E f M r) n H := hW
      refine lv_if_eq (tgt := 63) hx hb dX14_value_52 (by decide) (fun c_52 => ?_) (fun c_52 => False.elim ((fun h9 => h9 rfl) c_52))
      refine lv_iinc (v := 20) (lv' := [(1, .int 20), (0, .ref M)]) hx hb dX14_value_63 hl (k := 0) rfl rfl (by decide) rfl (fun ls hl => ?_)
      refine lv_goto (tgt := 41) hx hb dX14_value_66 (by decide) ?_
      refine lv_iload_n hx hb dX14_value_41 rfl (lv_at hl 0 rfl) ?_
      refine lv_bipush (v := 23) hx hb dX14_value_42 (by decide) ?_
      refine lv_icmp_gt (tgt := 69) hx hb dX14_value_44 (by decide) (fun c_44 => False.elim ((fun h9 => absurd h9 (by decide)) c_44)) (fun c_44 => ?_)
      refine lv_aload_n hx hb dX14_value_47 rfl (lv_at hl 1 rfl) ?_
      refine lv_iload_n hx hb dX14_value_48 rfl (lv_at hl 0 rfl) ?_
      rcases Decidable.em (u.2.1 = 20) with eu20 | eu20
      · refine q_ci (va_runV (As := [.int 20]) (rest := []) ⟨hx, hb, hml, hown, hts⟩ (kX14_takesT l E (rO E f M r) n M r K Wd T (p_new u) tk nd cc ac 20 20 rO_K hTK hT hKT hK41 Q0n.1 okn rfl (by decide) eu20) (cwV 1 hts gX14_value_X14_takes rfl rfl rfl (by decide +kernel) ⟨(by show 1 + 1 ≤ 4 * d + 12; omega), (by show 8 + (2 + 11) + 21 ≤ 100 * d + 300; omega)⟩) (q_pV hA hW hS (ci := 12) rfl rO_0) rfl rfl hl.1 rfl (lv_room (Nat.le_of_ble_eq_true rfl)) dX14_value_49 ⟨Nat.le_of_ble_eq_true rfl, Nat.le_of_ble_eq_true rfl⟩) hS (fun r_49 f_49 n_49 H locs hp hW hS => ?_)
        obtain ⟨R_49, tk_49, nd_49, cc_49, ac_49, q_49, e7_49, e8_49, ec_49, ex_49, rfl, rfl⟩ := hp
        have G_49 : p_go K T (p_new u) (p_step K true (p_new u)) := (go_step hKT (fun _ => by show u.2.1 < 39; omega))
        have GG_49 := G_49 okn
        have ok_49 := GG_49.1
        have le_49 := GG_49.2.2.2.1
        have er_49 := GG_49.2.2.2.2
        have Q_49 := Q0n.trans q_49
        have T_49 := Q_49.tok hTK
        have num_49 := Q_49.2.2
        unfold r_num at num_49
        have bt_49 := Q_49.1.1.2.1
        have bn_49 := Q_49.1.1.2.2.2.1
        have bc_49 := Q_49.1.1.2.2.2.2.2.1
        have ba_49 := Q_49.1.1.2.2.2.2.2.2.2
        have qn_49 := q_49.2.2
        unfold r_num at qn_49
        obtain ⟨ex_49, ey_49⟩ := ex_49
        subst ey_49
        rw [rO_rO] at hW
        have hW : q_W E (rO E f M R_49) n H := hW
        refine lv_if_eq (tgt := 63) hx hb dX14_value_52 (by decide) (fun c_52 => False.elim ((fun h9 => absurd h9 (by decide)) c_52)) (fun c_52 => ?_)
        refine lv_aload_n hx hb dX14_value_55 rfl (lv_at hl 1 rfl) ?_
        refine lv_iload_n hx hb dX14_value_56 rfl (lv_at hl 0 rfl) ?_
        refine lv_iconst (v := 0) hx hb dX14_value_57 (by decide) ?_
        refine lv_iconst (v := 0) hx hb dX14_value_58 (by decide) ?_
        refine q_ci (va_runV (As := [.int 20, .int 0, .int 0]) (rest := []) ⟨hx, hb, hml, hown, hts⟩ (kX14_node l E (rO E f M R_49) n M R_49 nd_49 20 0 0 rO_K Q_49.1.1.2.2.1 (by omega)) (cwV 3 hts gX14_value_X14_node rfl rfl rfl (by decide +kernel) ⟨(by show 0 + 1 ≤ 4 * d + 12; omega), (by show 8 + (5 + 11) + 0 ≤ 100 * d + 300; omega)⟩) (q_pV hA hW hS (ci := 12) rfl rO_0) rfl rfl hl.1 rfl (lv_room (Nat.le_of_ble_eq_true rfl)) dX14_value_59 ⟨Nat.le_of_ble_eq_true rfl, Nat.le_of_ble_eq_true rfl⟩) hS (fun r_59 f_59 n_59 H locs hp hW hS => ?_)
        obtain ⟨rfl, rfl, rfl⟩ := hp
        have hW : q_W E (rO E f M (rp (rp (rp (rp R_49 39 (upd (R_49 39) nd_49 20)) 40 (upd (R_49 40) nd_49 0)) 41 (upd (R_49 41) nd_49 0)) 134 (fun _ => nI (nd_49 + 1)))) n H := by rw [rO_rO] at hW; exact hW
        have hW : q_W E (rO E f M (rp (rp (rp (rp R_49 39 (upd (R_49 39) nd_49 20)) 40 (upd (R_49 40) nd_49 0)) 41 (upd (R_49 41) nd_49 0)) 134 (fun _ => nI (nd_49 + 1)))) n H := hW
        obtain ⟨R_62, hR_62⟩ : ∃ z, z = rp (rp (rp (rp R_49 39 (upd (R_49 39) nd_49 20)) 40 (upd (R_49 40) nd_49 0)) 41 (upd (R_49 41) nd_49 0)) 134 (fun _ => nI (nd_49 + 1)) := ⟨_, rfl⟩
        rw [← hR_62] at hW
        have Q_62 : r_Q r R_62 K T (p_step K true (p_new u)) tk nd cc ac tk_49 (nd_49 + 1) cc_49 ac_49 := by rw [hR_62]; exact (Q_49.node (by omega) hnd)
        have T_62 := Q_62.tok hTK
        have num_62 := Q_62.2.2
        unfold r_num at num_62
        have bt_62 := Q_62.1.1.2.1
        have bn_62 := Q_62.1.1.2.2.2.1
        have bc_62 := Q_62.1.1.2.2.2.2.2.1
        have ba_62 := Q_62.1.1.2.2.2.2.2.2.2
        have z39_62 : R_62 39 nd_49 = 20 := by rw [hR_62]; exact node_rows.1
        have z40_62 : R_62 40 nd_49 = 0 := by rw [hR_62]; exact node_rows.2.1
        have z41_62 : R_62 41 nd_49 = 0 := by rw [hR_62]; exact node_rows.2.2
        exact q_iret hx hb hr hlocks hW hS ⟨_, _, _, _, _, (by rw [val_else (meas_of eu20 rfl).2.1 (meas_of eu20 rfl).2.2.1 (meas_of eu20 rfl).2.2.2, (meas_of eu20 rfl).1]; exact Q_62), (show R_62 107 0 = r 107 0 from by rw [hR_62]; exact (e7_49.trans rfl)), (fun _ => (show R_62 108 0 = r 108 0 from by rw [hR_62]; exact (e8_49.trans rfl))), ⟨(ec_49.1.trans rfl), (ec_49.2.trans rfl)⟩, (fun h1 h2 => ⟨nd_49, rfl, by omega, 20, z39_62, Or.inr (Or.inl ⟨by decide, by decide, by rw [valD_else (meas_of eu20 rfl).2.1 (meas_of eu20 rfl).2.2.1 (meas_of eu20 rfl).2.2.2, eu20]⟩)⟩), rfl, rfl⟩ (Nat.le_of_ble_eq_true rfl) (Nat.le_of_ble_eq_true rfl) dX14_value_62
      · refine q_ci (va_runV (As := [.int 20]) (rest := []) ⟨hx, hb, hml, hown, hts⟩ (kX14_takesF l E (rO E f M r) n M r K Wd T (p_new u) tk nd cc ac 20 20 rO_K hTK hT hKT hK41 Q0n.1 okn rfl (by decide) eu20) (cwV 1 hts gX14_value_X14_takes rfl rfl rfl (by decide +kernel) ⟨(by show 1 + 1 ≤ 4 * d + 12; omega), (by show 8 + (2 + 11) + 21 ≤ 100 * d + 300; omega)⟩) (q_pV hA hW hS (ci := 12) rfl rO_0) rfl rfl hl.1 rfl (lv_room (Nat.le_of_ble_eq_true rfl)) dX14_value_49 ⟨Nat.le_of_ble_eq_true rfl, Nat.le_of_ble_eq_true rfl⟩) hS (fun r_49 f_49 n_49 H locs hp hW hS => ?_)
        obtain ⟨rfl, rfl, rfl⟩ := hp
        have hW : q_W E (rO E f M r) n H := hW
        refine lv_if_eq (tgt := 63) hx hb dX14_value_52 (by decide) (fun c_52 => ?_) (fun c_52 => False.elim ((fun h9 => h9 rfl) c_52))
        refine lv_iinc (v := 21) (lv' := [(1, .int 21), (0, .ref M)]) hx hb dX14_value_63 hl (k := 0) rfl rfl (by decide) rfl (fun ls hl => ?_)
        refine lv_goto (tgt := 41) hx hb dX14_value_66 (by decide) ?_
        refine lv_iload_n hx hb dX14_value_41 rfl (lv_at hl 0 rfl) ?_
        refine lv_bipush (v := 23) hx hb dX14_value_42 (by decide) ?_
        refine lv_icmp_gt (tgt := 69) hx hb dX14_value_44 (by decide) (fun c_44 => False.elim ((fun h9 => absurd h9 (by decide)) c_44)) (fun c_44 => ?_)
        refine lv_aload_n hx hb dX14_value_47 rfl (lv_at hl 1 rfl) ?_
        refine lv_iload_n hx hb dX14_value_48 rfl (lv_at hl 0 rfl) ?_
        rcases Decidable.em (u.2.1 = 21) with eu21 | eu21
        · refine q_ci (va_runV (As := [.int 21]) (rest := []) ⟨hx, hb, hml, hown, hts⟩ (kX14_takesT l E (rO E f M r) n M r K Wd T (p_new u) tk nd cc ac 21 21 rO_K hTK hT hKT hK41 Q0n.1 okn rfl (by decide) eu21) (cwV 1 hts gX14_value_X14_takes rfl rfl rfl (by decide +kernel) ⟨(by show 1 + 1 ≤ 4 * d + 12; omega), (by show 8 + (2 + 11) + 21 ≤ 100 * d + 300; omega)⟩) (q_pV hA hW hS (ci := 12) rfl rO_0) rfl rfl hl.1 rfl (lv_room (Nat.le_of_ble_eq_true rfl)) dX14_value_49 ⟨Nat.le_of_ble_eq_true rfl, Nat.le_of_ble_eq_true rfl⟩) hS (fun r_49 f_49 n_49 H locs hp hW hS => ?_)
          obtain ⟨R_49, tk_49, nd_49, cc_49, ac_49, q_49, e7_49, e8_49, ec_49, ex_49, rfl, rfl⟩ := hp
          have G_49 : p_go K T (p_new u) (p_step K true (p_new u)) := (go_step hKT (fun _ => by show u.2.1 < 39; omega))
          have GG_49 := G_49 okn
          have ok_49 := GG_49.1
          have le_49 := GG_49.2.2.2.1
          have er_49 := GG_49.2.2.2.2
          have Q_49 := Q0n.trans q_49
          have T_49 := Q_49.tok hTK
          have num_49 := Q_49.2.2
          unfold r_num at num_49
          have bt_49 := Q_49.1.1.2.1
          have bn_49 := Q_49.1.1.2.2.2.1
          have bc_49 := Q_49.1.1.2.2.2.2.2.1
          have ba_49 := Q_49.1.1.2.2.2.2.2.2.2
          have qn_49 := q_49.2.2
          unfold r_num at qn_49
          obtain ⟨ex_49, ey_49⟩ := ex_49
          subst ey_49
          rw [rO_rO] at hW
          have hW : q_W E (rO E f M R_49) n H := hW
          refine lv_if_eq (tgt := 63) hx hb dX14_value_52 (by decide) (fun c_52 => False.elim ((fun h9 => absurd h9 (by decide)) c_52)) (fun c_52 => ?_)
          refine lv_aload_n hx hb dX14_value_55 rfl (lv_at hl 1 rfl) ?_
          refine lv_iload_n hx hb dX14_value_56 rfl (lv_at hl 0 rfl) ?_
          refine lv_iconst (v := 0) hx hb dX14_value_57 (by decide) ?_
          refine lv_iconst (v := 0) hx hb dX14_value_58 (by decide) ?_
          refine q_ci (va_runV (As := [.int 21, .int 0, .int 0]) (rest := []) ⟨hx, hb, hml, hown, hts⟩ (kX14_node l E (rO E f M R_49) n M R_49 nd_49 21 0 0 rO_K Q_49.1.1.2.2.1 (by omega)) (cwV 3 hts gX14_value_X14_node rfl rfl rfl (by decide +kernel) ⟨(by show 0 + 1 ≤ 4 * d + 12; omega), (by show 8 + (5 + 11) + 0 ≤ 100 * d + 300; omega)⟩) (q_pV hA hW hS (ci := 12) rfl rO_0) rfl rfl hl.1 rfl (lv_room (Nat.le_of_ble_eq_true rfl)) dX14_value_59 ⟨Nat.le_of_ble_eq_true rfl, Nat.le_of_ble_eq_true rfl⟩) hS (fun r_59 f_59 n_59 H locs hp hW hS => ?_)
          obtain ⟨rfl, rfl, rfl⟩ := hp
          have hW : q_W E (rO E f M (rp (rp (rp (rp R_49 39 (upd (R_49 39) nd_49 21)) 40 (upd (R_49 40) nd_49 0)) 41 (upd (R_49 41) nd_49 0)) 134 (fun _ => nI (nd_49 + 1)))) n H := by rw [rO_rO] at hW; exact hW
          have hW : q_W E (rO E f M (rp (rp (rp (rp R_49 39 (upd (R_49 39) nd_49 21)) 40 (upd (R_49 40) nd_49 0)) 41 (upd (R_49 41) nd_49 0)) 134 (fun _ => nI (nd_49 + 1)))) n H := hW
          obtain ⟨R_62, hR_62⟩ : ∃ z, z = rp (rp (rp (rp R_49 39 (upd (R_49 39) nd_49 21)) 40 (upd (R_49 40) nd_49 0)) 41 (upd (R_49 41) nd_49 0)) 134 (fun _ => nI (nd_49 + 1)) := ⟨_, rfl⟩
          rw [← hR_62] at hW
          have Q_62 : r_Q r R_62 K T (p_step K true (p_new u)) tk nd cc ac tk_49 (nd_49 + 1) cc_49 ac_49 := by rw [hR_62]; exact (Q_49.node (by omega) hnd)
          have T_62 := Q_62.tok hTK
          have num_62 := Q_62.2.2
          unfold r_num at num_62
          have bt_62 := Q_62.1.1.2.1
          have bn_62 := Q_62.1.1.2.2.2.1
          have bc_62 := Q_62.1.1.2.2.2.2.2.1
          have ba_62 := Q_62.1.1.2.2.2.2.2.2.2
          have z39_62 : R_62 39 nd_49 = 21 := by rw [hR_62]; exact node_rows.1
          have z40_62 : R_62 40 nd_49 = 0 := by rw [hR_62]; exact node_rows.2.1
          have z41_62 : R_62 41 nd_49 = 0 := by rw [hR_62]; exact node_rows.2.2
          exact q_iret hx hb hr hlocks hW hS ⟨_, _, _, _, _, (by rw [val_else (meas_of eu21 rfl).2.1 (meas_of eu21 rfl).2.2.1 (meas_of eu21 rfl).2.2.2, (meas_of eu21 rfl).1]; exact Q_62), (show R_62 107 0 = r 107 0 from by rw [hR_62]; exact (e7_49.trans rfl)), (fun _ => (show R_62 108 0 = r 108 0 from by rw [hR_62]; exact (e8_49.trans rfl))), ⟨(ec_49.1.trans rfl), (ec_49.2.trans rfl)⟩, (fun h1 h2 => ⟨nd_49, rfl, by omega, 21, z39_62, Or.inr (Or.inl ⟨by decide, by decide, by rw [valD_else (meas_of eu21 rfl).2.1 (meas_of eu21 rfl).2.2.1 (meas_of eu21 rfl).2.2.2, eu21]⟩)⟩), rfl, rfl⟩ (Nat.le_of_ble_eq_true rfl) (Nat.le_of_ble_eq_true rfl) dX14_value_62
        · refine q_ci (va_runV (As := [.int 21]) (rest := []) ⟨hx, hb, hml, hown, hts⟩ (kX14_takesF l E (rO E f M r) n M r K Wd T (p_new u) tk nd cc ac 21 21 rO_K hTK hT hKT hK41 Q0n.1 okn rfl (by decide) eu21) (cwV 1 hts gX14_value_X14_takes rfl rfl rfl (by decide +kernel) ⟨(by show 1 + 1 ≤ 4 * d + 12; omega), (by show 8 + (2 + 11) + 21 ≤ 100 * d + 300; omega)⟩) (q_pV hA hW hS (ci := 12) rfl rO_0) rfl rfl hl.1 rfl (lv_room (Nat.le_of_ble_eq_true rfl)) dX14_value_49 ⟨Nat.le_of_ble_eq_true rfl, Nat.le_of_ble_eq_true rfl⟩) hS (fun r_49 f_49 n_49 H locs hp hW hS => ?_)
          obtain ⟨rfl, rfl, rfl⟩ := hp
          have hW : q_W E (rO E f M r) n H := hW
          refine lv_if_eq (tgt := 63) hx hb dX14_value_52 (by decide) (fun c_52 => ?_) (fun c_52 => False.elim ((fun h9 => h9 rfl) c_52))
          refine lv_iinc (v := 22) (lv' := [(1, .int 22), (0, .ref M)]) hx hb dX14_value_63 hl (k := 0) rfl rfl (by decide) rfl (fun ls hl => ?_)
          refine lv_goto (tgt := 41) hx hb dX14_value_66 (by decide) ?_
          refine lv_iload_n hx hb dX14_value_41 rfl (lv_at hl 0 rfl) ?_
          refine lv_bipush (v := 23) hx hb dX14_value_42 (by decide) ?_
          refine lv_icmp_gt (tgt := 69) hx hb dX14_value_44 (by decide) (fun c_44 => False.elim ((fun h9 => absurd h9 (by decide)) c_44)) (fun c_44 => ?_)
          refine lv_aload_n hx hb dX14_value_47 rfl (lv_at hl 1 rfl) ?_
          refine lv_iload_n hx hb dX14_value_48 rfl (lv_at hl 0 rfl) ?_
          rcases Decidable.em (u.2.1 = 22) with eu22 | eu22
          · refine q_ci (va_runV (As := [.int 22]) (rest := []) ⟨hx, hb, hml, hown, hts⟩ (kX14_takesT l E (rO E f M r) n M r K Wd T (p_new u) tk nd cc ac 22 22 rO_K hTK hT hKT hK41 Q0n.1 okn rfl (by decide) eu22) (cwV 1 hts gX14_value_X14_takes rfl rfl rfl (by decide +kernel) ⟨(by show 1 + 1 ≤ 4 * d + 12; omega), (by show 8 + (2 + 11) + 21 ≤ 100 * d + 300; omega)⟩) (q_pV hA hW hS (ci := 12) rfl rO_0) rfl rfl hl.1 rfl (lv_room (Nat.le_of_ble_eq_true rfl)) dX14_value_49 ⟨Nat.le_of_ble_eq_true rfl, Nat.le_of_ble_eq_true rfl⟩) hS (fun r_49 f_49 n_49 H locs hp hW hS => ?_)
            obtain ⟨R_49, tk_49, nd_49, cc_49, ac_49, q_49, e7_49, e8_49, ec_49, ex_49, rfl, rfl⟩ := hp
            have G_49 : p_go K T (p_new u) (p_step K true (p_new u)) := (go_step hKT (fun _ => by show u.2.1 < 39; omega))
            have GG_49 := G_49 okn
            have ok_49 := GG_49.1
            have le_49 := GG_49.2.2.2.1
            have er_49 := GG_49.2.2.2.2
            have Q_49 := Q0n.trans q_49
            have T_49 := Q_49.tok hTK
            have num_49 := Q_49.2.2
            unfold r_num at num_49
            have bt_49 := Q_49.1.1.2.1
            have bn_49 := Q_49.1.1.2.2.2.1
            have bc_49 := Q_49.1.1.2.2.2.2.2.1
            have ba_49 := Q_49.1.1.2.2.2.2.2.2.2
            have qn_49 := q_49.2.2
            unfold r_num at qn_49
            obtain ⟨ex_49, ey_49⟩ := ex_49
            subst ey_49
            rw [rO_rO] at hW
            have hW : q_W E (rO E f M R_49) n H := hW
            refine lv_if_eq (tgt := 63) hx hb dX14_value_52 (by decide) (fun c_52 => False.elim ((fun h9 => absurd h9 (by decide)) c_52)) (fun c_52 => ?_)
            refine lv_aload_n hx hb dX14_value_55 rfl (lv_at hl 1 rfl) ?_
            refine lv_iload_n hx hb dX14_value_56 rfl (lv_at hl 0 rfl) ?_
            refine lv_iconst (v := 0) hx hb dX14_value_57 (by decide) ?_
            refine lv_iconst (v := 0) hx hb dX14_value_58 (by decide) ?_
            refine q_ci (va_runV (As := [.int 22, .int 0, .int 0]) (rest := []) ⟨hx, hb, hml, hown, hts⟩ (kX14_node l E (rO E f M R_49) n M R_49 nd_49 22 0 0 rO_K Q_49.1.1.2.2.1 (by omega)) (cwV 3 hts gX14_value_X14_node rfl rfl rfl (by decide +kernel) ⟨(by show 0 + 1 ≤ 4 * d + 12; omega), (by show 8 + (5 + 11) + 0 ≤ 100 * d + 300; omega)⟩) (q_pV hA hW hS (ci := 12) rfl rO_0) rfl rfl hl.1 rfl (lv_room (Nat.le_of_ble_eq_true rfl)) dX14_value_59 ⟨Nat.le_of_ble_eq_true rfl, Nat.le_of_ble_eq_true rfl⟩) hS (fun r_59 f_59 n_59 H locs hp hW hS => ?_)
            obtain ⟨rfl, rfl, rfl⟩ := hp
            have hW : q_W E (rO E f M (rp (rp (rp (rp R_49 39 (upd (R_49 39) nd_49 22)) 40 (upd (R_49 40) nd_49 0)) 41 (upd (R_49 41) nd_49 0)) 134 (fun _ => nI (nd_49 + 1)))) n H := by rw [rO_rO] at hW; exact hW
            have hW : q_W E (rO E f M (rp (rp (rp (rp R_49 39 (upd (R_49 39) nd_49 22)) 40 (upd (R_49 40) nd_49 0)) 41 (upd (R_49 41) nd_49 0)) 134 (fun _ => nI (nd_49 + 1)))) n H := hW
            obtain ⟨R_62, hR_62⟩ : ∃ z, z = rp (rp (rp (rp R_49 39 (upd (R_49 39) nd_49 22)) 40 (upd (R_49 40) nd_49 0)) 41 (upd (R_49 41) nd_49 0)) 134 (fun _ => nI (nd_49 + 1)) := ⟨_, rfl⟩
            rw [← hR_62] at hW
            have Q_62 : r_Q r R_62 K T (p_step K true (p_new u)) tk nd cc ac tk_49 (nd_49 + 1) cc_49 ac_49 := by rw [hR_62]; exact (Q_49.node (by omega) hnd)
            have T_62 := Q_62.tok hTK
            have num_62 := Q_62.2.2
            unfold r_num at num_62
            have bt_62 := Q_62.1.1.2.1
            have bn_62 := Q_62.1.1.2.2.2.1
            have bc_62 := Q_62.1.1.2.2.2.2.2.1
            have ba_62 := Q_62.1.1.2.2.2.2.2.2.2
            have z39_62 : R_62 39 nd_49 = 22 := by rw [hR_62]; exact node_rows.1
            have z40_62 : R_62 40 nd_49 = 0 := by rw [hR_62]; exact node_rows.2.1
            have z41_62 : R_62 41 nd_49 = 0 := by rw [hR_62]; exact node_rows.2.2
            exact q_iret hx hb hr hlocks hW hS ⟨_, _, _, _, _, (by rw [val_else (meas_of eu22 rfl).2.1 (meas_of eu22 rfl).2.2.1 (meas_of eu22 rfl).2.2.2, (meas_of eu22 rfl).1]; exact Q_62), (show R_62 107 0 = r 107 0 from by rw [hR_62]; exact (e7_49.trans rfl)), (fun _ => (show R_62 108 0 = r 108 0 from by rw [hR_62]; exact (e8_49.trans rfl))), ⟨(ec_49.1.trans rfl), (ec_49.2.trans rfl)⟩, (fun h1 h2 => ⟨nd_49, rfl, by omega, 22, z39_62, Or.inr (Or.inl ⟨by decide, by decide, by rw [valD_else (meas_of eu22 rfl).2.1 (meas_of eu22 rfl).2.2.1 (meas_of eu22 rfl).2.2.2, eu22]⟩)⟩), rfl, rfl⟩ (Nat.le_of_ble_eq_true rfl) (Nat.le_of_ble_eq_true rfl) dX14_value_62
          · refine q_ci (va_runV (As := [.int 22]) (rest := []) ⟨hx, hb, hml, hown, hts⟩ (kX14_takesF l E (rO E f M r) n M r K Wd T (p_new u) tk nd cc ac 22 22 rO_K hTK hT hKT hK41 Q0n.1 okn rfl (by decide) eu22) (cwV 1 hts gX14_value_X14_takes rfl rfl rfl (by decide +kernel) ⟨(by show 1 + 1 ≤ 4 * d + 12; omega), (by show 8 + (2 + 11) + 21 ≤ 100 * d + 300; omega)⟩) (q_pV hA hW hS (ci := 12) rfl rO_0) rfl rfl hl.1 rfl (lv_room (Nat.le_of_ble_eq_true rfl)) dX14_value_49 ⟨Nat.le_of_ble_eq_true rfl, Nat.le_of_ble_eq_true rfl⟩) hS (fun r_49 f_49 n_49 H locs hp hW hS => ?_)
            obtain ⟨rfl, rfl, rfl⟩ := hp
            have hW : q_W E (rO E f M r) n H := hW
            refine lv_if_eq (tgt := 63) hx hb dX14_value_52 (by decide) (fun c_52 => ?_) (fun c_52 => False.elim ((fun h9 => h9 rfl) c_52))
            refine lv_iinc (v := 23) (lv' := [(1, .int 23), (0, .ref M)]) hx hb dX14_value_63 hl (k := 0) rfl rfl (by decide) rfl (fun ls hl => ?_)
            refine lv_goto (tgt := 41) hx hb dX14_value_66 (by decide) ?_
            refine lv_iload_n hx hb dX14_value_41 rfl (lv_at hl 0 rfl) ?_
            refine lv_bipush (v := 23) hx hb dX14_value_42 (by decide) ?_
            refine lv_icmp_gt (tgt := 69) hx hb dX14_value_44 (by decide) (fun c_44 => False.elim ((fun h9 => absurd h9 (by decide)) c_44)) (fun c_44 => ?_)
            refine lv_aload_n hx hb dX14_value_47 rfl (lv_at hl 1 rfl) ?_
            refine lv_iload_n hx hb dX14_value_48 rfl (lv_at hl 0 rfl) ?_
            rcases Decidable.em (u.2.1 = 23) with eu23 | eu23
            · refine q_ci (va_runV (As := [.int 23]) (rest := []) ⟨hx, hb, hml, hown, hts⟩ (kX14_takesT l E (rO E f M r) n M r K Wd T (p_new u) tk nd cc ac 23 23 rO_K hTK hT hKT hK41 Q0n.1 okn rfl (by decide) eu23) (cwV 1 hts gX14_value_X14_takes rfl rfl rfl (by decide +kernel) ⟨(by show 1 + 1 ≤ 4 * d + 12; omega), (by show 8 + (2 + 11) + 21 ≤ 100 * d + 300; omega)⟩) (q_pV hA hW hS (ci := 12) rfl rO_0) rfl rfl hl.1 rfl (lv_room (Nat.le_of_ble_eq_true rfl)) dX14_value_49 ⟨Nat.le_of_ble_eq_true rfl, Nat.le_of_ble_eq_true rfl⟩) hS (fun r_49 f_49 n_49 H locs hp hW hS => ?_)
              obtain ⟨R_49, tk_49, nd_49, cc_49, ac_49, q_49, e7_49, e8_49, ec_49, ex_49, rfl, rfl⟩ := hp
              have G_49 : p_go K T (p_new u) (p_step K true (p_new u)) := (go_step hKT (fun _ => by show u.2.1 < 39; omega))
              have GG_49 := G_49 okn
              have ok_49 := GG_49.1
              have le_49 := GG_49.2.2.2.1
              have er_49 := GG_49.2.2.2.2
              have Q_49 := Q0n.trans q_49
              have T_49 := Q_49.tok hTK
              have num_49 := Q_49.2.2
              unfold r_num at num_49
              have bt_49 := Q_49.1.1.2.1
              have bn_49 := Q_49.1.1.2.2.2.1
              have bc_49 := Q_49.1.1.2.2.2.2.2.1
              have ba_49 := Q_49.1.1.2.2.2.2.2.2.2
              have qn_49 := q_49.2.2
              unfold r_num at qn_49
              obtain ⟨ex_49, ey_49⟩ := ex_49
              subst ey_49
              rw [rO_rO] at hW
              have hW : q_W E (rO E f M R_49) n H := hW
              refine lv_if_eq (tgt := 63) hx hb dX14_value_52 (by decide) (fun c_52 => False.elim ((fun h9 => absurd h9 (by decide)) c_52)) (fun c_52 => ?_)
              refine lv_aload_n hx hb dX14_value_55 rfl (lv_at hl 1 rfl) ?_
              refine lv_iload_n hx hb dX14_value_56 rfl (lv_at hl 0 rfl) ?_
              refine lv_iconst (v := 0) hx hb dX14_value_57 (by decide) ?_
              refine lv_iconst (v := 0) hx hb dX14_value_58 (by decide) ?_
              refine q_ci (va_runV (As := [.int 23, .int 0, .int 0]) (rest := []) ⟨hx, hb, hml, hown, hts⟩ (kX14_node l E (rO E f M R_49) n M R_49 nd_49 23 0 0 rO_K Q_49.1.1.2.2.1 (by omega)) (cwV 3 hts gX14_value_X14_node rfl rfl rfl (by decide +kernel) ⟨(by show 0 + 1 ≤ 4 * d + 12; omega), (by show 8 + (5 + 11) + 0 ≤ 100 * d + 300; omega)⟩) (q_pV hA hW hS (ci := 12) rfl rO_0) rfl rfl hl.1 rfl (lv_room (Nat.le_of_ble_eq_true rfl)) dX14_value_59 ⟨Nat.le_of_ble_eq_true rfl, Nat.le_of_ble_eq_true rfl⟩) hS (fun r_59 f_59 n_59 H locs hp hW hS => ?_)
              obtain ⟨rfl, rfl, rfl⟩ := hp
              have hW : q_W E (rO E f M (rp (rp (rp (rp R_49 39 (upd (R_49 39) nd_49 23)) 40 (upd (R_49 40) nd_49 0)) 41 (upd (R_49 41) nd_49 0)) 134 (fun _ => nI (nd_49 + 1)))) n H := by rw [rO_rO] at hW; exact hW
              have hW : q_W E (rO E f M (rp (rp (rp (rp R_49 39 (upd (R_49 39) nd_49 23)) 40 (upd (R_49 40) nd_49 0)) 41 (upd (R_49 41) nd_49 0)) 134 (fun _ => nI (nd_49 + 1)))) n H := hW
              obtain ⟨R_62, hR_62⟩ : ∃ z, z = rp (rp (rp (rp R_49 39 (upd (R_49 39) nd_49 23)) 40 (upd (R_49 40) nd_49 0)) 41 (upd (R_49 41) nd_49 0)) 134 (fun _ => nI (nd_49 + 1)) := ⟨_, rfl⟩
              rw [← hR_62] at hW
              have Q_62 : r_Q r R_62 K T (p_step K true (p_new u)) tk nd cc ac tk_49 (nd_49 + 1) cc_49 ac_49 := by rw [hR_62]; exact (Q_49.node (by omega) hnd)
              have T_62 := Q_62.tok hTK
              have num_62 := Q_62.2.2
              unfold r_num at num_62
              have bt_62 := Q_62.1.1.2.1
              have bn_62 := Q_62.1.1.2.2.2.1
              have bc_62 := Q_62.1.1.2.2.2.2.2.1
              have ba_62 := Q_62.1.1.2.2.2.2.2.2.2
              have z39_62 : R_62 39 nd_49 = 23 := by rw [hR_62]; exact node_rows.1
              have z40_62 : R_62 40 nd_49 = 0 := by rw [hR_62]; exact node_rows.2.1
              have z41_62 : R_62 41 nd_49 = 0 := by rw [hR_62]; exact node_rows.2.2
              exact q_iret hx hb hr hlocks hW hS ⟨_, _, _, _, _, (by rw [val_else (meas_of eu23 rfl).2.1 (meas_of eu23 rfl).2.2.1 (meas_of eu23 rfl).2.2.2, (meas_of eu23 rfl).1]; exact Q_62), (show R_62 107 0 = r 107 0 from by rw [hR_62]; exact (e7_49.trans rfl)), (fun _ => (show R_62 108 0 = r 108 0 from by rw [hR_62]; exact (e8_49.trans rfl))), ⟨(ec_49.1.trans rfl), (ec_49.2.trans rfl)⟩, (fun h1 h2 => ⟨nd_49, rfl, by omega, 23, z39_62, Or.inr (Or.inl ⟨by decide, by decide, by rw [valD_else (meas_of eu23 rfl).2.1 (meas_of eu23 rfl).2.2.1 (meas_of eu23 rfl).2.2.2, eu23]⟩)⟩), rfl, rfl⟩ (Nat.le_of_ble_eq_true rfl) (Nat.le_of_ble_eq_true rfl) dX14_value_62
            · refine q_ci (va_runV (As := [.int 23]) (rest := []) ⟨hx, hb, hml, hown, hts⟩ (kX14_takesF l E (rO E f M r) n M r K Wd T (p_new u) tk nd cc ac 23 23 rO_K hTK hT hKT hK41 Q0n.1 okn rfl (by decide) eu23) (cwV 1 hts gX14_value_X14_takes rfl rfl rfl (by decide +kernel) ⟨(by show 1 + 1 ≤ 4 * d + 12; omega), (by show 8 + (2 + 11) + 21 ≤ 100 * d + 300; omega)⟩) (q_pV hA hW hS (ci := 12) rfl rO_0) rfl rfl hl.1 rfl (lv_room (Nat.le_of_ble_eq_true rfl)) dX14_value_49 ⟨Nat.le_of_ble_eq_true rfl, Nat.le_of_ble_eq_true rfl⟩) hS (fun r_49 f_49 n_49 H locs hp hW hS => ?_)
              obtain ⟨rfl, rfl, rfl⟩ := hp
              have hW : q_W E (rO E f M r) n H := hW
              refine lv_if_eq (tgt := 63) hx hb dX14_value_52 (by decide) (fun c_52 => ?_) (fun c_52 => False.elim ((fun h9 => h9 rfl) c_52))
              refine lv_iinc (v := 24) (lv' := [(1, .int 24), (0, .ref M)]) hx hb dX14_value_63 hl (k := 0) rfl rfl (by decide) rfl (fun ls hl => ?_)
              refine lv_goto (tgt := 41) hx hb dX14_value_66 (by decide) ?_
              refine lv_iload_n hx hb dX14_value_41 rfl (lv_at hl 0 rfl) ?_
              refine lv_bipush (v := 23) hx hb dX14_value_42 (by decide) ?_
              refine lv_icmp_gt (tgt := 69) hx hb dX14_value_44 (by decide) (fun c_44 => ?_) (fun c_44 => False.elim ((fun h9 => h9 (by decide)) c_44))
              refine lv_aload_n hx hb dX14_value_69 rfl (lv_at hl 1 rfl) ?_
              refine q_ci (va_runV (As := []) (rest := []) ⟨hx, hb, hml, hown, hts⟩ (kX14_isContent l E (rO E f M r) n M r K Wd T (p_new u) tk nd cc ac rO_K hTK hT hKT hK41 Q0n.1 okn) (cwV 0 hts gX14_value_X14_isContent rfl rfl rfl (by decide +kernel) ⟨(by show 1 + 1 ≤ 4 * d + 12; omega), (by show 8 + (1 + 11) + 21 ≤ 100 * d + 300; omega)⟩) (q_pV hA hW hS (ci := 12) rfl rO_0) rfl rfl hl.1 rfl (lv_room (Nat.le_of_ble_eq_true rfl)) dX14_value_70 ⟨Nat.le_of_ble_eq_true rfl, Nat.le_of_ble_eq_true rfl⟩) hS (fun r_70 f_70 n_70 H locs hp hW hS => ?_)
              obtain ⟨rfl, rfl, rfl⟩ := hp
              have hW : q_W E (rO E f M r) n H := hW
              refine lv_if_eq (tgt := 113) hx hb dX14_value_73 (by decide) (fun c_73 => ?_) (fun c_73 => ?_)
              · have ec : ¬ b_cont u.2.1 = true := by rw [show b_cont u.2.1 = false from b01_0 c_73]; decide
                refine lv_aload_n hx hb dX14_value_113 rfl (lv_at hl 1 rfl) ?_
                refine lv_bipush (v := 50) hx hb dX14_value_114 (by decide) ?_
                refine q_ci (va_runV (As := [.int 50]) (rest := []) ⟨hx, hb, hml, hown, hts⟩ (kX14_is l E (rO E f M r) n M r K Wd T (p_new u) tk nd cc ac 27 50 rO_K hTK hT hKT hK41 Q0n.1 okn rfl (by decide)) (cwV 1 hts gX14_value_X14_is rfl rfl rfl (by decide +kernel) ⟨(by show 0 + 1 ≤ 4 * d + 12; omega), (by show 8 + (2 + 11) + 0 ≤ 100 * d + 300; omega)⟩) (q_pV hA hW hS (ci := 12) rfl rO_0) rfl rfl hl.1 rfl (lv_room (Nat.le_of_ble_eq_true rfl)) dX14_value_116 ⟨Nat.le_of_ble_eq_true rfl, Nat.le_of_ble_eq_true rfl⟩) hS (fun r_116 f_116 n_116 H locs hp hW hS => ?_)
                obtain ⟨rfl, rfl, rfl⟩ := hp
                have hW : q_W E (rO E f M r) n H := hW
                refine lv_if_eq (tgt := 127) hx hb dX14_value_119 (by decide) (fun c_119 => ?_) (fun c_119 => ?_)
                · have e27 : ¬ u.2.1 = 27 := of_decide_eq_false (b01_0 c_119)
                  refine lv_aload_n hx hb dX14_value_127 rfl (lv_at hl 1 rfl) ?_
                  refine q_cv (va_runV (As := []) (rest := []) ⟨hx, hb, hml, hown, hts⟩ (kX14_wrong l E (rO E f M r) n M r K Wd T (p_new u) tk nd cc ac rO_K hTK hT hKT hK41 Q0n.1 okn) (cwV 0 hts gX14_value_X14_wrong rfl rfl rfl (by decide +kernel) ⟨(by show 0 + 1 ≤ 4 * d + 12; omega), (by show 8 + (1 + 11) + 0 ≤ 100 * d + 300; omega)⟩) (q_pV hA hW hS (ci := 12) rfl rO_0) rfl rfl hl.1 rfl (lv_room (Nat.le_of_ble_eq_true rfl)) dX14_value_128 ⟨Nat.le_of_ble_eq_true rfl, Nat.le_of_ble_eq_true rfl⟩) hS (fun f_128 n_128 H locs hp hW hS => ?_)
                  obtain ⟨R_128, tk_128, nd_128, cc_128, ac_128, q_128, e7_128, e8_128, ec_128, ex_128, rfl, rfl⟩ := hp
                  have G_128 : p_go K T (p_new u) (p_step K false (p_new u)) := (go_step hKT (fun h9 => by cases h9))
                  have GG_128 := G_128 okn
                  have ok_128 := GG_128.1
                  have le_128 := GG_128.2.2.2.1
                  have er_128 := GG_128.2.2.2.2
                  have Q_128 := Q0n.trans q_128
                  have T_128 := Q_128.tok hTK
                  have num_128 := Q_128.2.2
                  unfold r_num at num_128
                  have bt_128 := Q_128.1.1.2.1
                  have bn_128 := Q_128.1.1.2.2.2.1
                  have bc_128 := Q_128.1.1.2.2.2.2.2.1
                  have ba_128 := Q_128.1.1.2.2.2.2.2.2.2
                  have qn_128 := q_128.2.2
                  unfold r_num at qn_128
                  rw [rO_rO] at hW
                  have hW : q_W E (rO E f M R_128) n H := hW
                  refine lv_iconst (v := 0) hx hb dX14_value_131 (by decide) ?_
                  exact q_iret hx hb hr hlocks hW hS ⟨_, _, _, _, _, (by rw [val_else e38 ec e27, show b_meas u.2.1 = false from by simp [b_meas, eu19, eu20, eu21, eu22, eu23]]; exact Q_128), (e7_128.trans rfl), (fun _ => (e8_128.trans rfl)), ⟨(ec_128.1.trans rfl), (ec_128.2.trans rfl)⟩, (fun h1 h2 => absurd (by rw [val_else e38 ec e27, show b_meas u.2.1 = false from by simp [b_meas, eu19, eu20, eu21, eu22, eu23]]; rfl) h1), rfl, rfl⟩ (Nat.le_of_ble_eq_true rfl) (Nat.le_of_ble_eq_true rfl) dX14_value_132
                · have e27 : u.2.1 = 27 := of_decide_eq_true (b01_1 c_119)
                  refine lv_aload_n hx hb dX14_value_122 rfl (lv_at hl 1 rfl) ?_
                  refine q_ci (va_runV (As := []) (rest := []) ⟨hx, hb, hml, hown, hts⟩ (ihI e27 (rO E f M r) n M r tk nd cc ac rO_K hTK hP hnm hpn9 hv8) (cwV 0 hts gX14_value_X14_inBrackets rfl rfl rfl (by decide +kernel) ⟨(by show (4 * d + 11) + 1 ≤ 4 * d + 12; omega), (by show 8 + (4 + 11) + (100 * d + 270) ≤ 100 * d + 300; omega)⟩) (q_pV hA hW hS (ci := 12) rfl rO_0) rfl rfl hl.1 rfl (lv_room (Nat.le_of_ble_eq_true rfl)) dX14_value_123 ⟨Nat.le_of_ble_eq_true rfl, Nat.le_of_ble_eq_true rfl⟩) hS (fun r_123 f_123 n_123 H locs hp hW hS => ?_)
                  obtain ⟨R_123, tk_123, nd_123, cc_123, ac_123, q_123, e7_123, e8_123, ec_123, ex_123, rfl, rfl⟩ := hp
                  have G_123 : p_go K T (p_new u) (p_val K Wd pN pn d u) := (go_val hKT d u)
                  have GG_123 := G_123 okn
                  have ok_123 := GG_123.1
                  have le_123 := GG_123.2.2.2.1
                  have er_123 := GG_123.2.2.2.2
                  have Q_123 := Q0n.trans q_123
                  have T_123 := Q_123.tok hTK
                  have num_123 := Q_123.2.2
                  unfold r_num at num_123
                  have bt_123 := Q_123.1.1.2.1
                  have bn_123 := Q_123.1.1.2.2.2.1
                  have bc_123 := Q_123.1.1.2.2.2.2.2.1
                  have ba_123 := Q_123.1.1.2.2.2.2.2.2.2
                  have qn_123 := q_123.2.2
                  unfold r_num at qn_123
                  rw [rO_rO] at hW
                  have hW : q_W E (rO E f M R_123) n H := hW
                  exact q_iret hx hb hr hlocks hW hS ⟨_, _, _, _, _, Q_123, (e7_123.trans rfl), (fun z => (e8_123 z).trans rfl), ⟨(ec_123.1.trans rfl), (ec_123.2.trans rfl)⟩, ex_123, rfl, rfl⟩ (Nat.le_of_ble_eq_true rfl) (Nat.le_of_ble_eq_true rfl) dX14_value_126
              · have ec : b_cont u.2.1 = true := b01_1 c_73
                have ek := (b_cont_lt ec).1
                have hnw := hP.nw (by omega)
                refine lv_aload_n hx hb dX14_value_76 rfl (lv_at hl 1 rfl) ?_
                refine q_get hx hb hts hown hA hW iX14 rO_0 rfl 4 (by decide) (hts (.fieldLink RX14 17 "HighRecipesModel" "kind" "[I") (by decide +kernel)) (fun _ h9 => h9) (v := .ref (M + 2)) rfl dX14_value_77 ?_
                refine lv_aload_n hx hb dX14_value_80 rfl (lv_at hl 1 rfl) ?_
                refine q_get hx hb hts hown hA hW iX14 rO_0 rfl 8 (by decide) (hts (.fieldLink RX14 120 "HighRecipesModel" "token" "I") (by decide +kernel)) (fun _ h9 => h9) (v := .int (nI tk)) (congrArg (fun z => some (Value.int z)) hP.1.1) dX14_value_81 ?_
                refine q_ald hx hb hA hW (rO_2 (g := r 2) rfl) tk rfl (by omega) (by decide) (x := nI (m_kd u.2.1)) (by rw [hTK.1 tk htk, hnw.2.1, ← hnw.2.2.1]) dX14_value_84 ?_
                refine lv_istore_n (lv' := [(1, .int (nI (m_kd u.2.1))), (0, .ref M)]) hx hb dX14_value_85 rfl hl (by decide) rfl (fun ls hl => ?_)
                refine lv_aload_n hx hb dX14_value_86 rfl (lv_at hl 1 rfl) ?_
                refine lv_dup hx hb dX14_value_87 rfl ?_
                refine q_get hx hb hts hown hA hW iX14 rO_0 rfl 8 (by decide) (hts (.fieldLink RX14 120 "HighRecipesModel" "token" "I") (by decide +kernel)) (fun _ h9 => h9) (v := .int (nI tk)) (congrArg (fun z => some (Value.int z)) hP.1.1) dX14_value_88 ?_
                refine lv_iconst (v := 1) hx hb dX14_value_91 (by decide) ?_
                refine lv_iadd hx hb dX14_value_92 ?_
                refine q_put hx hb hts hown hA hW hS iX14 tyX14 tyX14_ok nmX14 rO_0 rfl 8 (by decide) (hts (.fieldLink RX14 120 "HighRecipesModel" "token" "I") (by decide +kernel)) (fun _ h9 => h9) rfl rfl rfl (Nat.le_of_ble_eq_true rfl) dX14_value_93 (fun H locs hW hS => ?_)
                rw [show (nI tk) + 1 = nI (tk + 1) from nI_1 tk] at hW
                have hW := q_s0 103 (nI (tk + 1)) hW rfl (by decide)
                obtain ⟨R_96, hR_96⟩ : ∃ z, z = rp r 103 (fun _ => nI (tk + 1)) := ⟨_, rfl⟩
                rw [← hR_96] at hW
                have Q_96 : r_Q r R_96 K T (p_step K true (p_new u)) tk nd cc ac (tk + 1) nd cc ac := by rw [hR_96]; exact (Q0n.inc ek hKT)
                have T_96 := Q_96.tok hTK
                have num_96 := Q_96.2.2
                unfold r_num at num_96
                have bt_96 := Q_96.1.1.2.1
                have bn_96 := Q_96.1.1.2.2.2.1
                have bc_96 := Q_96.1.1.2.2.2.2.2.1
                have ba_96 := Q_96.1.1.2.2.2.2.2.2.2
                have G_96 : p_go K T (p_new u) (p_step K true (p_new u)) := (go_step hKT (fun _ => ek))
                have GG_96 := G_96 okn
                have ok_96 := GG_96.1
                have le_96 := GG_96.2.2.2.1
                have er_96 := GG_96.2.2.2.2
                refine lv_aload_n hx hb dX14_value_96 rfl (lv_at hl 1 rfl) ?_
                refine lv_bipush (v := 24) hx hb dX14_value_97 (by decide) ?_
                refine q_cv (va_runV (As := [.int 24]) (rest := []) ⟨hx, hb, hml, hown, hts⟩ (kX14_take l E (rO E f M R_96) n M R_96 K Wd T (p_step K true (p_new u)) (tk + 1) nd cc ac 24 24 rO_K T_96 hT hKT hK41 Q_96.1 ok_96 rfl (by decide)) (cwV 1 hts gX14_value_X14_take rfl rfl rfl (by decide +kernel) ⟨(by show 1 + 1 ≤ 4 * d + 12; omega), (by show 8 + (2 + 11) + 21 ≤ 100 * d + 300; omega)⟩) (q_pV hA hW hS (ci := 12) rfl rO_0) rfl rfl hl.1 rfl (lv_room (Nat.le_of_ble_eq_true rfl)) dX14_value_99 ⟨Nat.le_of_ble_eq_true rfl, Nat.le_of_ble_eq_true rfl⟩) hS (fun f_99 n_99 H locs hp hW hS => ?_)
                obtain ⟨R_99, tk_99, nd_99, cc_99, ac_99, q_99, e7_99, e8_99, ec_99, ex_99, rfl, rfl⟩ := hp
                have G_99 : p_go K T (p_step K true (p_new u)) (p_take K 24 (p_step K true (p_new u))) := (go_take hKT (by decide))
                have GG_99 := G_99 ok_96
                have ok_99 := GG_99.1
                have le_99 := GG_99.2.2.2.1
                have er_99 := GG_99.2.2.2.2
                have Q_99 := Q_96.trans q_99
                have T_99 := Q_99.tok hTK
                have num_99 := Q_99.2.2
                unfold r_num at num_99
                have bt_99 := Q_99.1.1.2.1
                have bn_99 := Q_99.1.1.2.2.2.1
                have bc_99 := Q_99.1.1.2.2.2.2.2.1
                have ba_99 := Q_99.1.1.2.2.2.2.2.2.2
                have qn_99 := q_99.2.2
                unfold r_num at qn_99
                rw [rO_rO] at hW
                have hW : q_W E (rO E f M R_99) n H := hW
                refine lv_aload_n hx hb dX14_value_102 rfl (lv_at hl 1 rfl) ?_
                refine lv_iload_n hx hb dX14_value_103 rfl (lv_at hl 0 rfl) ?_
                refine lv_aload_n hx hb dX14_value_104 rfl (lv_at hl 1 rfl) ?_
                refine q_ci (va_runV (As := []) (rest := [.int (nI (m_kd u.2.1)), .ref M]) ⟨hx, hb, hml, hown, hts⟩ (kX14_pan l E (rO E f M R_99) n M R_99 K Wd T (p_take K 24 (p_step K true (p_new u))) tk_99 nd_99 cc_99 ac_99 pN pn rO_K T_99 hT hKT hK41 Q_99.1 ok_99 (hnm.mv (Q_99.2.1.1 6 (by decide) (by decide) (by decide))) hpn ((congrFun (q_99.2.1.1 130 (by decide) (by decide) (by decide)) 0).trans (show R_96 130 0 = nI pn from by rw [hR_96]; exact hpn9))) (cwV 0 hts gX14_value_X14_pan rfl rfl rfl (by decide +kernel) ⟨(by show 3 + 1 ≤ 4 * d + 12; omega), (by show 8 + (1 + 11) + 69 ≤ 100 * d + 300; omega)⟩) (q_pV hA hW hS (ci := 12) rfl rO_0) rfl rfl hl.1 rfl (lv_room (Nat.le_of_ble_eq_true rfl)) dX14_value_105 ⟨Nat.le_of_ble_eq_true rfl, Nat.le_of_ble_eq_true rfl⟩) hS (fun r_105 f_105 n_105 H locs hp hW hS => ?_)
                obtain ⟨R_105, tk_105, nd_105, cc_105, ac_105, q_105, e7_105, e8_105, ec_105, ex_105, rfl, rfl⟩ := hp
                have G_105 : p_go K T (p_take K 24 (p_step K true (p_new u))) (p_known K Wd pN pn (p_take K 24 (p_step K true (p_new u)))) := (go_known hKT)
                have GG_105 := G_105 ok_99
                have ok_105 := GG_105.1
                have le_105 := GG_105.2.2.2.1
                have er_105 := GG_105.2.2.2.2
                have Q_105 := Q_99.trans q_105
                have T_105 := Q_105.tok hTK
                have num_105 := Q_105.2.2
                unfold r_num at num_105
                have bt_105 := Q_105.1.1.2.1
                have bn_105 := Q_105.1.1.2.2.2.1
                have bc_105 := Q_105.1.1.2.2.2.2.2.1
                have ba_105 := Q_105.1.1.2.2.2.2.2.2.2
                have qn_105 := q_105.2.2
                unfold r_num at qn_105
                rw [rO_rO] at hW
                have hW : q_W E (rO E f M R_105) n H := hW
                refine lv_iconst (v := 0) hx hb dX14_value_108 (by decide) ?_
                refine q_ci (va_runV (As := [.int (nI (m_kd u.2.1)), .int r_105, .int 0]) (rest := []) ⟨hx, hb, hml, hown, hts⟩ (kX14_node l E (rO E f M R_105) n M R_105 nd_105 (nI (m_kd u.2.1)) r_105 0 rO_K Q_105.1.1.2.2.1 (by omega)) (cwV 3 hts gX14_value_X14_node rfl rfl rfl (by decide +kernel) ⟨(by show 0 + 1 ≤ 4 * d + 12; omega), (by show 8 + (5 + 11) + 0 ≤ 100 * d + 300; omega)⟩) (q_pV hA hW hS (ci := 12) rfl rO_0) rfl rfl hl.1 rfl (lv_room (Nat.le_of_ble_eq_true rfl)) dX14_value_109 ⟨Nat.le_of_ble_eq_true rfl, Nat.le_of_ble_eq_true rfl⟩) hS (fun r_109 f_109 n_109 H locs hp hW hS => ?_)
                obtain ⟨rfl, rfl, rfl⟩ := hp
                have hW : q_W E (rO E f M (rp (rp (rp (rp R_105 39 (upd (R_105 39) nd_105 (nI (m_kd u.2.1)))) 40 (upd (R_105 40) nd_105 r_105)) 41 (upd (R_105 41) nd_105 0)) 134 (fun _ => nI (nd_105 + 1)))) n H := by rw [rO_rO] at hW; exact hW
                have hW : q_W E (rO E f M (rp (rp (rp (rp R_105 39 (upd (R_105 39) nd_105 (nI (m_kd u.2.1)))) 40 (upd (R_105 40) nd_105 r_105)) 41 (upd (R_105 41) nd_105 0)) 134 (fun _ => nI (nd_105 + 1)))) n H := hW
                obtain ⟨R_112, hR_112⟩ : ∃ z, z = rp (rp (rp (rp R_105 39 (upd (R_105 39) nd_105 (nI (m_kd u.2.1)))) 40 (upd (R_105 40) nd_105 r_105)) 41 (upd (R_105 41) nd_105 0)) 134 (fun _ => nI (nd_105 + 1)) := ⟨_, rfl⟩
                rw [← hR_112] at hW
                have Q_112 : r_Q r R_112 K T (p_known K Wd pN pn (p_take K 24 (p_step K true (p_new u)))) tk nd cc ac tk_105 (nd_105 + 1) cc_105 ac_105 := by rw [hR_112]; exact (Q_105.node (by omega) hnd)
                have T_112 := Q_112.tok hTK
                have num_112 := Q_112.2.2
                unfold r_num at num_112
                have bt_112 := Q_112.1.1.2.1
                have bn_112 := Q_112.1.1.2.2.2.1
                have bc_112 := Q_112.1.1.2.2.2.2.2.1
                have ba_112 := Q_112.1.1.2.2.2.2.2.2.2
                have z39_112 : R_112 39 nd_105 = nI (m_kd u.2.1) := by rw [hR_112]; exact node_rows.1
                have z40_112 : R_112 40 nd_105 = r_105 := by rw [hR_112]; exact node_rows.2.1
                have z41_112 : R_112 41 nd_105 = 0 := by rw [hR_112]; exact node_rows.2.2
                exact q_iret hx hb hr hlocks hW hS ⟨_, _, _, _, _, (by rw [val_cont e38 ec]; exact Q_112), (show R_112 107 0 = r 107 0 from by rw [hR_112]; exact (e7_105.trans (e7_99.trans (show R_96 107 0 = r 107 0 from by rw [hR_96]; exact rfl)))), (fun _ => (show R_112 108 0 = r 108 0 from by rw [hR_112]; exact (e8_105.trans (e8_99.trans (show R_96 108 0 = r 108 0 from by rw [hR_96]; exact rfl))))), ⟨(ec_105.1.trans (ec_99.1.trans rfl)), (ec_105.2.trans (ec_99.2.trans rfl))⟩, (fun h1 h2 => by rw [val_cont e38 ec] at h1 h2; obtain ⟨i, i1, i2, i3⟩ := ex_105 h1 h2; exact ⟨nd_105, rfl, by omega, u.2.1, z39_112, Or.inr (Or.inr (Or.inl ⟨(b_cont_lt ec).2, i, i1, z40_112.trans i3, by rw [valD_cont e38 ec, i2, nI_clamp (by omega)]⟩))⟩), rfl, rfl⟩ (Nat.le_of_ble_eq_true rfl) (Nat.le_of_ble_eq_true rfl) dX14_value_112
  · have e38 : u.2.1 = 38 := of_decide_eq_true (b01_1 c_6)
    have hnw := hP.nw (by omega)
    refine lv_aload_n hx hb dX14_value_9 rfl (lv_at hl 0 rfl) ?_
    refine lv_dup hx hb dX14_value_10 rfl ?_
    refine q_get hx hb hts hown hA hW iX14 rO_0 rfl 8 (by decide) (hts (.fieldLink RX14 120 "HighRecipesModel" "token" "I") (by decide +kernel)) (fun _ h9 => h9) (v := .int (nI tk)) (congrArg (fun z => some (Value.int z)) hP.1.1) dX14_value_11 ?_
    refine lv_iconst (v := 1) hx hb dX14_value_14 (by decide) ?_
    refine lv_iadd hx hb dX14_value_15 ?_
    refine q_put hx hb hts hown hA hW hS iX14 tyX14 tyX14_ok nmX14 rO_0 rfl 8 (by decide) (hts (.fieldLink RX14 120 "HighRecipesModel" "token" "I") (by decide +kernel)) (fun _ h9 => h9) rfl rfl rfl (Nat.le_of_ble_eq_true rfl) dX14_value_16 (fun H locs hW hS => ?_)
    rw [show (nI tk) + 1 = nI (tk + 1) from nI_1 tk] at hW
    have hW := q_s0 103 (nI (tk + 1)) hW rfl (by decide)
    obtain ⟨R_19, hR_19⟩ : ∃ z, z = rp r 103 (fun _ => nI (tk + 1)) := ⟨_, rfl⟩
    rw [← hR_19] at hW
    have Q_19 : r_Q r R_19 K T (p_take K 38 (p_new u)) tk nd cc ac (tk + 1) nd cc ac := by rw [hR_19]; exact (by unfold p_take; rw [decide_eq_true (show (p_new u).2.1 = 38 from e38)]; exact Q0n.inc (by show u.2.1 < 39; omega) hKT)
    have T_19 := Q_19.tok hTK
    have num_19 := Q_19.2.2
    unfold r_num at num_19
    have bt_19 := Q_19.1.1.2.1
    have bn_19 := Q_19.1.1.2.2.2.1
    have bc_19 := Q_19.1.1.2.2.2.2.2.1
    have ba_19 := Q_19.1.1.2.2.2.2.2.2.2
    have G_19 : p_go K T (p_new u) (p_take K 38 (p_new u)) := (go_take hKT (by decide))
    have GG_19 := G_19 okn
    have ok_19 := GG_19.1
    have le_19 := GG_19.2.2.2.1
    have er_19 := GG_19.2.2.2.2
    refine lv_aload_n hx hb dX14_value_19 rfl (lv_at hl 0 rfl) ?_
    refine lv_bipush (v := 41) hx hb dX14_value_20 (by decide) ?_
    refine lv_aload_n hx hb dX14_value_22 rfl (lv_at hl 0 rfl) ?_
    refine q_get hx hb hts hown hA hW iX14 rO_0 rfl 5 (by decide) (hts (.fieldLink RX14 20 "HighRecipesModel" "number" "[I") (by decide +kernel)) (fun _ h9 => h9) (v := .ref (M + 3)) rfl dX14_value_23 ?_
    refine lv_aload_n hx hb dX14_value_26 rfl (lv_at hl 0 rfl) ?_
    refine q_get hx hb hts hown hA hW iX14 rO_0 rfl 8 (by decide) (hts (.fieldLink RX14 120 "HighRecipesModel" "token" "I") (by decide +kernel)) (fun _ h9 => h9) (v := .int (nI (tk + 1))) (congrArg (fun z => some (Value.int z)) Q_19.1.1.1) dX14_value_27 ?_
    refine lv_iconst (v := 1) hx hb dX14_value_30 (by decide) ?_
    refine lv_isub hx hb dX14_value_31 ?_
    rw [nI_pred]
    refine q_ald hx hb hA hW (rO_3 (g := R_19 3) rfl) tk rfl (by omega) (by decide) (x := (Wd u.1).toInt32) (by rw [T_19.2.1 tk htk (by rw [hnw.2.1, ← hnw.2.2.1]; exact e38), hnw.2.1]) dX14_value_32 ?_
    refine lv_iconst (v := 0) hx hb dX14_value_33 (by decide) ?_
    refine q_ci (va_runV (As := [.int 41, .int ((Wd u.1).toInt32), .int 0]) (rest := []) ⟨hx, hb, hml, hown, hts⟩ (kX14_node l E (rO E f M R_19) n M R_19 nd 41 ((Wd u.1).toInt32) 0 rO_K Q_19.1.1.2.2.1 (by omega)) (cwV 3 hts gX14_value_X14_node rfl rfl rfl (by decide +kernel) ⟨(by show 0 + 1 ≤ 4 * d + 12; omega), (by show 8 + (5 + 11) + 0 ≤ 100 * d + 300; omega)⟩) (q_pV hA hW hS (ci := 12) rfl rO_0) rfl rfl hl.1 rfl (lv_room (Nat.le_of_ble_eq_true rfl)) dX14_value_34 ⟨Nat.le_of_ble_eq_true rfl, Nat.le_of_ble_eq_true rfl⟩) hS (fun r_34 f_34 n_34 H locs hp hW hS => ?_)
    obtain ⟨rfl, rfl, rfl⟩ := hp
    have hW : q_W E (rO E f M (rp (rp (rp (rp R_19 39 (upd (R_19 39) nd 41)) 40 (upd (R_19 40) nd ((Wd u.1).toInt32))) 41 (upd (R_19 41) nd 0)) 134 (fun _ => nI (nd + 1)))) n H := by rw [rO_rO] at hW; exact hW
    have hW : q_W E (rO E f M (rp (rp (rp (rp R_19 39 (upd (R_19 39) nd 41)) 40 (upd (R_19 40) nd ((Wd u.1).toInt32))) 41 (upd (R_19 41) nd 0)) 134 (fun _ => nI (nd + 1)))) n H := hW
    obtain ⟨R_37, hR_37⟩ : ∃ z, z = rp (rp (rp (rp R_19 39 (upd (R_19 39) nd 41)) 40 (upd (R_19 40) nd ((Wd u.1).toInt32))) 41 (upd (R_19 41) nd 0)) 134 (fun _ => nI (nd + 1)) := ⟨_, rfl⟩
    rw [← hR_37] at hW
    have Q_37 : r_Q r R_37 K T (p_take K 38 (p_new u)) tk nd cc ac (tk + 1) (nd + 1) cc ac := by rw [hR_37]; exact (Q_19.node (by omega) hnd)
    have T_37 := Q_37.tok hTK
    have num_37 := Q_37.2.2
    unfold r_num at num_37
    have bt_37 := Q_37.1.1.2.1
    have bn_37 := Q_37.1.1.2.2.2.1
    have bc_37 := Q_37.1.1.2.2.2.2.2.1
    have ba_37 := Q_37.1.1.2.2.2.2.2.2.2
    have z39_37 : R_37 39 nd = 41 := by rw [hR_37]; exact node_rows.1
    have z40_37 : R_37 40 nd = (Wd u.1).toInt32 := by rw [hR_37]; exact node_rows.2.1
    have z41_37 : R_37 41 nd = 0 := by rw [hR_37]; exact node_rows.2.2
    exact q_iret hx hb hr hlocks hW hS ⟨_, _, _, _, _, (by rw [val_38 e38]; exact Q_37), (show R_37 107 0 = r 107 0 from by rw [hR_37]; exact (show R_19 107 0 = r 107 0 from by rw [hR_19]; exact rfl)), (fun _ => (show R_37 108 0 = r 108 0 from by rw [hR_37]; exact (show R_19 108 0 = r 108 0 from by rw [hR_19]; exact rfl))), ⟨rfl, rfl⟩, (fun h1 h2 => ⟨nd, rfl, by omega, 38, z39_37, Or.inl ⟨rfl, by rw [valD_38 e38]; funext _ _; exact z40_37.symm⟩⟩), rfl, rfl⟩ (Nat.le_of_ble_eq_true rfl) (Nat.le_of_ble_eq_true rfl) dX14_value_37

set_option maxHeartbeats 4000000 in
set_option maxRecDepth 100000 in
theorem kX14_inBrackets0 (l : Launch) (E : q_E) (f : q_H) (n : Nat) (M : Nat) (r : q_R) (K : Nat → Nat) (Wd : Nat → Int64) (T : Nat) (u : p_S) (tk nd cc ac : Nat) (pN : Nat → Int64) (pn : Nat) (d : Nat)  (hm : RM E f M r) (hTK : r_T r K Wd T) (hT : T ≤ 400) (hKT : 39 ≤ K T) (hK41 : ∀ j, K j < 41) (hP : r_P r K T u tk nd cc ac) (hok : p_ok K T u) (hnm : r_nm r K Wd T 6 pn pN) (hpn : pn ≤ 8) (hpn9 : r 130 0 = nI pn) (hv8 : r 108 0 = nI (4 - d)) (hd4 : d ≤ 4) (hk27 : u.2.1 = 27) (hd0 : d = 0) : Met l yX14_inBrackets wsX14_inBrackets ({ frames := 4 * d + 11, cells := 0, slots := 0, locals := 100 * d + 270 }) (q_P E [.ref M] f n) (q_Qi E (fun r0 f1 n1 => ∃ (r1 : q_R) (tk1 nd1 cc1 ac1 : Nat), r_Q r r1 K T (p_val K Wd pN pn d u) tk nd cc ac tk1 nd1 cc1 ac1 ∧ r1 107 0 = r 107 0 ∧ ((p_val K Wd pN pn d u).2.1 ≠ 40 → r1 108 0 = r 108 0) ∧ (cc1 = cc ∧ ac1 = ac) ∧ (((p_val K Wd pN pn d u).2.1 ≠ 40 → (p_val K Wd pN pn d u).2.2.1 = 0 → ∃ a, r0 = nI a ∧ mV (bR r1 25) pn nd1 (d + 1) a (p_valD K Wd pN pn d u))) ∧ rO E f M r1 = f1 ∧ n = n1)) 0 0 (q_ge E) := by
  refine Met.ofW (cc := cX14_inBrackets) (maxL := 4) (ret := (some .int)) (by decide) rfl ?_
  intro p e s m args below meth c s₁ B hml hv
  obtain ⟨rfl, hA, hW⟩ := hv
  have hx := B.exec
  have hb := B.bytes
  have hr := B.returns
  have hts := atoms_spec (ws := wsX14_inBrackets) B.pre
  have hown : s.vm.findClass RX14 = some m.cls := findClass_of_methodNamed B.named
  have hlocks := B.notSynchronized
  have hS : va_S (q_ge E) s.heap s.heap [] := va_S.rf
  have iX14 : ∀ w ∈ wsX140, w ∈ wsX14_inBrackets := by decide +kernel
  have hl := lv_entry ([.ref M]) (n := 4) (Nat.le_of_ble_eq_true rfl)
  rw [lg_entry_eq]
  generalize (lg_sl ([.ref M]) ++ List.replicate (4 - (lg_sl ([.ref M])).length) Slot.unset).toArray = ls at hl ⊢
  have hl : lv_has ls 4 [(0, .ref M)] := hl
  have hmE := hm.eq
  rw [hm.eq] at hW
  have Q0 := r_Q.rf hP
  have htk := hP.1.2.1
  have hnd := hP.1.2.2.2.1
  have hcc := hP.1.2.2.2.2.2.1
  have hac := hP.1.2.2.2.2.2.2.2
  have Q0n : r_Q r r K T (p_new u) tk nd cc ac tk nd cc ac := Q0
  have okn := hok.new
  refine lv_aload_n hx hb dX14_inBrackets_0 rfl (lv_at hl 0 rfl) ?_
  refine q_get hx hb hts hown hA hW iX14 rO_0 rfl 13 (by decide) (hts (.fieldLink RX14 171 "HighRecipesModel" "valuesOpen" "I") (by decide +kernel)) (fun _ h9 => h9) (v := .int (nI (4 - d))) (congrArg (fun z => some (Value.int z)) hv8) dX14_inBrackets_1 ?_
  refine lv_iconst (v := 4) hx hb dX14_inBrackets_4 (by decide) ?_
  refine lv_icmp_ne (tgt := 12) hx hb dX14_inBrackets_5 (by decide) (fun c_5 => False.elim ((fun h9 => h9 (by rw [hd0]; rfl)) c_5)) (fun c_5 => ?_)
  refine lv_aload_n hx hb dX14_inBrackets_8 rfl (lv_at hl 0 rfl) ?_
  refine q_cv (va_runV (As := []) (rest := []) ⟨hx, hb, hml, hown, hts⟩ (kX14_wrong l E (rO E f M r) n M r K Wd T (p_new u) tk nd cc ac rO_K hTK hT hKT hK41 Q0n.1 okn) (cwV 0 hts gX14_inBrackets_X14_wrong rfl rfl rfl (by decide +kernel) ⟨(by show 0 + 1 ≤ 4 * d + 11; omega), (by show 8 + (1 + 11) + 0 ≤ 100 * d + 270; omega)⟩) (q_pV hA hW hS (ci := 12) rfl rO_0) rfl rfl hl.1 rfl (lv_room (Nat.le_of_ble_eq_true rfl)) dX14_inBrackets_9 ⟨Nat.le_of_ble_eq_true rfl, Nat.le_of_ble_eq_true rfl⟩) hS (fun f_9 n_9 H locs hp hW hS => ?_)
  obtain ⟨R_9, tk_9, nd_9, cc_9, ac_9, q_9, e7_9, e8_9, ec_9, ex_9, rfl, rfl⟩ := hp
  have G_9 : p_go K T (p_new u) (p_step K false (p_new u)) := (go_step hKT (fun h9 => by cases h9))
  have GG_9 := G_9 okn
  have ok_9 := GG_9.1
  have le_9 := GG_9.2.2.2.1
  have er_9 := GG_9.2.2.2.2
  have Q_9 := Q0n.trans q_9
  have T_9 := Q_9.tok hTK
  have num_9 := Q_9.2.2
  unfold r_num at num_9
  have bt_9 := Q_9.1.1.2.1
  have bn_9 := Q_9.1.1.2.2.2.1
  have bc_9 := Q_9.1.1.2.2.2.2.2.1
  have ba_9 := Q_9.1.1.2.2.2.2.2.2.2
  have qn_9 := q_9.2.2
  unfold r_num at qn_9
  rw [rO_rO] at hW
  have hW : q_W E (rO E f M R_9) n H := hW
  refine lv_aload_n hx hb dX14_inBrackets_12 rfl (lv_at hl 0 rfl) ?_
  refine lv_bipush (v := 50) hx hb dX14_inBrackets_13 (by decide) ?_
  refine q_cv (va_runV (As := [.int 50]) (rest := []) ⟨hx, hb, hml, hown, hts⟩ (kX14_take l E (rO E f M R_9) n M R_9 K Wd T (p_step K false (p_new u)) tk_9 nd_9 cc_9 ac_9 27 50 rO_K T_9 hT hKT hK41 Q_9.1 ok_9 rfl (by decide)) (cwV 1 hts gX14_inBrackets_X14_take rfl rfl rfl (by decide +kernel) ⟨(by show 1 + 1 ≤ 4 * d + 11; omega), (by show 8 + (2 + 11) + 21 ≤ 100 * d + 270; omega)⟩) (q_pV hA hW hS (ci := 12) rfl rO_0) rfl rfl hl.1 rfl (lv_room (Nat.le_of_ble_eq_true rfl)) dX14_inBrackets_15 ⟨Nat.le_of_ble_eq_true rfl, Nat.le_of_ble_eq_true rfl⟩) hS (fun f_15 n_15 H locs hp hW hS => ?_)
  obtain ⟨R_15, tk_15, nd_15, cc_15, ac_15, q_15, e7_15, e8_15, ec_15, ex_15, rfl, rfl⟩ := hp
  have G_15 : p_go K T (p_step K false (p_new u)) (p_take K 27 (p_step K false (p_new u))) := (go_take hKT (by decide))
  have GG_15 := G_15 ok_9
  have ok_15 := GG_15.1
  have le_15 := GG_15.2.2.2.1
  have er_15 := GG_15.2.2.2.2
  have Q_15 := Q_9.trans q_15
  have T_15 := Q_15.tok hTK
  have num_15 := Q_15.2.2
  unfold r_num at num_15
  have bt_15 := Q_15.1.1.2.1
  have bn_15 := Q_15.1.1.2.2.2.1
  have bc_15 := Q_15.1.1.2.2.2.2.2.1
  have ba_15 := Q_15.1.1.2.2.2.2.2.2.2
  have qn_15 := q_15.2.2
  unfold r_num at qn_15
  rw [rO_rO] at hW
  have hW : q_W E (rO E f M R_15) n H := hW
  refine lv_aload_n hx hb dX14_inBrackets_18 rfl (lv_at hl 0 rfl) ?_
  refine lv_dup hx hb dX14_inBrackets_19 rfl ?_
  refine q_get hx hb hts hown hA hW iX14 rO_0 rfl 13 (by decide) (hts (.fieldLink RX14 171 "HighRecipesModel" "valuesOpen" "I") (by decide +kernel)) (fun _ h9 => h9) (v := .int (nI (4 - d))) (congrArg (fun z => some (Value.int z)) (e8_15.trans (e8_9.trans hv8))) dX14_inBrackets_20 ?_
  refine lv_iconst (v := 1) hx hb dX14_inBrackets_23 (by decide) ?_
  refine lv_iadd hx hb dX14_inBrackets_24 ?_
  refine q_put hx hb hts hown hA hW hS iX14 tyX14 tyX14_ok nmX14 rO_0 rfl 13 (by decide) (hts (.fieldLink RX14 171 "HighRecipesModel" "valuesOpen" "I") (by decide +kernel)) (fun _ h9 => h9) rfl rfl rfl (Nat.le_of_ble_eq_true rfl) dX14_inBrackets_25 (fun H locs hW hS => ?_)
  have hW := q_s0 108 ((nI (4 - d)) + 1) hW rfl (by decide)
  obtain ⟨R_28, hR_28⟩ : ∃ z, z = rp R_15 108 (fun _ => (nI (4 - d)) + 1) := ⟨_, rfl⟩
  rw [← hR_28] at hW
  have Q_28 : r_Q r R_28 K T (p_take K 27 (p_step K false (p_new u))) tk nd cc ac tk_15 nd_15 cc_15 ac_15 := by rw [hR_28]; exact Q_15.u8
  have T_28 := Q_28.tok hTK
  have num_28 := Q_28.2.2
  unfold r_num at num_28
  have bt_28 := Q_28.1.1.2.1
  have bn_28 := Q_28.1.1.2.2.2.1
  have bc_28 := Q_28.1.1.2.2.2.2.2.1
  have ba_28 := Q_28.1.1.2.2.2.2.2.2.2
  refine lv_aload_n hx hb dX14_inBrackets_28 rfl (lv_at hl 0 rfl) ?_
  refine q_ci (va_runV (As := []) (rest := []) ⟨hx, hb, hml, hown, hts⟩ (kX14_valueB l E (rO E f M R_28) n M R_28 K Wd T (p_take K 27 (p_step K false (p_new u))) tk_15 nd_15 cc_15 ac_15 rO_K T_28 hT hKT hK41 Q_28.1 ok_15 (take_bad rfl (by decide)).2) (cwV 0 hts gX14_inBrackets_X14_value rfl rfl rfl (by decide +kernel) ⟨(by show 2 + 1 ≤ 4 * d + 11; omega), (by show 8 + (2 + 11) + 42 ≤ 100 * d + 270; omega)⟩) (q_pV hA hW hS (ci := 12) rfl rO_0) rfl rfl hl.1 rfl (lv_room (Nat.le_of_ble_eq_true rfl)) dX14_inBrackets_29 ⟨Nat.le_of_ble_eq_true rfl, Nat.le_of_ble_eq_true rfl⟩) hS (fun r_29 f_29 n_29 H locs hp hW hS => ?_)
  obtain ⟨R_29, tk_29, nd_29, cc_29, ac_29, q_29, e7_29, e8_29, ec_29, ex_29, rfl, rfl⟩ := hp
  have G_29 : p_go K T (p_take K 27 (p_step K false (p_new u))) (p_step K false (p_new (p_take K 27 (p_step K false (p_new u))))) := (go_new.trans (go_step hKT (fun h9 => by cases h9)))
  have GG_29 := G_29 ok_15
  have ok_29 := GG_29.1
  have le_29 := GG_29.2.2.2.1
  have er_29 := GG_29.2.2.2.2
  have Q_29 := Q_28.trans q_29
  have T_29 := Q_29.tok hTK
  have num_29 := Q_29.2.2
  unfold r_num at num_29
  have bt_29 := Q_29.1.1.2.1
  have bn_29 := Q_29.1.1.2.2.2.1
  have bc_29 := Q_29.1.1.2.2.2.2.2.1
  have ba_29 := Q_29.1.1.2.2.2.2.2.2.2
  have qn_29 := q_29.2.2
  unfold r_num at qn_29
  rw [rO_rO] at hW
  have hW : q_W E (rO E f M R_29) n H := hW
  refine lv_istore_n (lv' := [(1, .int r_29), (0, .ref M)]) hx hb dX14_inBrackets_32 rfl hl (by decide) rfl (fun ls hl => ?_)
  refine lv_aload_n hx hb dX14_inBrackets_33 rfl (lv_at hl 1 rfl) ?_
  refine q_get hx hb hts hown hA hW iX14 rO_0 rfl 4 (by decide) (hts (.fieldLink RX14 17 "HighRecipesModel" "kind" "[I") (by decide +kernel)) (fun _ h9 => h9) (v := .ref (M + 2)) rfl dX14_inBrackets_34 ?_
  refine lv_aload_n hx hb dX14_inBrackets_37 rfl (lv_at hl 1 rfl) ?_
  refine q_get hx hb hts hown hA hW iX14 rO_0 rfl 8 (by decide) (hts (.fieldLink RX14 120 "HighRecipesModel" "token" "I") (by decide +kernel)) (fun _ h9 => h9) (v := .int (nI tk_29)) (congrArg (fun z => some (Value.int z)) Q_29.1.1.1) dX14_inBrackets_38 ?_
  refine q_ald hx hb hA hW (rO_2 (g := R_29 2) rfl) tk_29 rfl (by omega) (by decide) (x := (R_29 2) tk_29) rfl dX14_inBrackets_41 ?_
  refine lv_istore_n (lv' := [(2, .int ((R_29 2) tk_29)), (1, .int r_29), (0, .ref M)]) hx hb dX14_inBrackets_42 rfl hl (by decide) rfl (fun ls hl => ?_)
  refine lv_aload_n hx hb dX14_inBrackets_43 rfl (lv_at hl 2 rfl) ?_
  refine q_get hx hb hts hown hA hW iX14 rO_0 rfl 9 (by decide) (hts (.fieldLink RX14 116 "HighRecipesModel" "isWrong" "Z") (by decide +kernel)) (fun _ h9 => h9) (v := .int 1) (congrArg (fun z => some (Value.int z)) ex_29.1) dX14_inBrackets_44 ?_
  refine lv_if_ne (tgt := 61) hx hb dX14_inBrackets_47 (by decide) (fun c_47 => ?_) (fun c_47 => False.elim ((fun h9 => absurd h9 (by decide)) c_47))
  refine lv_aload_n hx hb dX14_inBrackets_61 rfl (lv_at hl 2 rfl) ?_
  refine q_cv (va_runV (As := []) (rest := []) ⟨hx, hb, hml, hown, hts⟩ (kX14_wrong l E (rO E f M R_29) n M R_29 K Wd T (p_step K false (p_new (p_take K 27 (p_step K false (p_new u))))) tk_29 nd_29 cc_29 ac_29 rO_K T_29 hT hKT hK41 Q_29.1 ok_29) (cwV 0 hts gX14_inBrackets_X14_wrong rfl rfl rfl (by decide +kernel) ⟨(by show 0 + 1 ≤ 4 * d + 11; omega), (by show 8 + (1 + 11) + 0 ≤ 100 * d + 270; omega)⟩) (q_pV hA hW hS (ci := 12) rfl rO_0) rfl rfl hl.1 rfl (lv_room (Nat.le_of_ble_eq_true rfl)) dX14_inBrackets_62 ⟨Nat.le_of_ble_eq_true rfl, Nat.le_of_ble_eq_true rfl⟩) hS (fun f_62 n_62 H locs hp hW hS => ?_)
  obtain ⟨R_62, tk_62, nd_62, cc_62, ac_62, q_62, e7_62, e8_62, ec_62, ex_62, rfl, rfl⟩ := hp
  have G_62 : p_go K T (p_step K false (p_new (p_take K 27 (p_step K false (p_new u))))) (p_step K false (p_step K false (p_new (p_take K 27 (p_step K false (p_new u)))))) := (go_step hKT (fun h9 => by cases h9))
  have GG_62 := G_62 ok_29
  have ok_62 := GG_62.1
  have le_62 := GG_62.2.2.2.1
  have er_62 := GG_62.2.2.2.2
  have Q_62 := Q_29.trans q_62
  have T_62 := Q_62.tok hTK
  have num_62 := Q_62.2.2
  unfold r_num at num_62
  have bt_62 := Q_62.1.1.2.1
  have bn_62 := Q_62.1.1.2.2.2.1
  have bc_62 := Q_62.1.1.2.2.2.2.2.1
  have ba_62 := Q_62.1.1.2.2.2.2.2.2.2
  have qn_62 := q_62.2.2
  unfold r_num at qn_62
  rw [rO_rO] at hW
  have hW : q_W E (rO E f M R_62) n H := hW
  refine lv_iconst (v := 0) hx hb dX14_inBrackets_65 (by decide) ?_
  exact q_iret hx hb hr hlocks hW hS ⟨_, _, _, _, _, (by subst hd0; exact Q_62.cg ex_62 (by rw [val_27_0 hk27]; rfl) (by rw [val_27_0 hk27]; rfl)), (e7_62.trans (e7_29.trans (show R_28 107 0 = r 107 0 from by rw [hR_28]; exact (e7_15.trans (e7_9.trans rfl))))), (fun h1 => absurd (by subst hd0; rw [val_27_0 hk27]; rfl) h1), ⟨(ec_62.1.trans (ec_29.1.trans (ec_15.1.trans (ec_9.1.trans rfl)))), (ec_62.2.trans (ec_29.2.trans (ec_15.2.trans (ec_9.2.trans rfl))))⟩, (fun h1 h2 => absurd (by subst hd0; rw [val_27_0 hk27]; rfl) h1), rfl, rfl⟩ (Nat.le_of_ble_eq_true rfl) (Nat.le_of_ble_eq_true rfl) dX14_inBrackets_66

set_option maxHeartbeats 4000000 in
set_option maxRecDepth 100000 in
theorem kX14_inBracketsS (l : Launch) (E : q_E) (f : q_H) (n : Nat) (M : Nat) (r : q_R) (K : Nat → Nat) (Wd : Nat → Int64) (T : Nat) (u : p_S) (tk nd cc ac : Nat) (pN : Nat → Int64) (pn : Nat) (d d1 : Nat)  (hm : RM E f M r) (hTK : r_T r K Wd T) (hT : T ≤ 400) (hKT : 39 ≤ K T) (hK41 : ∀ j, K j < 41) (hP : r_P r K T u tk nd cc ac) (hok : p_ok K T u) (hnm : r_nm r K Wd T 6 pn pN) (hpn : pn ≤ 8) (hpn9 : r 130 0 = nI pn) (hv8 : r 108 0 = nI (4 - d)) (hd4 : d ≤ 4) (hk27 : u.2.1 = 27) (ihB : ∀ d1, d = d1 + 1 → RVAL l E d1) (hdd : d = d1 + 1) : Met l yX14_inBrackets wsX14_inBrackets ({ frames := 4 * d + 11, cells := 0, slots := 0, locals := 100 * d + 270 }) (q_P E [.ref M] f n) (q_Qi E (fun r0 f1 n1 => ∃ (r1 : q_R) (tk1 nd1 cc1 ac1 : Nat), r_Q r r1 K T (p_val K Wd pN pn d u) tk nd cc ac tk1 nd1 cc1 ac1 ∧ r1 107 0 = r 107 0 ∧ ((p_val K Wd pN pn d u).2.1 ≠ 40 → r1 108 0 = r 108 0) ∧ (cc1 = cc ∧ ac1 = ac) ∧ (((p_val K Wd pN pn d u).2.1 ≠ 40 → (p_val K Wd pN pn d u).2.2.1 = 0 → ∃ a, r0 = nI a ∧ mV (bR r1 25) pn nd1 (d + 1) a (p_valD K Wd pN pn d u))) ∧ rO E f M r1 = f1 ∧ n = n1)) 0 0 (q_ge E) := by
  refine Met.ofW (cc := cX14_inBrackets) (maxL := 4) (ret := (some .int)) (by decide) rfl ?_
  intro p e s m args below meth c s₁ B hml hv
  obtain ⟨rfl, hA, hW⟩ := hv
  have hx := B.exec
  have hb := B.bytes
  have hr := B.returns
  have hts := atoms_spec (ws := wsX14_inBrackets) B.pre
  have hown : s.vm.findClass RX14 = some m.cls := findClass_of_methodNamed B.named
  have hlocks := B.notSynchronized
  have hS : va_S (q_ge E) s.heap s.heap [] := va_S.rf
  have iX14 : ∀ w ∈ wsX140, w ∈ wsX14_inBrackets := by decide +kernel
  have hl := lv_entry ([.ref M]) (n := 4) (Nat.le_of_ble_eq_true rfl)
  rw [lg_entry_eq]
  generalize (lg_sl ([.ref M]) ++ List.replicate (4 - (lg_sl ([.ref M])).length) Slot.unset).toArray = ls at hl ⊢
  have hl : lv_has ls 4 [(0, .ref M)] := hl
  have hmE := hm.eq
  rw [hm.eq] at hW
  have Q0 := r_Q.rf hP
  have htk := hP.1.2.1
  have hnd := hP.1.2.2.2.1
  have hcc := hP.1.2.2.2.2.2.1
  have hac := hP.1.2.2.2.2.2.2.2
  have Q0n : r_Q r r K T (p_new u) tk nd cc ac tk nd cc ac := Q0
  have okn := hok.new
  refine lv_aload_n hx hb dX14_inBrackets_0 rfl (lv_at hl 0 rfl) ?_
  refine q_get hx hb hts hown hA hW iX14 rO_0 rfl 13 (by decide) (hts (.fieldLink RX14 171 "HighRecipesModel" "valuesOpen" "I") (by decide +kernel)) (fun _ h9 => h9) (v := .int (nI (4 - d))) (congrArg (fun z => some (Value.int z)) hv8) dX14_inBrackets_1 ?_
  refine lv_iconst (v := 4) hx hb dX14_inBrackets_4 (by decide) ?_
  refine lv_icmp_ne (tgt := 12) hx hb dX14_inBrackets_5 (by decide) (fun c_5 => ?_) (fun c_5 => False.elim ((fun h9 => absurd ((nI_eq (by omega) (by decide)).1 (show nI (4 - d) = nI 4 from h9)) (by omega)) c_5))
  refine lv_aload_n hx hb dX14_inBrackets_12 rfl (lv_at hl 0 rfl) ?_
  refine lv_bipush (v := 50) hx hb dX14_inBrackets_13 (by decide) ?_
  refine q_cv (va_runV (As := [.int 50]) (rest := []) ⟨hx, hb, hml, hown, hts⟩ (kX14_take l E (rO E f M r) n M r K Wd T (p_new u) tk nd cc ac 27 50 rO_K hTK hT hKT hK41 Q0n.1 okn rfl (by decide)) (cwV 1 hts gX14_inBrackets_X14_take rfl rfl rfl (by decide +kernel) ⟨(by show 1 + 1 ≤ 4 * d + 11; omega), (by show 8 + (2 + 11) + 21 ≤ 100 * d + 270; omega)⟩) (q_pV hA hW hS (ci := 12) rfl rO_0) rfl rfl hl.1 rfl (lv_room (Nat.le_of_ble_eq_true rfl)) dX14_inBrackets_15 ⟨Nat.le_of_ble_eq_true rfl, Nat.le_of_ble_eq_true rfl⟩) hS (fun f_15 n_15 H locs hp hW hS => ?_)
  obtain ⟨R_15, tk_15, nd_15, cc_15, ac_15, q_15, e7_15, e8_15, ec_15, ex_15, rfl, rfl⟩ := hp
  have G_15 : p_go K T (p_new u) (p_take K 27 (p_new u)) := (go_take hKT (by decide))
  have GG_15 := G_15 okn
  have ok_15 := GG_15.1
  have le_15 := GG_15.2.2.2.1
  have er_15 := GG_15.2.2.2.2
  have Q_15 := Q0n.trans q_15
  have T_15 := Q_15.tok hTK
  have num_15 := Q_15.2.2
  unfold r_num at num_15
  have bt_15 := Q_15.1.1.2.1
  have bn_15 := Q_15.1.1.2.2.2.1
  have bc_15 := Q_15.1.1.2.2.2.2.2.1
  have ba_15 := Q_15.1.1.2.2.2.2.2.2.2
  have qn_15 := q_15.2.2
  unfold r_num at qn_15
  rw [rO_rO] at hW
  have hW : q_W E (rO E f M R_15) n H := hW
  refine lv_aload_n hx hb dX14_inBrackets_18 rfl (lv_at hl 0 rfl) ?_
  refine lv_dup hx hb dX14_inBrackets_19 rfl ?_
  refine q_get hx hb hts hown hA hW iX14 rO_0 rfl 13 (by decide) (hts (.fieldLink RX14 171 "HighRecipesModel" "valuesOpen" "I") (by decide +kernel)) (fun _ h9 => h9) (v := .int (nI (4 - d))) (congrArg (fun z => some (Value.int z)) (e8_15.trans hv8)) dX14_inBrackets_20 ?_
  refine lv_iconst (v := 1) hx hb dX14_inBrackets_23 (by decide) ?_
  refine lv_iadd hx hb dX14_inBrackets_24 ?_
  refine q_put hx hb hts hown hA hW hS iX14 tyX14 tyX14_ok nmX14 rO_0 rfl 13 (by decide) (hts (.fieldLink RX14 171 "HighRecipesModel" "valuesOpen" "I") (by decide +kernel)) (fun _ h9 => h9) rfl rfl rfl (Nat.le_of_ble_eq_true rfl) dX14_inBrackets_25 (fun H locs hW hS => ?_)
  rw [show (nI (4 - d)) + 1 = nI (4 - d1) from (by rw [nI_1]; congr 1; omega)] at hW
  have hW := q_s0 108 (nI (4 - d1)) hW rfl (by decide)
  obtain ⟨R_28, hR_28⟩ : ∃ z, z = rp R_15 108 (fun _ => nI (4 - d1)) := ⟨_, rfl⟩
  rw [← hR_28] at hW
  have Q_28 : r_Q r R_28 K T (p_take K 27 (p_new u)) tk nd cc ac tk_15 nd_15 cc_15 ac_15 := by rw [hR_28]; exact Q_15.u8
  have T_28 := Q_28.tok hTK
  have num_28 := Q_28.2.2
  unfold r_num at num_28
  have bt_28 := Q_28.1.1.2.1
  have bn_28 := Q_28.1.1.2.2.2.1
  have bc_28 := Q_28.1.1.2.2.2.2.2.1
  have ba_28 := Q_28.1.1.2.2.2.2.2.2.2
  refine lv_aload_n hx hb dX14_inBrackets_28 rfl (lv_at hl 0 rfl) ?_
  refine q_ci (va_runV (As := []) (rest := []) ⟨hx, hb, hml, hown, hts⟩ (ihB d1 hdd (rO E f M R_28) n M R_28 K Wd T (p_take K 27 (p_new u)) tk_15 nd_15 cc_15 ac_15 pN pn rO_K T_28 hT hKT hK41 Q_28.1 ok_15 (hnm.mv (Q_28.2.1.1 6 (by decide) (by decide) (by decide))) hpn (show R_28 130 0 = nI pn from by rw [hR_28]; exact ((congrFun (q_15.2.1.1 130 (by decide) (by decide) (by decide)) 0).trans hpn9)) (show R_28 108 0 = nI (4 - d1) from by rw [hR_28]; rfl) (by omega)) (cwV 0 hts gX14_inBrackets_X14_value rfl rfl rfl (by decide +kernel) ⟨(by show (4 * d1 + 12) + 1 ≤ 4 * d + 11; omega), (by show 8 + (2 + 11) + (100 * d1 + 300) ≤ 100 * d + 270; omega)⟩) (q_pV hA hW hS (ci := 12) rfl rO_0) rfl rfl hl.1 rfl (lv_room (Nat.le_of_ble_eq_true rfl)) dX14_inBrackets_29 ⟨Nat.le_of_ble_eq_true rfl, Nat.le_of_ble_eq_true rfl⟩) hS (fun r_29 f_29 n_29 H locs hp hW hS => ?_)
  obtain ⟨R_29, tk_29, nd_29, cc_29, ac_29, q_29, e7_29, e8_29, ec_29, ex_29, rfl, rfl⟩ := hp
  have G_29 : p_go K T (p_take K 27 (p_new u)) (p_val K Wd pN pn d1 (p_take K 27 (p_new u))) := (go_val0 hKT d1 _)
  have GG_29 := G_29 ok_15
  have ok_29 := GG_29.1
  have le_29 := GG_29.2.2.2.1
  have er_29 := GG_29.2.2.2.2
  have Q_29 := Q_28.trans q_29
  have T_29 := Q_29.tok hTK
  have num_29 := Q_29.2.2
  unfold r_num at num_29
  have bt_29 := Q_29.1.1.2.1
  have bn_29 := Q_29.1.1.2.2.2.1
  have bc_29 := Q_29.1.1.2.2.2.2.2.1
  have ba_29 := Q_29.1.1.2.2.2.2.2.2.2
  have qn_29 := q_29.2.2
  unfold r_num at qn_29
  have Gm29_29 : r_G R_29 R_29 nd_29 cc_29 ac_29 := r_G.rf
  rw [rO_rO] at hW
  have hW : q_W E (rO E f M R_29) n H := hW
  refine lv_istore_n (lv' := [(1, .int r_29), (0, .ref M)]) hx hb dX14_inBrackets_32 rfl hl (by decide) rfl (fun ls hl => ?_)
  refine lv_aload_n hx hb dX14_inBrackets_33 rfl (lv_at hl 1 rfl) ?_
  refine q_get hx hb hts hown hA hW iX14 rO_0 rfl 4 (by decide) (hts (.fieldLink RX14 17 "HighRecipesModel" "kind" "[I") (by decide +kernel)) (fun _ h9 => h9) (v := .ref (M + 2)) rfl dX14_inBrackets_34 ?_
  refine lv_aload_n hx hb dX14_inBrackets_37 rfl (lv_at hl 1 rfl) ?_
  refine q_get hx hb hts hown hA hW iX14 rO_0 rfl 8 (by decide) (hts (.fieldLink RX14 120 "HighRecipesModel" "token" "I") (by decide +kernel)) (fun _ h9 => h9) (v := .int (nI tk_29)) (congrArg (fun z => some (Value.int z)) Q_29.1.1.1) dX14_inBrackets_38 ?_
  refine q_ald hx hb hA hW (rO_2 (g := R_29 2) rfl) tk_29 rfl (by omega) (by decide) (x := nI (m_kd (K tk_29))) (T_29.1 tk_29 bt_29) dX14_inBrackets_41 ?_
  refine lv_istore_n (lv' := [(2, .int (nI (m_kd (K tk_29)))), (1, .int r_29), (0, .ref M)]) hx hb dX14_inBrackets_42 rfl hl (by decide) rfl (fun ls hl => ?_)
  refine lv_aload_n hx hb dX14_inBrackets_43 rfl (lv_at hl 2 rfl) ?_
  refine q_get hx hb hts hown hA hW iX14 rO_0 rfl 9 (by decide) (hts (.fieldLink RX14 116 "HighRecipesModel" "isWrong" "Z") (by decide +kernel)) (fun _ h9 => h9) (v := .int (R_29 104 0)) rfl dX14_inBrackets_44 ?_
  refine lv_if_ne (tgt := 61) hx hb dX14_inBrackets_47 (by decide) (fun c_47 => ?_) (fun c_47 => ?_)
  · have w9 := Q_29.1.w1 c_47
    have ev : b_vsign (p_val K Wd pN pn d1 (p_take K 27 (p_new u))).2.1 = false := by rw [w9.2.1]; rfl
    refine lv_aload_n hx hb dX14_inBrackets_61 rfl (lv_at hl 2 rfl) ?_
    refine q_cv (va_runV (As := []) (rest := []) ⟨hx, hb, hml, hown, hts⟩ (kX14_wrong l E (rO E f M R_29) n M R_29 K Wd T (p_val K Wd pN pn d1 (p_take K 27 (p_new u))) tk_29 nd_29 cc_29 ac_29 rO_K T_29 hT hKT hK41 Q_29.1 ok_29) (cwV 0 hts gX14_inBrackets_X14_wrong rfl rfl rfl (by decide +kernel) ⟨(by show 0 + 1 ≤ 4 * d + 11; omega), (by show 8 + (1 + 11) + 0 ≤ 100 * d + 270; omega)⟩) (q_pV hA hW hS (ci := 12) rfl rO_0) rfl rfl hl.1 rfl (lv_room (Nat.le_of_ble_eq_true rfl)) dX14_inBrackets_62 ⟨Nat.le_of_ble_eq_true rfl, Nat.le_of_ble_eq_true rfl⟩) hS (fun f_62 n_62 H locs hp hW hS => ?_)
    obtain ⟨R_62, tk_62, nd_62, cc_62, ac_62, q_62, e7_62, e8_62, ec_62, ex_62, rfl, rfl⟩ := hp
    have G_62 : p_go K T (p_val K Wd pN pn d1 (p_take K 27 (p_new u))) (p_step K false (p_val K Wd pN pn d1 (p_take K 27 (p_new u)))) := (go_step hKT (fun h9 => by cases h9))
    have GG_62 := G_62 ok_29
    have ok_62 := GG_62.1
    have le_62 := GG_62.2.2.2.1
    have er_62 := GG_62.2.2.2.2
    have Q_62 := Q_29.trans q_62
    have T_62 := Q_62.tok hTK
    have num_62 := Q_62.2.2
    unfold r_num at num_62
    have bt_62 := Q_62.1.1.2.1
    have bn_62 := Q_62.1.1.2.2.2.1
    have bc_62 := Q_62.1.1.2.2.2.2.2.1
    have ba_62 := Q_62.1.1.2.2.2.2.2.2.2
    have qn_62 := q_62.2.2
    unfold r_num at qn_62
    have Gm29_62 := Gm29_29.trans q_62.2.1 (by omega) (by omega) (by omega)
    rw [rO_rO] at hW
    have hW : q_W E (rO E f M R_62) n H := hW
    refine lv_iconst (v := 0) hx hb dX14_inBrackets_65 (by decide) ?_
    exact q_iret hx hb hr hlocks hW hS ⟨_, _, _, _, _, (by subst hdd; exact Q_62.cg ex_62 (by rw [val_27 hk27]; exact ((take_bad (val_bad (mid_bad ev).2).2 (by decide)).1.trans ((val_bad (mid_bad ev).2).1.trans (mid_bad ev).1))) (by rw [val_27 hk27]; exact (take_bad (val_bad (mid_bad ev).2).2 (by decide)).2)), (e7_62.trans (e7_29.trans (show R_28 107 0 = r 107 0 from by rw [hR_28]; exact (e7_15.trans rfl)))), (fun h1 => absurd (by subst hdd; rw [val_27 hk27]; exact (take_bad (val_bad (mid_bad ev).2).2 (by decide)).2) h1), ⟨(ec_62.1.trans (ec_29.1.trans (ec_15.1.trans rfl))), (ec_62.2.trans (ec_29.2.trans (ec_15.2.trans rfl)))⟩, (fun h1 h2 => absurd (by subst hdd; rw [val_27 hk27]; exact (take_bad (val_bad (mid_bad ev).2).2 (by decide)).2) h1), rfl, rfl⟩ (Nat.le_of_ble_eq_true rfl) (Nat.le_of_ble_eq_true rfl) dX14_inBrackets_66
  · have w9 := Q_29.1.nw0 c_47
    refine lv_iload_n hx hb dX14_inBrackets_50 rfl (lv_at hl 0 rfl) ?_
    refine lv_bipush (v := 56) hx hb dX14_inBrackets_51 (by decide) ?_
    refine lv_bipush (v := 59) hx hb dX14_inBrackets_53 (by decide) ?_
    refine q_ci (va_runS (As := [.int (nI (m_kd (K tk_29))), .int 56, .int 59]) (rest := []) ⟨hx, hb, hml, hown, hts⟩ (kX14_isIn l E (rO E f M R_29) n (nI (m_kd (K tk_29))) 56 59) (va_cwS 3 hts gX14_inBrackets_X14_isIn rfl rfl rfl (by decide +kernel) ⟨(by show 0 + 1 ≤ 4 * d + 11; omega), (by show 8 + (3 + 11) + 0 ≤ 100 * d + 270; omega)⟩) (q_pS hA hW hS) rfl rfl hl.1 rfl (lv_room (Nat.le_of_ble_eq_true rfl)) dX14_inBrackets_55 ⟨Nat.le_of_ble_eq_true rfl, Nat.le_of_ble_eq_true rfl⟩) hS (fun r_55 f_55 n_55 H locs hp hW hS => ?_)
    obtain ⟨rfl, rfl, rfl⟩ := hp
    have hW : q_W E (rO E f M R_29) n H := hW
    refine lv_if_ne (tgt := 67) hx hb dX14_inBrackets_58 (by decide) (fun c_58 => ?_) (fun c_58 => ?_)
    · have ev : b_vsign (p_val K Wd pN pn d1 (p_take K 27 (p_new u))).2.1 = true := by rw [w9.2.1, ← w9.1, ← b_in_vs _ (hK41 _)]; exact b01_1 c_58
      have ek := (b_vsign_lt ev).1
      have h8_29 : R_29 108 0 = nI (4 - d1) := (e8_29 (by omega)).trans (show R_28 108 0 = nI (4 - d1) from by rw [hR_28]; rfl)
      refine lv_aload_n hx hb dX14_inBrackets_67 rfl (lv_at hl 2 rfl) ?_
      refine lv_dup hx hb dX14_inBrackets_68 rfl ?_
      refine q_get hx hb hts hown hA hW iX14 rO_0 rfl 8 (by decide) (hts (.fieldLink RX14 120 "HighRecipesModel" "token" "I") (by decide +kernel)) (fun _ h9 => h9) (v := .int (nI tk_29)) (congrArg (fun z => some (Value.int z)) Q_29.1.1.1) dX14_inBrackets_69 ?_
      refine lv_iconst (v := 1) hx hb dX14_inBrackets_72 (by decide) ?_
      refine lv_iadd hx hb dX14_inBrackets_73 ?_
      refine q_put hx hb hts hown hA hW hS iX14 tyX14 tyX14_ok nmX14 rO_0 rfl 8 (by decide) (hts (.fieldLink RX14 120 "HighRecipesModel" "token" "I") (by decide +kernel)) (fun _ h9 => h9) rfl rfl rfl (Nat.le_of_ble_eq_true rfl) dX14_inBrackets_74 (fun H locs hW hS => ?_)
      rw [show (nI tk_29) + 1 = nI (tk_29 + 1) from nI_1 tk_29] at hW
      have hW := q_s0 103 (nI (tk_29 + 1)) hW rfl (by decide)
      obtain ⟨R_77, hR_77⟩ : ∃ z, z = rp R_29 103 (fun _ => nI (tk_29 + 1)) := ⟨_, rfl⟩
      rw [← hR_77] at hW
      have Q_77 : r_Q r R_77 K T (p_mid K (p_val K Wd pN pn d1 (p_take K 27 (p_new u)))) tk nd cc ac (tk_29 + 1) nd_29 cc_29 ac_29 := by rw [hR_77]; exact (by unfold p_mid; rw [ev]; exact Q_29.inc ek hKT)
      have T_77 := Q_77.tok hTK
      have num_77 := Q_77.2.2
      unfold r_num at num_77
      have bt_77 := Q_77.1.1.2.1
      have bn_77 := Q_77.1.1.2.2.2.1
      have bc_77 := Q_77.1.1.2.2.2.2.2.1
      have ba_77 := Q_77.1.1.2.2.2.2.2.2.2
      have Gm29_77 : r_G R_29 R_77 nd_29 cc_29 ac_29 := by rw [hR_77]; exact (r_G.upS Gm29_29 (by decide))
      have G_77 : p_go K T (p_val K Wd pN pn d1 (p_take K 27 (p_new u))) (p_mid K (p_val K Wd pN pn d1 (p_take K 27 (p_new u)))) := (go_mid hKT)
      have GG_77 := G_77 ok_29
      have ok_77 := GG_77.1
      have le_77 := GG_77.2.2.2.1
      have er_77 := GG_77.2.2.2.2
      refine lv_aload_n hx hb dX14_inBrackets_77 rfl (lv_at hl 2 rfl) ?_
      refine q_ci (va_runV (As := []) (rest := []) ⟨hx, hb, hml, hown, hts⟩ (ihB d1 hdd (rO E f M R_77) n M R_77 K Wd T (p_mid K (p_val K Wd pN pn d1 (p_take K 27 (p_new u)))) (tk_29 + 1) nd_29 cc_29 ac_29 pN pn rO_K T_77 hT hKT hK41 Q_77.1 ok_77 (hnm.mv (Q_77.2.1.1 6 (by decide) (by decide) (by decide))) hpn (show R_77 130 0 = nI pn from by rw [hR_77]; exact ((congrFun (q_29.2.1.1 130 (by decide) (by decide) (by decide)) 0).trans (show R_28 130 0 = nI pn from by rw [hR_28]; exact ((congrFun (q_15.2.1.1 130 (by decide) (by decide) (by decide)) 0).trans hpn9)))) (show R_77 108 0 = nI (4 - d1) from by rw [hR_77]; exact h8_29) (by omega)) (cwV 0 hts gX14_inBrackets_X14_value rfl rfl rfl (by decide +kernel) ⟨(by show (4 * d1 + 12) + 1 ≤ 4 * d + 11; omega), (by show 8 + (2 + 11) + (100 * d1 + 300) ≤ 100 * d + 270; omega)⟩) (q_pV hA hW hS (ci := 12) rfl rO_0) rfl rfl hl.1 rfl (lv_room (Nat.le_of_ble_eq_true rfl)) dX14_inBrackets_78 ⟨Nat.le_of_ble_eq_true rfl, Nat.le_of_ble_eq_true rfl⟩) hS (fun r_78 f_78 n_78 H locs hp hW hS => ?_)
      obtain ⟨R_78, tk_78, nd_78, cc_78, ac_78, q_78, e7_78, e8_78, ec_78, ex_78, rfl, rfl⟩ := hp
      have G_78 : p_go K T (p_mid K (p_val K Wd pN pn d1 (p_take K 27 (p_new u)))) (p_val K Wd pN pn d1 (p_mid K (p_val K Wd pN pn d1 (p_take K 27 (p_new u))))) := (go_val0 hKT d1 _)
      have GG_78 := G_78 ok_77
      have ok_78 := GG_78.1
      have le_78 := GG_78.2.2.2.1
      have er_78 := GG_78.2.2.2.2
      have Q_78 := Q_77.trans q_78
      have T_78 := Q_78.tok hTK
      have num_78 := Q_78.2.2
      unfold r_num at num_78
      have bt_78 := Q_78.1.1.2.1
      have bn_78 := Q_78.1.1.2.2.2.1
      have bc_78 := Q_78.1.1.2.2.2.2.2.1
      have ba_78 := Q_78.1.1.2.2.2.2.2.2.2
      have qn_78 := q_78.2.2
      unfold r_num at qn_78
      have Gm29_78 := Gm29_77.trans q_78.2.1 (by omega) (by omega) (by omega)
      have Gm78_78 : r_G R_78 R_78 nd_78 cc_78 ac_78 := r_G.rf
      rw [rO_rO] at hW
      have hW : q_W E (rO E f M R_78) n H := hW
      refine lv_istore_n (lv' := [(3, .int r_78), (2, .int (nI (m_kd (K tk_29)))), (1, .int r_29), (0, .ref M)]) hx hb dX14_inBrackets_81 rfl hl (by decide) rfl (fun ls hl => ?_)
      refine lv_aload_n hx hb dX14_inBrackets_82 rfl (lv_at hl 3 rfl) ?_
      refine lv_bipush (v := 51) hx hb dX14_inBrackets_83 (by decide) ?_
      refine q_cv (va_runV (As := [.int 51]) (rest := []) ⟨hx, hb, hml, hown, hts⟩ (kX14_take l E (rO E f M R_78) n M R_78 K Wd T (p_val K Wd pN pn d1 (p_mid K (p_val K Wd pN pn d1 (p_take K 27 (p_new u))))) tk_78 nd_78 cc_78 ac_78 28 51 rO_K T_78 hT hKT hK41 Q_78.1 ok_78 rfl (by decide)) (cwV 1 hts gX14_inBrackets_X14_take rfl rfl rfl (by decide +kernel) ⟨(by show 1 + 1 ≤ 4 * d + 11; omega), (by show 8 + (2 + 11) + 21 ≤ 100 * d + 270; omega)⟩) (q_pV hA hW hS (ci := 12) rfl rO_0) rfl rfl hl.1 rfl (lv_room (Nat.le_of_ble_eq_true rfl)) dX14_inBrackets_85 ⟨Nat.le_of_ble_eq_true rfl, Nat.le_of_ble_eq_true rfl⟩) hS (fun f_85 n_85 H locs hp hW hS => ?_)
      obtain ⟨R_85, tk_85, nd_85, cc_85, ac_85, q_85, e7_85, e8_85, ec_85, ex_85, rfl, rfl⟩ := hp
      have G_85 : p_go K T (p_val K Wd pN pn d1 (p_mid K (p_val K Wd pN pn d1 (p_take K 27 (p_new u))))) (p_take K 28 (p_val K Wd pN pn d1 (p_mid K (p_val K Wd pN pn d1 (p_take K 27 (p_new u)))))) := (go_take hKT (by decide))
      have GG_85 := G_85 ok_78
      have ok_85 := GG_85.1
      have le_85 := GG_85.2.2.2.1
      have er_85 := GG_85.2.2.2.2
      have Q_85 := Q_78.trans q_85
      have T_85 := Q_85.tok hTK
      have num_85 := Q_85.2.2
      unfold r_num at num_85
      have bt_85 := Q_85.1.1.2.1
      have bn_85 := Q_85.1.1.2.2.2.1
      have bc_85 := Q_85.1.1.2.2.2.2.2.1
      have ba_85 := Q_85.1.1.2.2.2.2.2.2.2
      have qn_85 := q_85.2.2
      unfold r_num at qn_85
      have Gm29_85 := Gm29_78.trans q_85.2.1 (by omega) (by omega) (by omega)
      have Gm78_85 := Gm78_78.trans q_85.2.1 (by omega) (by omega) (by omega)
      rw [rO_rO] at hW
      have hW : q_W E (rO E f M R_85) n H := hW
      refine lv_aload_n hx hb dX14_inBrackets_88 rfl (lv_at hl 3 rfl) ?_
      refine lv_dup hx hb dX14_inBrackets_89 rfl ?_
      refine q_get hx hb hts hown hA hW iX14 rO_0 rfl 13 (by decide) (hts (.fieldLink RX14 171 "HighRecipesModel" "valuesOpen" "I") (by decide +kernel)) (fun _ h9 => h9) (v := .int (R_85 108 0)) rfl dX14_inBrackets_90 ?_
      refine lv_iconst (v := 1) hx hb dX14_inBrackets_93 (by decide) ?_
      refine lv_isub hx hb dX14_inBrackets_94 ?_
      refine q_put hx hb hts hown hA hW hS iX14 tyX14 tyX14_ok nmX14 rO_0 rfl 13 (by decide) (hts (.fieldLink RX14 171 "HighRecipesModel" "valuesOpen" "I") (by decide +kernel)) (fun _ h9 => h9) rfl rfl rfl (Nat.le_of_ble_eq_true rfl) dX14_inBrackets_95 (fun H locs hW hS => ?_)
      have hW := q_s0 108 ((R_85 108 0) - 1) hW rfl (by decide)
      obtain ⟨R_98, hR_98⟩ : ∃ z, z = rp R_85 108 (fun _ => (R_85 108 0) - 1) := ⟨_, rfl⟩
      rw [← hR_98] at hW
      have Q_98 : r_Q r R_98 K T (p_take K 28 (p_val K Wd pN pn d1 (p_mid K (p_val K Wd pN pn d1 (p_take K 27 (p_new u)))))) tk nd cc ac tk_85 nd_85 cc_85 ac_85 := by rw [hR_98]; exact Q_85.u8
      have T_98 := Q_98.tok hTK
      have num_98 := Q_98.2.2
      unfold r_num at num_98
      have bt_98 := Q_98.1.1.2.1
      have bn_98 := Q_98.1.1.2.2.2.1
      have bc_98 := Q_98.1.1.2.2.2.2.2.1
      have ba_98 := Q_98.1.1.2.2.2.2.2.2.2
      have Gm29_98 : r_G R_29 R_98 nd_29 cc_29 ac_29 := by rw [hR_98]; exact (r_G.upS Gm29_85 (by decide))
      have Gm78_98 : r_G R_78 R_98 nd_78 cc_78 ac_78 := by rw [hR_98]; exact (r_G.upS Gm78_85 (by decide))
      refine lv_aload_n hx hb dX14_inBrackets_98 rfl (lv_at hl 3 rfl) ?_
      refine lv_iload_n hx hb dX14_inBrackets_99 rfl (lv_at hl 1 rfl) ?_
      refine lv_iload_n hx hb dX14_inBrackets_100 rfl (lv_at hl 2 rfl) ?_
      refine lv_iload_n hx hb dX14_inBrackets_101 rfl (lv_at hl 0 rfl) ?_
      refine q_ci (va_runV (As := [.int (nI (m_kd (K tk_29))), .int r_29, .int r_78]) (rest := []) ⟨hx, hb, hml, hown, hts⟩ (kX14_node l E (rO E f M R_98) n M R_98 nd_85 (nI (m_kd (K tk_29))) r_29 r_78 rO_K Q_98.1.1.2.2.1 (by omega)) (cwV 3 hts gX14_inBrackets_X14_node rfl rfl rfl (by decide +kernel) ⟨(by show 0 + 1 ≤ 4 * d + 11; omega), (by show 8 + (5 + 11) + 0 ≤ 100 * d + 270; omega)⟩) (q_pV hA hW hS (ci := 12) rfl rO_0) rfl rfl hl.1 rfl (lv_room (Nat.le_of_ble_eq_true rfl)) dX14_inBrackets_102 ⟨Nat.le_of_ble_eq_true rfl, Nat.le_of_ble_eq_true rfl⟩) hS (fun r_102 f_102 n_102 H locs hp hW hS => ?_)
      obtain ⟨rfl, rfl, rfl⟩ := hp
      have hW : q_W E (rO E f M (rp (rp (rp (rp R_98 39 (upd (R_98 39) nd_85 (nI (m_kd (K tk_29))))) 40 (upd (R_98 40) nd_85 r_29)) 41 (upd (R_98 41) nd_85 r_78)) 134 (fun _ => nI (nd_85 + 1)))) n H := by rw [rO_rO] at hW; exact hW
      have hW : q_W E (rO E f M (rp (rp (rp (rp R_98 39 (upd (R_98 39) nd_85 (nI (m_kd (K tk_29))))) 40 (upd (R_98 40) nd_85 r_29)) 41 (upd (R_98 41) nd_85 r_78)) 134 (fun _ => nI (nd_85 + 1)))) n H := hW
      obtain ⟨R_105, hR_105⟩ : ∃ z, z = rp (rp (rp (rp R_98 39 (upd (R_98 39) nd_85 (nI (m_kd (K tk_29))))) 40 (upd (R_98 40) nd_85 r_29)) 41 (upd (R_98 41) nd_85 r_78)) 134 (fun _ => nI (nd_85 + 1)) := ⟨_, rfl⟩
      rw [← hR_105] at hW
      have Q_105 : r_Q r R_105 K T (p_take K 28 (p_val K Wd pN pn d1 (p_mid K (p_val K Wd pN pn d1 (p_take K 27 (p_new u)))))) tk nd cc ac tk_85 (nd_85 + 1) cc_85 ac_85 := by rw [hR_105]; exact (Q_98.node (by omega) hnd)
      have T_105 := Q_105.tok hTK
      have num_105 := Q_105.2.2
      unfold r_num at num_105
      have bt_105 := Q_105.1.1.2.1
      have bn_105 := Q_105.1.1.2.2.2.1
      have bc_105 := Q_105.1.1.2.2.2.2.2.1
      have ba_105 := Q_105.1.1.2.2.2.2.2.2.2
      have Gm29_105 : r_G R_29 R_105 nd_29 cc_29 ac_29 := by rw [hR_105]; exact (r_G.upS (r_G.upA (r_G.upA (r_G.upA Gm29_98 (by omega)) (by omega)) (by omega)) (by decide))
      have Gm78_105 : r_G R_78 R_105 nd_78 cc_78 ac_78 := by rw [hR_105]; exact (r_G.upS (r_G.upA (r_G.upA (r_G.upA Gm78_98 (by omega)) (by omega)) (by omega)) (by decide))
      have z39_105 : R_105 39 nd_85 = nI (m_kd (K tk_29)) := by rw [hR_105]; exact node_rows.1
      have z40_105 : R_105 40 nd_85 = r_29 := by rw [hR_105]; exact node_rows.2.1
      have z41_105 : R_105 41 nd_85 = r_78 := by rw [hR_105]; exact node_rows.2.2
      exact q_iret hx hb hr hlocks hW hS ⟨_, _, _, _, _, (by subst hdd; rw [val_27 hk27]; exact Q_105), (show R_105 107 0 = r 107 0 from by rw [hR_105]; exact (show R_98 107 0 = r 107 0 from by rw [hR_98]; exact (e7_85.trans (e7_78.trans (show R_77 107 0 = r 107 0 from by rw [hR_77]; exact (e7_29.trans (show R_28 107 0 = r 107 0 from by rw [hR_28]; exact (e7_15.trans rfl)))))))), (fun h1 => by subst hdd; rw [val_27 hk27] at h1; rw [(show R_105 108 0 = (R_85 108 0) - 1 from by rw [hR_105]; exact (show R_98 108 0 = (R_85 108 0) - 1 from by rw [hR_98]; rfl)), e8_85, e8_78 (le_85 h1), show R_77 108 0 = nI (4 - d1) from by rw [hR_77]; exact h8_29, hv8]; exact (show nI (4 - d1) - 1 = nI (4 - (d1 + 1)) from by rw [show (4 - d1) = (4 - (d1 + 1)) + 1 by omega]; exact nI_pred _)), ⟨(ec_85.1.trans (ec_78.1.trans (ec_29.1.trans (ec_15.1.trans rfl)))), (ec_85.2.trans (ec_78.2.trans (ec_29.2.trans (ec_15.2.trans rfl))))⟩, (fun h1 h2 => by subst hdd; rw [val_27 hk27] at h1 h2; have k2 := le_85 h1; have o2 := er_85 h2; have k1 := le_77 (le_78 k2); have o1 := er_77 (er_78 o2); obtain ⟨a1, i1, m1⟩ := ex_29 k1 o1; obtain ⟨a2, i2, m2⟩ := ex_78 k2 o2; refine ⟨nd_85, rfl, by omega, (p_val K Wd pN pn d1 (p_take K 27 (p_new u))).2.1, (by rw [w9.2.1, ← w9.1]; exact z39_105), Or.inr (Or.inr (Or.inr ⟨(b_vsign_lt ev).2.1, (b_vsign_lt ev).2.2, a1, a2, _, _, z40_105.trans i1, z41_105.trans i2, mV_G m1 Gm29_105 (by omega), mV_G m2 Gm78_105 (by omega), valD_27 hk27⟩))⟩), rfl, rfl⟩ (Nat.le_of_ble_eq_true rfl) (Nat.le_of_ble_eq_true rfl) dX14_inBrackets_105
    · have ev : b_vsign (p_val K Wd pN pn d1 (p_take K 27 (p_new u))).2.1 = false := by rw [w9.2.1, ← w9.1, ← b_in_vs _ (hK41 _)]; exact b01_0 c_58
      refine lv_aload_n hx hb dX14_inBrackets_61 rfl (lv_at hl 2 rfl) ?_
      refine q_cv (va_runV (As := []) (rest := []) ⟨hx, hb, hml, hown, hts⟩ (kX14_wrong l E (rO E f M R_29) n M R_29 K Wd T (p_val K Wd pN pn d1 (p_take K 27 (p_new u))) tk_29 nd_29 cc_29 ac_29 rO_K T_29 hT hKT hK41 Q_29.1 ok_29) (cwV 0 hts gX14_inBrackets_X14_wrong rfl rfl rfl (by decide +kernel) ⟨(by show 0 + 1 ≤ 4 * d + 11; omega), (by show 8 + (1 + 11) + 0 ≤ 100 * d + 270; omega)⟩) (q_pV hA hW hS (ci := 12) rfl rO_0) rfl rfl hl.1 rfl (lv_room (Nat.le_of_ble_eq_true rfl)) dX14_inBrackets_62 ⟨Nat.le_of_ble_eq_true rfl, Nat.le_of_ble_eq_true rfl⟩) hS (fun f_62 n_62 H locs hp hW hS => ?_)
      obtain ⟨R_62, tk_62, nd_62, cc_62, ac_62, q_62, e7_62, e8_62, ec_62, ex_62, rfl, rfl⟩ := hp
      have G_62 : p_go K T (p_val K Wd pN pn d1 (p_take K 27 (p_new u))) (p_step K false (p_val K Wd pN pn d1 (p_take K 27 (p_new u)))) := (go_step hKT (fun h9 => by cases h9))
      have GG_62 := G_62 ok_29
      have ok_62 := GG_62.1
      have le_62 := GG_62.2.2.2.1
      have er_62 := GG_62.2.2.2.2
      have Q_62 := Q_29.trans q_62
      have T_62 := Q_62.tok hTK
      have num_62 := Q_62.2.2
      unfold r_num at num_62
      have bt_62 := Q_62.1.1.2.1
      have bn_62 := Q_62.1.1.2.2.2.1
      have bc_62 := Q_62.1.1.2.2.2.2.2.1
      have ba_62 := Q_62.1.1.2.2.2.2.2.2.2
      have qn_62 := q_62.2.2
      unfold r_num at qn_62
      have Gm29_62 := Gm29_29.trans q_62.2.1 (by omega) (by omega) (by omega)
      rw [rO_rO] at hW
      have hW : q_W E (rO E f M R_62) n H := hW
      refine lv_iconst (v := 0) hx hb dX14_inBrackets_65 (by decide) ?_
      exact q_iret hx hb hr hlocks hW hS ⟨_, _, _, _, _, (by subst hdd; exact Q_62.cg ex_62 (by rw [val_27 hk27]; exact ((take_bad (val_bad (mid_bad ev).2).2 (by decide)).1.trans ((val_bad (mid_bad ev).2).1.trans (mid_bad ev).1))) (by rw [val_27 hk27]; exact (take_bad (val_bad (mid_bad ev).2).2 (by decide)).2)), (e7_62.trans (e7_29.trans (show R_28 107 0 = r 107 0 from by rw [hR_28]; exact (e7_15.trans rfl)))), (fun h1 => absurd (by subst hdd; rw [val_27 hk27]; exact (take_bad (val_bad (mid_bad ev).2).2 (by decide)).2) h1), ⟨(ec_62.1.trans (ec_29.1.trans (ec_15.1.trans rfl))), (ec_62.2.trans (ec_29.2.trans (ec_15.2.trans rfl)))⟩, (fun h1 h2 => absurd (by subst hdd; rw [val_27 hk27]; exact (take_bad (val_bad (mid_bad ev).2).2 (by decide)).2) h1), rfl, rfl⟩ (Nat.le_of_ble_eq_true rfl) (Nat.le_of_ble_eq_true rfl) dX14_inBrackets_66

theorem rval_all (l : Launch) (E : q_E) : ∀ d, RVAL l E d
  | 0 => fun f n M r K Wd T u tk nd cc ac pN pn hm hTK hT hKT hK41 hP hok hnm hpn hpn9 hv8 hd4 =>
    kX14_value l E f n M r K Wd T u tk nd cc ac pN pn 0 hm hTK hT hKT hK41 hP hok hnm hpn hpn9 hv8 hd4 (fun d1 h => by cases h) (fun h27 f n M r tk nd cc ac hm hTK hP hnm hpn9 hv8 => kX14_inBrackets0 l E f n M r K Wd T u tk nd cc ac pN pn 0 hm hTK hT hKT hK41 hP hok hnm hpn hpn9 hv8 hd4 h27 rfl)
  | d + 1 => fun f n M r K Wd T u tk nd cc ac pN pn hm hTK hT hKT hK41 hP hok hnm hpn hpn9 hv8 hd4 =>
    have ihB : ∀ d1, d + 1 = d1 + 1 → RVAL l E d1 := fun d1 h => by cases h; exact rval_all l E d
    kX14_value l E f n M r K Wd T u tk nd cc ac pN pn (d + 1) hm hTK hT hKT hK41 hP hok hnm hpn hpn9 hv8 hd4 ihB (fun h27 f n M r tk nd cc ac hm hTK hP hnm hpn9 hv8 => kX14_inBracketsS l E f n M r K Wd T u tk nd cc ac pN pn (d + 1) d hm hTK hT hKT hK41 hP hok hnm hpn hpn9 hv8 hd4 h27 ihB rfl)
