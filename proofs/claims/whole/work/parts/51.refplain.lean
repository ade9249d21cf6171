/-! acts without blocks -/
theorem r_Q.trans9 {r r1 r2 : q_R} {K : Nat → Nat} {T : Nat} {u1 u2 : p_S} {tk nd cc ac tk1 nd1 cc1 ac1 k9 tk2 nd2 cc2 ac2 : Nat} (h : r_Q r r1 K T u1 tk nd cc ac tk1 nd1 cc1 ac1) (h2 : r_Q r1 r2 K T u2 tk1 nd1 cc1 k9 tk2 nd2 cc2 ac2) (hk : ac ≤ k9) : r_Q r r2 K T u2 tk nd cc ac tk2 nd2 cc2 ac2 := by
  obtain ⟨hP, hG, hn⟩ := h
  obtain ⟨hP2, hG2, hn2⟩ := h2
  unfold r_num at hn hn2
  exact ⟨hP2, hG.trans hG2 (by omega) (by omega) hk, by unfold r_num; omega⟩
theorem r_Q.st {r r1 : q_R} {K : Nat → Nat} {T : Nat} {u1 : p_S} {tk nd cc fa tk1 nd1 cc1 ac1 j q0 : Nat} {x : Int32} (h : r_Q r r1 K T u1 tk nd cc fa tk1 nd1 cc1 ac1) (hj : 28 ≤ j ∧ j ≤ 35) (hq : fa ≤ q0) : r_Q r (rp r1 j (upd (r1 j) q0 x)) K T u1 tk nd cc fa tk1 nd1 cc1 ac1 := by
  obtain ⟨⟨hn, hc⟩, hG, hm⟩ := h
  have e : ∀ k, 100 ≤ k → rp r1 j (upd (r1 j) q0 x) k = r1 k := fun k hk => rp_n (by omega)
  refine ⟨⟨?_, ?_⟩, hG.upA (by omega), hm⟩
  · rw [e 103 (by decide), e 134 (by decide), e 133 (by decide), e 132 (by decide)]; exact hn
  · rw [e 104 (by decide), e 105 (by decide), e 106 (by decide)]; exact hc
theorem st_row {r : q_R} {j q0 : Nat} {x : Int32} : (rp r j (upd (r j) q0 x)) j q0 = x := by rw [rp_s, z_us]

set_option maxHeartbeats 4000000 in
set_option maxRecDepth 100000 in
theorem kX14_plain_12 (l : Launch) (E : q_E) (f : q_H) (n : Nat) (M : Nat) (r : q_R) (K : Nat → Nat) (Wd : Nat → Int64) (T : Nat) (u : p_S) (tk nd cc ac : Nat) (pN : Nat → Int64) (pn : Nat) (rN : Nat → Int64) (rc k9 : Nat)  (hm : RM E f M r) (hTK : r_T r K Wd T) (hT : T ≤ 400) (hKT : 39 ≤ K T) (hK41 : ∀ j, K j < 41) (hP : r_P r K T u tk nd cc ac) (hok : p_ok K T u) (hnm : r_nm r K Wd T 6 pn pN) (hpn : pn ≤ 8) (hpn9 : r 130 0 = nI pn) (hnr : r_nm r K Wd T 7 rc rN) (hrc : rc ≤ 6) (hrc9 : r 109 0 = nI rc) (hv8 : r 108 0 = nI (4 - 4)) (hk9 : k9 ≤ ac) : Met l yX14_plain wsX14_plain ({ frames := 29, cells := 0, slots := 0, locals := 721 }) (q_P E [.ref M, .int (nI k9), .int 12] f n) (q_Qv E (fun f1 n1 => ∃ (r1 : q_R) (tk1 nd1 cc1 ac1 : Nat), r_Q r r1 K T (p_take K 29 (p_val K Wd pN pn 4 u)) tk nd cc k9 tk1 nd1 cc1 ac1 ∧ r1 107 0 = r 107 0 ∧ ((p_take K 29 (p_val K Wd pN pn 4 u)).2.1 ≠ 40 → r1 108 0 = r 108 0) ∧ (cc1 = cc ∧ ac1 = ac) ∧ ((k9 < ac → r1 35 k9 = r 35 k9 ∧ r1 28 k9 = r 28 k9) ∧ (k9 < ac → (p_take K 29 (p_val K Wd pN pn 4 u)).2.1 ≠ 40 → (p_take K 29 (p_val K Wd pN pn 4 u)).2.2.1 = 0 → ∃ x, r1 30 k9 = nI x ∧ mV (bR r1 25) pn nd1 5 x (p_valD K Wd pN pn 4 u))) ∧ rO E f M r1 = f1 ∧ n = n1)) 0 0 (q_ge E) := by
  refine Met.ofW (cc := cX14_plain) (maxL := 3) (ret := none) (by decide) rfl ?_
  intro p e s m args below meth c s₁ B hml hv
  obtain ⟨rfl, hA, hW⟩ := hv
  have hx := B.exec
  have hb := B.bytes
  have hr := B.returns
  have hts := atoms_spec (ws := wsX14_plain) B.pre
  have hown : s.vm.findClass RX14 = some m.cls := findClass_of_methodNamed B.named
  have hlocks := B.notSynchronized
  have hS : va_S (q_ge E) s.heap s.heap [] := va_S.rf
  have iX13 : ∀ w ∈ wsX130, w ∈ wsX14_plain := by decide +kernel
  have iX14 : ∀ w ∈ wsX140, w ∈ wsX14_plain := by decide +kernel
  have hl := lv_entry ([.ref M, .int (nI k9), .int 12]) (n := 3) (Nat.le_of_ble_eq_true rfl)
  rw [lg_entry_eq]
  generalize (lg_sl ([.ref M, .int (nI k9), .int 12]) ++ List.replicate (3 - (lg_sl ([.ref M, .int (nI k9), .int 12])).length) Slot.unset).toArray = ls at hl ⊢
  have hl : lv_has ls 3 [(0, .ref M), (1, .int (nI k9)), (2, .int 12)] := hl
  have hmE := hm.eq
  rw [hm.eq] at hW
  have Q0 := r_Q.rf hP
  have htk := hP.1.2.1
  have hnd := hP.1.2.2.2.1
  have hcc := hP.1.2.2.2.2.2.1
  have hac := hP.1.2.2.2.2.2.2.2
  have Q9 : r_Q r r K T u tk nd cc k9 tk nd cc ac := ⟨hP, r_G.rf, ⟨Nat.le_refl _, Nat.le_refl _, Nat.le_refl _, Nat.le_refl _, Nat.le_refl _, hk9⟩⟩
  refine lv_iload_n hx hb dX14_plain_0 rfl (lv_at hl 2 rfl) ?_
  refine lv_tableIn (x := 12) (off := 247) (tgt := 248) hx hb dX14_plain_1 (by decide) (by decide) (by decide) (by decide) ?_
  refine lv_aload_n hx hb dX14_plain_248 rfl (lv_at hl 0 rfl) ?_
  refine q_get hx hb hts hown hA hW iX14 rO_0 rfl 18 (by decide) (hts (.fieldLink RX14 42 "HighRecipesModel" "fresh" "LHighRecipesModel$Book;") (by decide +kernel)) (fun _ h9 => h9) (v := .ref (M + 25)) rfl dX14_plain_249 ?_
  refine q_getN hx hb hts hown hA hW iX13 rO_25 rfl 7 (by decide) (va_Nw.use rfl (hA.2.2.2.1 ("HighRecipesModel", 239, "HighRecipesModel$Book", "value", "[I", "HighRecipesModel") (by decide +kernel))) (fun _ h9 => h9) (v := .ref (M + 30)) rfl dX14_plain_252 ?_
  refine lv_iload_n hx hb dX14_plain_255 rfl (lv_at hl 1 rfl) ?_
  refine lv_aload_n hx hb dX14_plain_256 rfl (lv_at hl 0 rfl) ?_
  refine q_ci (va_runV (As := []) (rest := [.int (nI k9), .ref (M + 30)]) ⟨hx, hb, hml, hown, hts⟩ (rval_all l E 4 (rO E f M r) n M r K Wd T u tk nd cc ac pN pn rO_K hTK hT hKT hK41 Q9.1 hok (hnm.mv (Q9.2.1.1 6 (by decide) (by decide) (by decide))) hpn hpn9 hv8 (by decide)) (cwV 0 hts gX14_plain_X14_value rfl rfl rfl (by decide +kernel) ⟨(Nat.le_of_ble_eq_true rfl), (Nat.le_of_ble_eq_true rfl)⟩) (q_pV hA hW hS (ci := 12) rfl rO_0) rfl rfl hl.1 rfl (lv_room (Nat.le_of_ble_eq_true rfl)) dX14_plain_257 ⟨Nat.le_of_ble_eq_true rfl, Nat.le_of_ble_eq_true rfl⟩) hS (fun r_257 f_257 n_257 H locs hp hW hS => ?_)
  obtain ⟨R_257, tk_257, nd_257, cc_257, ac_257, q_257, e7_257, e8_257, ec_257, ex_257, rfl, rfl⟩ := hp
  have G_257 : p_go K T u (p_val K Wd pN pn 4 u) := (go_val0 hKT 4 _)
  have GG_257 := G_257 hok
  have ok_257 := GG_257.1
  have le_257 := GG_257.2.2.2.1
  have er_257 := GG_257.2.2.2.2
  have Q_257 := Q9.trans q_257
  have T_257 := Q_257.tok hTK
  have num_257 := Q_257.2.2
  unfold r_num at num_257
  have bt_257 := Q_257.1.1.2.1
  have bn_257 := Q_257.1.1.2.2.2.1
  have bc_257 := Q_257.1.1.2.2.2.2.2.1
  have ba_257 := Q_257.1.1.2.2.2.2.2.2.2
  have qn_257 := q_257.2.2
  unfold r_num at qn_257
  have Gm257_257 : r_G R_257 R_257 nd_257 cc_257 k9 := r_G.rf
  have y35_257 : k9 < ac → R_257 35 k9 = r 35 k9 := fun h0 => (q_257.2.1.2.2.2 35 k9 (by decide) (by decide) (by omega)).trans ((fun _ => rfl) h0)
  have y28_257 : k9 < ac → R_257 28 k9 = r 28 k9 := fun h0 => (q_257.2.1.2.2.2 28 k9 (by decide) (by decide) (by omega)).trans ((fun _ => rfl) h0)
  rw [rO_rO] at hW
  have hW : q_W E (rO E f M R_257) n H := hW
  refine q_ast hx hb hA hW hS (rO_30 (g := R_257 30) rfl) k9 rfl (by omega) (by decide) dX14_plain_260 (fun H locs hW hS => ?_)
  have hW := q_sa 30 hW rfl rfl
  obtain ⟨R_261, hR_261⟩ : ∃ z, z = rp R_257 30 (upd (R_257 30) k9 r_257) := ⟨_, rfl⟩
  rw [← hR_261] at hW
  have Q_261 : r_Q r R_261 K T (p_val K Wd pN pn 4 u) tk nd cc k9 tk_257 nd_257 cc_257 ac_257 := by rw [hR_261]; exact (Q_257.st (by decide) (by omega))
  have T_261 := Q_261.tok hTK
  have num_261 := Q_261.2.2
  unfold r_num at num_261
  have bt_261 := Q_261.1.1.2.1
  have bn_261 := Q_261.1.1.2.2.2.1
  have bc_261 := Q_261.1.1.2.2.2.2.2.1
  have ba_261 := Q_261.1.1.2.2.2.2.2.2.2
  have Gm257_261 : r_G R_257 R_261 nd_257 cc_257 k9 := by rw [hR_261]; exact (r_G.upA Gm257_257 (by omega))
  have y35_261 : k9 < ac → R_261 35 k9 = r 35 k9 := fun h0 => by rw [hR_261]; exact y35_257 h0
  have y28_261 : k9 < ac → R_261 28 k9 = r 28 k9 := fun h0 => by rw [hR_261]; exact y28_257 h0
  have y30_261 : k9 < ac → R_261 30 k9 = r_257 := fun _ => by rw [hR_261]; exact st_row (r := R_257) (j := 30) (q0 := k9) (x := r_257)
  refine lv_aload_n hx hb dX14_plain_261 rfl (lv_at hl 0 rfl) ?_
  refine lv_bipush (v := 52) hx hb dX14_plain_262 (by decide) ?_
  refine q_cv (va_runV (As := [.int 52]) (rest := []) ⟨hx, hb, hml, hown, hts⟩ (kX14_take l E (rO E f M R_261) n M R_261 K Wd T (p_val K Wd pN pn 4 u) tk_257 nd_257 cc_257 ac_257 29 52 rO_K T_261 hT hKT hK41 Q_261.1 ok_257 rfl (by decide)) (cwV 1 hts gX14_plain_X14_take rfl rfl rfl (by decide +kernel) ⟨(Nat.le_of_ble_eq_true rfl), (Nat.le_of_ble_eq_true rfl)⟩) (q_pV hA hW hS (ci := 12) rfl rO_0) rfl rfl hl.1 rfl (lv_room (Nat.le_of_ble_eq_true rfl)) dX14_plain_264 ⟨Nat.le_of_ble_eq_true rfl, Nat.le_of_ble_eq_true rfl⟩) hS (fun f_264 n_264 H locs hp hW hS => ?_)
  obtain ⟨R_264, tk_264, nd_264, cc_264, ac_264, q_264, e7_264, e8_264, ec_264, ex_264, rfl, rfl⟩ := hp
  have G_264 : p_go K T (p_val K Wd pN pn 4 u) (p_take K 29 (p_val K Wd pN pn 4 u)) := (go_take hKT (by decide))
  have GG_264 := G_264 ok_257
  have ok_264 := GG_264.1
  have le_264 := GG_264.2.2.2.1
  have er_264 := GG_264.2.2.2.2
  have Q_264 := Q_261.trans q_264
  have T_264 := Q_264.tok hTK
  have num_264 := Q_264.2.2
  unfold r_num at num_264
  have bt_264 := Q_264.1.1.2.1
  have bn_264 := Q_264.1.1.2.2.2.1
  have bc_264 := Q_264.1.1.2.2.2.2.2.1
  have ba_264 := Q_264.1.1.2.2.2.2.2.2.2
  have qn_264 := q_264.2.2
  unfold r_num at qn_264
  have Gm257_264 := Gm257_261.trans q_264.2.1 (by omega) (by omega) (by omega)
  have y35_264 : k9 < ac → R_264 35 k9 = r 35 k9 := fun h0 => (q_264.2.1.2.2.2 35 k9 (by decide) (by decide) (by omega)).trans (y35_261 h0)
  have y28_264 : k9 < ac → R_264 28 k9 = r 28 k9 := fun h0 => (q_264.2.1.2.2.2 28 k9 (by decide) (by decide) (by omega)).trans (y28_261 h0)
  have y30_264 : k9 < ac → R_264 30 k9 = r_257 := fun h0 => (q_264.2.1.2.2.2 30 k9 (by decide) (by decide) (by omega)).trans (y30_261 h0)
  rw [rO_rO] at hW
  have hW : q_W E (rO E f M R_264) n H := hW
  exact q_vret hx hb hr hlocks hW hS ⟨_, _, _, _, _, Q_264, (e7_264.trans (show R_261 107 0 = r 107 0 from by rw [hR_261]; exact (e7_257.trans rfl))), (fun z => e8_264.trans ((fun z => (show R_261 108 0 = r 108 0 from by rw [hR_261]; exact (fun z => (e8_257 z).trans rfl) z)) (le_264 z))), ⟨(ec_264.1.trans (ec_257.1.trans rfl)), (ec_264.2.trans (ec_257.2.trans rfl))⟩, ⟨(fun h0 => ⟨(y35_264 h0), (y28_264 h0)⟩), (fun h0 h1 h2 => by obtain ⟨a, i, m⟩ := ex_257 (le_264 h1) (er_264 h2); exact ⟨a, ((y30_264 h0)).trans i, mV_G m Gm257_264 (by omega)⟩)⟩, rfl, rfl⟩ (Nat.le_of_ble_eq_true rfl) (Nat.le_of_ble_eq_true rfl) dX14_plain_267

set_option maxHeartbeats 4000000 in
set_option maxRecDepth 100000 in
theorem kX14_plain_13 (l : Launch) (E : q_E) (f : q_H) (n : Nat) (M : Nat) (r : q_R) (K : Nat → Nat) (Wd : Nat → Int64) (T : Nat) (u : p_S) (tk nd cc ac : Nat) (pN : Nat → Int64) (pn : Nat) (rN : Nat → Int64) (rc k9 : Nat)  (hm : RM E f M r) (hTK : r_T r K Wd T) (hT : T ≤ 400) (hKT : 39 ≤ K T) (hK41 : ∀ j, K j < 41) (hP : r_P r K T u tk nd cc ac) (hok : p_ok K T u) (hnm : r_nm r K Wd T 6 pn pN) (hpn : pn ≤ 8) (hpn9 : r 130 0 = nI pn) (hnr : r_nm r K Wd T 7 rc rN) (hrc : rc ≤ 6) (hrc9 : r 109 0 = nI rc) (hv8 : r 108 0 = nI (4 - 4)) (hk9 : k9 ≤ ac) : Met l yX14_plain wsX14_plain ({ frames := 29, cells := 0, slots := 0, locals := 721 }) (q_P E [.ref M, .int (nI k9), .int 13] f n) (q_Qv E (fun f1 n1 => ∃ (r1 : q_R) (tk1 nd1 cc1 ac1 : Nat), r_Q r r1 K T (p_take K 29 (p_val K Wd pN pn 4 u)) tk nd cc k9 tk1 nd1 cc1 ac1 ∧ r1 107 0 = r 107 0 ∧ ((p_take K 29 (p_val K Wd pN pn 4 u)).2.1 ≠ 40 → r1 108 0 = r 108 0) ∧ (cc1 = cc ∧ ac1 = ac) ∧ ((k9 < ac → r1 35 k9 = r 35 k9 ∧ r1 28 k9 = r 28 k9) ∧ (k9 < ac → (p_take K 29 (p_val K Wd pN pn 4 u)).2.1 ≠ 40 → (p_take K 29 (p_val K Wd pN pn 4 u)).2.2.1 = 0 → ∃ x, r1 30 k9 = nI x ∧ mV (bR r1 25) pn nd1 5 x (p_valD K Wd pN pn 4 u))) ∧ rO E f M r1 = f1 ∧ n = n1)) 0 0 (q_ge E) := by
  refine Met.ofW (cc := cX14_plain) (maxL := 3) (ret := none) (by decide) rfl ?_
  intro p e s m args below meth c s₁ B hml hv
  obtain ⟨rfl, hA, hW⟩ := hv
  have hx := B.exec
  have hb := B.bytes
  have hr := B.returns
  have hts := atoms_spec (ws := wsX14_plain) B.pre
  have hown : s.vm.findClass RX14 = some m.cls := findClass_of_methodNamed B.named
  have hlocks := B.notSynchronized
  have hS : va_S (q_ge E) s.heap s.heap [] := va_S.rf
  have iX13 : ∀ w ∈ wsX130, w ∈ wsX14_plain := by decide +kernel
  have iX14 : ∀ w ∈ wsX140, w ∈ wsX14_plain := by decide +kernel
  have hl := lv_entry ([.ref M, .int (nI k9), .int 13]) (n := 3) (Nat.le_of_ble_eq_true rfl)
  rw [lg_entry_eq]
  generalize (lg_sl ([.ref M, .int (nI k9), .int 13]) ++ List.replicate (3 - (lg_sl ([.ref M, .int (nI k9), .int 13])).length) Slot.unset).toArray = ls at hl ⊢
  have hl : lv_has ls 3 [(0, .ref M), (1, .int (nI k9)), (2, .int 13)] := hl
  have hmE := hm.eq
  rw [hm.eq] at hW
  have Q0 := r_Q.rf hP
  have htk := hP.1.2.1
  have hnd := hP.1.2.2.2.1
  have hcc := hP.1.2.2.2.2.2.1
  have hac := hP.1.2.2.2.2.2.2.2
  have Q9 : r_Q r r K T u tk nd cc k9 tk nd cc ac := ⟨hP, r_G.rf, ⟨Nat.le_refl _, Nat.le_refl _, Nat.le_refl _, Nat.le_refl _, Nat.le_refl _, hk9⟩⟩
  refine lv_iload_n hx hb dX14_plain_0 rfl (lv_at hl 2 rfl) ?_
  refine lv_tableIn (x := 13) (off := 247) (tgt := 248) hx hb dX14_plain_1 (by decide) (by decide) (by decide) (by decide) ?_
  refine lv_aload_n hx hb dX14_plain_248 rfl (lv_at hl 0 rfl) ?_
  refine q_get hx hb hts hown hA hW iX14 rO_0 rfl 18 (by decide) (hts (.fieldLink RX14 42 "HighRecipesModel" "fresh" "LHighRecipesModel$Book;") (by decide +kernel)) (fun _ h9 => h9) (v := .ref (M + 25)) rfl dX14_plain_249 ?_
  refine q_getN hx hb hts hown hA hW iX13 rO_25 rfl 7 (by decide) (va_Nw.use rfl (hA.2.2.2.1 ("HighRecipesModel", 239, "HighRecipesModel$Book", "value", "[I", "HighRecipesModel") (by decide +kernel))) (fun _ h9 => h9) (v := .ref (M + 30)) rfl dX14_plain_252 ?_
  refine lv_iload_n hx hb dX14_plain_255 rfl (lv_at hl 1 rfl) ?_
  refine lv_aload_n hx hb dX14_plain_256 rfl (lv_at hl 0 rfl) ?_
  refine q_ci (va_runV (As := []) (rest := [.int (nI k9), .ref (M + 30)]) ⟨hx, hb, hml, hown, hts⟩ (rval_all l E 4 (rO E f M r) n M r K Wd T u tk nd cc ac pN pn rO_K hTK hT hKT hK41 Q9.1 hok (hnm.mv (Q9.2.1.1 6 (by decide) (by decide) (by decide))) hpn hpn9 hv8 (by decide)) (cwV 0 hts gX14_plain_X14_value rfl rfl rfl (by decide +kernel) ⟨(Nat.le_of_ble_eq_true rfl), (Nat.le_of_ble_eq_true rfl)⟩) (q_pV hA hW hS (ci := 12) rfl rO_0) rfl rfl hl.1 rfl (lv_room (Nat.le_of_ble_eq_true rfl)) dX14_plain_257 ⟨Nat.le_of_ble_eq_true rfl, Nat.le_of_ble_eq_true rfl⟩) hS (fun r_257 f_257 n_257 H locs hp hW hS => ?_)
  obtain ⟨R_257, tk_257, nd_257, cc_257, ac_257, q_257, e7_257, e8_257, ec_257, ex_257, rfl, rfl⟩ := hp
  have G_257 : p_go K T u (p_val K Wd pN pn 4 u) := (go_val0 hKT 4 _)
  have GG_257 := G_257 hok
  have ok_257 := GG_257.1
  have le_257 := GG_257.2.2.2.1
  have er_257 := GG_257.2.2.2.2
  have Q_257 := Q9.trans q_257
  have T_257 := Q_257.tok hTK
  have num_257 := Q_257.2.2
  unfold r_num at num_257
  have bt_257 := Q_257.1.1.2.1
  have bn_257 := Q_257.1.1.2.2.2.1
  have bc_257 := Q_257.1.1.2.2.2.2.2.1
  have ba_257 := Q_257.1.1.2.2.2.2.2.2.2
  have qn_257 := q_257.2.2
  unfold r_num at qn_257
  have Gm257_257 : r_G R_257 R_257 nd_257 cc_257 k9 := r_G.rf
  have y35_257 : k9 < ac → R_257 35 k9 = r 35 k9 := fun h0 => (q_257.2.1.2.2.2 35 k9 (by decide) (by decide) (by omega)).trans ((fun _ => rfl) h0)
  have y28_257 : k9 < ac → R_257 28 k9 = r 28 k9 := fun h0 => (q_257.2.1.2.2.2 28 k9 (by decide) (by decide) (by omega)).trans ((fun _ => rfl) h0)
  rw [rO_rO] at hW
  have hW : q_W E (rO E f M R_257) n H := hW
  refine q_ast hx hb hA hW hS (rO_30 (g := R_257 30) rfl) k9 rfl (by omega) (by decide) dX14_plain_260 (fun H locs hW hS => ?_)
  have hW := q_sa 30 hW rfl rfl
  obtain ⟨R_261, hR_261⟩ : ∃ z, z = rp R_257 30 (upd (R_257 30) k9 r_257) := ⟨_, rfl⟩
  rw [← hR_261] at hW
  have Q_261 : r_Q r R_261 K T (p_val K Wd pN pn 4 u) tk nd cc k9 tk_257 nd_257 cc_257 ac_257 := by rw [hR_261]; exact (Q_257.st (by decide) (by omega))
  have T_261 := Q_261.tok hTK
  have num_261 := Q_261.2.2
  unfold r_num at num_261
  have bt_261 := Q_261.1.1.2.1
  have bn_261 := Q_261.1.1.2.2.2.1
  have bc_261 := Q_261.1.1.2.2.2.2.2.1
  have ba_261 := Q_261.1.1.2.2.2.2.2.2.2
  have Gm257_261 : r_G R_257 R_261 nd_257 cc_257 k9 := by rw [hR_261]; exact (r_G.upA Gm257_257 (by omega))
  have y35_261 : k9 < ac → R_261 35 k9 = r 35 k9 := fun h0 => by rw [hR_261]; exact y35_257 h0
  have y28_261 : k9 < ac → R_261 28 k9 = r 28 k9 := fun h0 => by rw [hR_261]; exact y28_257 h0
  have y30_261 : k9 < ac → R_261 30 k9 = r_257 := fun _ => by rw [hR_261]; exact st_row (r := R_257) (j := 30) (q0 := k9) (x := r_257)
  refine lv_aload_n hx hb dX14_plain_261 rfl (lv_at hl 0 rfl) ?_
  refine lv_bipush (v := 52) hx hb dX14_plain_262 (by decide) ?_
  refine q_cv (va_runV (As := [.int 52]) (rest := []) ⟨hx, hb, hml, hown, hts⟩ (kX14_take l E (rO E f M R_261) n M R_261 K Wd T (p_val K Wd pN pn 4 u) tk_257 nd_257 cc_257 ac_257 29 52 rO_K T_261 hT hKT hK41 Q_261.1 ok_257 rfl (by decide)) (cwV 1 hts gX14_plain_X14_take rfl rfl rfl (by decide +kernel) ⟨(Nat.le_of_ble_eq_true rfl), (Nat.le_of_ble_eq_true rfl)⟩) (q_pV hA hW hS (ci := 12) rfl rO_0) rfl rfl hl.1 rfl (lv_room (Nat.le_of_ble_eq_true rfl)) dX14_plain_264 ⟨Nat.le_of_ble_eq_true rfl, Nat.le_of_ble_eq_true rfl⟩) hS (fun f_264 n_264 H locs hp hW hS => ?_)
  obtain ⟨R_264, tk_264, nd_264, cc_264, ac_264, q_264, e7_264, e8_264, ec_264, ex_264, rfl, rfl⟩ := hp
  have G_264 : p_go K T (p_val K Wd pN pn 4 u) (p_take K 29 (p_val K Wd pN pn 4 u)) := (go_take hKT (by decide))
  have GG_264 := G_264 ok_257
  have ok_264 := GG_264.1
  have le_264 := GG_264.2.2.2.1
  have er_264 := GG_264.2.2.2.2
  have Q_264 := Q_261.trans q_264
  have T_264 := Q_264.tok hTK
  have num_264 := Q_264.2.2
  unfold r_num at num_264
  have bt_264 := Q_264.1.1.2.1
  have bn_264 := Q_264.1.1.2.2.2.1
  have bc_264 := Q_264.1.1.2.2.2.2.2.1
  have ba_264 := Q_264.1.1.2.2.2.2.2.2.2
  have qn_264 := q_264.2.2
  unfold r_num at qn_264
  have Gm257_264 := Gm257_261.trans q_264.2.1 (by omega) (by omega) (by omega)
  have y35_264 : k9 < ac → R_264 35 k9 = r 35 k9 := fun h0 => (q_264.2.1.2.2.2 35 k9 (by decide) (by decide) (by omega)).trans (y35_261 h0)
  have y28_264 : k9 < ac → R_264 28 k9 = r 28 k9 := fun h0 => (q_264.2.1.2.2.2 28 k9 (by decide) (by decide) (by omega)).trans (y28_261 h0)
  have y30_264 : k9 < ac → R_264 30 k9 = r_257 := fun h0 => (q_264.2.1.2.2.2 30 k9 (by decide) (by decide) (by omega)).trans (y30_261 h0)
  rw [rO_rO] at hW
  have hW : q_W E (rO E f M R_264) n H := hW
  exact q_vret hx hb hr hlocks hW hS ⟨_, _, _, _, _, Q_264, (e7_264.trans (show R_261 107 0 = r 107 0 from by rw [hR_261]; exact (e7_257.trans rfl))), (fun z => e8_264.trans ((fun z => (show R_261 108 0 = r 108 0 from by rw [hR_261]; exact (fun z => (e8_257 z).trans rfl) z)) (le_264 z))), ⟨(ec_264.1.trans (ec_257.1.trans rfl)), (ec_264.2.trans (ec_257.2.trans rfl))⟩, ⟨(fun h0 => ⟨(y35_264 h0), (y28_264 h0)⟩), (fun h0 h1 h2 => by obtain ⟨a, i, m⟩ := ex_257 (le_264 h1) (er_264 h2); exact ⟨a, ((y30_264 h0)).trans i, mV_G m Gm257_264 (by omega)⟩)⟩, rfl, rfl⟩ (Nat.le_of_ble_eq_true rfl) (Nat.le_of_ble_eq_true rfl) dX14_plain_267

set_option maxHeartbeats 4000000 in
set_option maxRecDepth 100000 in
theorem kX14_plain_11 (l : Launch) (E : q_E) (f : q_H) (n : Nat) (M : Nat) (r : q_R) (K : Nat → Nat) (Wd : Nat → Int64) (T : Nat) (u : p_S) (tk nd cc ac : Nat) (pN : Nat → Int64) (pn : Nat) (rN : Nat → Int64) (rc k9 : Nat)  (hm : RM E f M r) (hTK : r_T r K Wd T) (hT : T ≤ 400) (hKT : 39 ≤ K T) (hK41 : ∀ j, K j < 41) (hP : r_P r K T u tk nd cc ac) (hok : p_ok K T u) (hnm : r_nm r K Wd T 6 pn pN) (hpn : pn ≤ 8) (hpn9 : r 130 0 = nI pn) (hnr : r_nm r K Wd T 7 rc rN) (hrc : rc ≤ 6) (hrc9 : r 109 0 = nI rc) (hv8 : r 108 0 = nI (4 - 4)) (hk9 : k9 ≤ ac) : Met l yX14_plain wsX14_plain ({ frames := 4, cells := 0, slots := 0, locals := 89 }) (q_P E [.ref M, .int (nI k9), .int 11] f n) (q_Qv E (fun f1 n1 => ∃ (r1 : q_R) (tk1 nd1 cc1 ac1 : Nat), r_Q r r1 K T (p_take K 29 (p_known K Wd pN pn u)) tk nd cc k9 tk1 nd1 cc1 ac1 ∧ r1 107 0 = r 107 0 ∧ ((p_take K 29 (p_known K Wd pN pn u)).2.1 ≠ 40 → r1 108 0 = r 108 0) ∧ (cc1 = cc ∧ ac1 = ac) ∧ ((k9 < ac → r1 35 k9 = r 35 k9 ∧ r1 28 k9 = r 28 k9) ∧ (k9 < ac → (p_take K 29 (p_known K Wd pN pn u)).2.1 ≠ 40 → (p_take K 29 (p_known K Wd pN pn u)).2.2.1 = 0 → ∃ i, i < pn ∧ ix pN pn (Wd u.1) = nI i ∧ r1 29 k9 = nI i)) ∧ rO E f M r1 = f1 ∧ n = n1)) 0 0 (q_ge E) := by
  refine Met.ofW (cc := cX14_plain) (maxL := 3) (ret := none) (by decide) rfl ?_
  intro p e s m args below meth c s₁ B hml hv
  obtain ⟨rfl, hA, hW⟩ := hv
  have hx := B.exec
  have hb := B.bytes
  have hr := B.returns
  have hts := atoms_spec (ws := wsX14_plain) B.pre
  have hown : s.vm.findClass RX14 = some m.cls := findClass_of_methodNamed B.named
  have hlocks := B.notSynchronized
  have hS : va_S (q_ge E) s.heap s.heap [] := va_S.rf
  have iX13 : ∀ w ∈ wsX130, w ∈ wsX14_plain := by decide +kernel
  have iX14 : ∀ w ∈ wsX140, w ∈ wsX14_plain := by decide +kernel
  have hl := lv_entry ([.ref M, .int (nI k9), .int 11]) (n := 3) (Nat.le_of_ble_eq_true rfl)
  rw [lg_entry_eq]
  generalize (lg_sl ([.ref M, .int (nI k9), .int 11]) ++ List.replicate (3 - (lg_sl ([.ref M, .int (nI k9), .int 11])).length) Slot.unset).toArray = ls at hl ⊢
  have hl : lv_has ls 3 [(0, .ref M), (1, .int (nI k9)), (2, .int 11)] := hl
  have hmE := hm.eq
  rw [hm.eq] at hW
  have Q0 := r_Q.rf hP
  have htk := hP.1.2.1
  have hnd := hP.1.2.2.2.1
  have hcc := hP.1.2.2.2.2.2.1
  have hac := hP.1.2.2.2.2.2.2.2
  have Q9 : r_Q r r K T u tk nd cc k9 tk nd cc ac := ⟨hP, r_G.rf, ⟨Nat.le_refl _, Nat.le_refl _, Nat.le_refl _, Nat.le_refl _, Nat.le_refl _, hk9⟩⟩
  refine lv_iload_n hx hb dX14_plain_0 rfl (lv_at hl 2 rfl) ?_
  refine lv_tableIn (x := 11) (off := 207) (tgt := 208) hx hb dX14_plain_1 (by decide) (by decide) (by decide) (by decide) ?_
  refine lv_aload_n hx hb dX14_plain_208 rfl (lv_at hl 0 rfl) ?_
  refine q_get hx hb hts hown hA hW iX14 rO_0 rfl 18 (by decide) (hts (.fieldLink RX14 42 "HighRecipesModel" "fresh" "LHighRecipesModel$Book;") (by decide +kernel)) (fun _ h9 => h9) (v := .ref (M + 25)) rfl dX14_plain_209 ?_
  refine q_getN hx hb hts hown hA hW iX13 rO_25 rfl 6 (by decide) (va_Nw.use rfl (hA.2.2.2.1 ("HighRecipesModel", 250, "HighRecipesModel$Book", "whom", "[I", "HighRecipesModel") (by decide +kernel))) (fun _ h9 => h9) (v := .ref (M + 29)) rfl dX14_plain_212 ?_
  refine lv_iload_n hx hb dX14_plain_215 rfl (lv_at hl 1 rfl) ?_
  refine lv_aload_n hx hb dX14_plain_216 rfl (lv_at hl 0 rfl) ?_
  refine q_ci (va_runV (As := []) (rest := [.int (nI k9), .ref (M + 29)]) ⟨hx, hb, hml, hown, hts⟩ (kX14_pan l E (rO E f M r) n M r K Wd T u tk nd cc ac pN pn rO_K hTK hT hKT hK41 Q9.1 hok (hnm.mv (Q9.2.1.1 6 (by decide) (by decide) (by decide))) hpn hpn9) (cwV 0 hts gX14_plain_X14_pan rfl rfl rfl (by decide +kernel) ⟨(Nat.le_of_ble_eq_true rfl), (Nat.le_of_ble_eq_true rfl)⟩) (q_pV hA hW hS (ci := 12) rfl rO_0) rfl rfl hl.1 rfl (lv_room (Nat.le_of_ble_eq_true rfl)) dX14_plain_217 ⟨Nat.le_of_ble_eq_true rfl, Nat.le_of_ble_eq_true rfl⟩) hS (fun r_217 f_217 n_217 H locs hp hW hS => ?_)
  obtain ⟨R_217, tk_217, nd_217, cc_217, ac_217, q_217, e7_217, e8_217, ec_217, ex_217, rfl, rfl⟩ := hp
  have G_217 : p_go K T u (p_known K Wd pN pn u) := (go_known hKT)
  have GG_217 := G_217 hok
  have ok_217 := GG_217.1
  have le_217 := GG_217.2.2.2.1
  have er_217 := GG_217.2.2.2.2
  have Q_217 := Q9.trans q_217
  have T_217 := Q_217.tok hTK
  have num_217 := Q_217.2.2
  unfold r_num at num_217
  have bt_217 := Q_217.1.1.2.1
  have bn_217 := Q_217.1.1.2.2.2.1
  have bc_217 := Q_217.1.1.2.2.2.2.2.1
  have ba_217 := Q_217.1.1.2.2.2.2.2.2.2
  have qn_217 := q_217.2.2
  unfold r_num at qn_217
  have y35_217 : k9 < ac → R_217 35 k9 = r 35 k9 := fun h0 => (q_217.2.1.2.2.2 35 k9 (by decide) (by decide) (by omega)).trans ((fun _ => rfl) h0)
  have y28_217 : k9 < ac → R_217 28 k9 = r 28 k9 := fun h0 => (q_217.2.1.2.2.2 28 k9 (by decide) (by decide) (by omega)).trans ((fun _ => rfl) h0)
  rw [rO_rO] at hW
  have hW : q_W E (rO E f M R_217) n H := hW
  refine q_ast hx hb hA hW hS (rO_29 (g := R_217 29) rfl) k9 rfl (by omega) (by decide) dX14_plain_220 (fun H locs hW hS => ?_)
  have hW := q_sa 29 hW rfl rfl
  refine lv_goto (tgt := 261) hx hb dX14_plain_221 (by decide) ?_
  obtain ⟨R_261, hR_261⟩ : ∃ z, z = rp R_217 29 (upd (R_217 29) k9 r_217) := ⟨_, rfl⟩
  rw [← hR_261] at hW
  have Q_261 : r_Q r R_261 K T (p_known K Wd pN pn u) tk nd cc k9 tk_217 nd_217 cc_217 ac_217 := by rw [hR_261]; exact (Q_217.st (by decide) (by omega))
  have T_261 := Q_261.tok hTK
  have num_261 := Q_261.2.2
  unfold r_num at num_261
  have bt_261 := Q_261.1.1.2.1
  have bn_261 := Q_261.1.1.2.2.2.1
  have bc_261 := Q_261.1.1.2.2.2.2.2.1
  have ba_261 := Q_261.1.1.2.2.2.2.2.2.2
  have y35_261 : k9 < ac → R_261 35 k9 = r 35 k9 := fun h0 => by rw [hR_261]; exact y35_217 h0
  have y28_261 : k9 < ac → R_261 28 k9 = r 28 k9 := fun h0 => by rw [hR_261]; exact y28_217 h0
  have y29_261 : k9 < ac → R_261 29 k9 = r_217 := fun _ => by rw [hR_261]; exact st_row (r := R_217) (j := 29) (q0 := k9) (x := r_217)
  refine lv_aload_n hx hb dX14_plain_261 rfl (lv_at hl 0 rfl) ?_
  refine lv_bipush (v := 52) hx hb dX14_plain_262 (by decide) ?_
  refine q_cv (va_runV (As := [.int 52]) (rest := []) ⟨hx, hb, hml, hown, hts⟩ (kX14_take l E (rO E f M R_261) n M R_261 K Wd T (p_known K Wd pN pn u) tk_217 nd_217 cc_217 ac_217 29 52 rO_K T_261 hT hKT hK41 Q_261.1 ok_217 rfl (by decide)) (cwV 1 hts gX14_plain_X14_take rfl rfl rfl (by decide +kernel) ⟨(Nat.le_of_ble_eq_true rfl), (Nat.le_of_ble_eq_true rfl)⟩) (q_pV hA hW hS (ci := 12) rfl rO_0) rfl rfl hl.1 rfl (lv_room (Nat.le_of_ble_eq_true rfl)) dX14_plain_264 ⟨Nat.le_of_ble_eq_true rfl, Nat.le_of_ble_eq_true rfl⟩) hS (fun f_264 n_264 H locs hp hW hS => ?_)
  obtain ⟨R_264, tk_264, nd_264, cc_264, ac_264, q_264, e7_264, e8_264, ec_264, ex_264, rfl, rfl⟩ := hp
  have G_264 : p_go K T (p_known K Wd pN pn u) (p_take K 29 (p_known K Wd pN pn u)) := (go_take hKT (by decide))
  have GG_264 := G_264 ok_217
  have ok_264 := GG_264.1
  have le_264 := GG_264.2.2.2.1
  have er_264 := GG_264.2.2.2.2
  have Q_264 := Q_261.trans q_264
  have T_264 := Q_264.tok hTK
  have num_264 := Q_264.2.2
  unfold r_num at num_264
  have bt_264 := Q_264.1.1.2.1
  have bn_264 := Q_264.1.1.2.2.2.1
  have bc_264 := Q_264.1.1.2.2.2.2.2.1
  have ba_264 := Q_264.1.1.2.2.2.2.2.2.2
  have qn_264 := q_264.2.2
  unfold r_num at qn_264
  have y35_264 : k9 < ac → R_264 35 k9 = r 35 k9 := fun h0 => (q_264.2.1.2.2.2 35 k9 (by decide) (by decide) (by omega)).trans (y35_261 h0)
  have y28_264 : k9 < ac → R_264 28 k9 = r 28 k9 := fun h0 => (q_264.2.1.2.2.2 28 k9 (by decide) (by decide) (by omega)).trans (y28_261 h0)
  have y29_264 : k9 < ac → R_264 29 k9 = r_217 := fun h0 => (q_264.2.1.2.2.2 29 k9 (by decide) (by decide) (by omega)).trans (y29_261 h0)
  rw [rO_rO] at hW
  have hW : q_W E (rO E f M R_264) n H := hW
  exact q_vret hx hb hr hlocks hW hS ⟨_, _, _, _, _, Q_264, (e7_264.trans (show R_261 107 0 = r 107 0 from by rw [hR_261]; exact (e7_217.trans rfl))), (fun _ => (e8_264.trans (show R_261 108 0 = r 108 0 from by rw [hR_261]; exact (e8_217.trans rfl)))), ⟨(ec_264.1.trans (ec_217.1.trans rfl)), (ec_264.2.trans (ec_217.2.trans rfl))⟩, ⟨(fun h0 => ⟨(y35_264 h0), (y28_264 h0)⟩), (fun h0 h1 h2 => by obtain ⟨i, i1, i2, i3⟩ := ex_217 (le_264 h1) (er_264 h2); exact ⟨i, i1, i2, ((y29_264 h0)).trans i3⟩)⟩, rfl, rfl⟩ (Nat.le_of_ble_eq_true rfl) (Nat.le_of_ble_eq_true rfl) dX14_plain_267

set_option maxHeartbeats 4000000 in
set_option maxRecDepth 100000 in
theorem kX14_plain_14 (l : Launch) (E : q_E) (f : q_H) (n : Nat) (M : Nat) (r : q_R) (K : Nat → Nat) (Wd : Nat → Int64) (T : Nat) (u : p_S) (tk nd cc ac : Nat) (pN : Nat → Int64) (pn : Nat) (rN : Nat → Int64) (rc k9 : Nat)  (hm : RM E f M r) (hTK : r_T r K Wd T) (hT : T ≤ 400) (hKT : 39 ≤ K T) (hK41 : ∀ j, K j < 41) (hP : r_P r K T u tk nd cc ac) (hok : p_ok K T u) (hnm : r_nm r K Wd T 6 pn pN) (hpn : pn ≤ 8) (hpn9 : r 130 0 = nI pn) (hnr : r_nm r K Wd T 7 rc rN) (hrc : rc ≤ 6) (hrc9 : r 109 0 = nI rc) (hv8 : r 108 0 = nI (4 - 4)) (hk9 : k9 ≤ ac) : Met l yX14_plain wsX14_plain ({ frames := 3, cells := 0, slots := 0, locals := 69 }) (q_P E [.ref M, .int (nI k9), .int 14] f n) (q_Qv E (fun f1 n1 => ∃ (r1 : q_R) (tk1 nd1 cc1 ac1 : Nat), r_Q r r1 K T (p_take K 29 (p_known K Wd rN rc u)) tk nd cc k9 tk1 nd1 cc1 ac1 ∧ r1 107 0 = r 107 0 ∧ ((p_take K 29 (p_known K Wd rN rc u)).2.1 ≠ 40 → r1 108 0 = r 108 0) ∧ (cc1 = cc ∧ ac1 = ac) ∧ ((k9 < ac → r1 35 k9 = r 35 k9 ∧ r1 28 k9 = r 28 k9) ∧ (k9 < ac → (p_take K 29 (p_known K Wd rN rc u)).2.1 ≠ 40 → (p_take K 29 (p_known K Wd rN rc u)).2.2.1 = 0 → ∃ i, i < rc ∧ ix rN rc (Wd u.1) = nI i ∧ r1 29 k9 = nI i)) ∧ rO E f M r1 = f1 ∧ n = n1)) 0 0 (q_ge E) := by
  refine Met.ofW (cc := cX14_plain) (maxL := 3) (ret := none) (by decide) rfl ?_
  intro p e s m args below meth c s₁ B hml hv
  obtain ⟨rfl, hA, hW⟩ := hv
  have hx := B.exec
  have hb := B.bytes
  have hr := B.returns
  have hts := atoms_spec (ws := wsX14_plain) B.pre
  have hown : s.vm.findClass RX14 = some m.cls := findClass_of_methodNamed B.named
  have hlocks := B.notSynchronized
  have hS : va_S (q_ge E) s.heap s.heap [] := va_S.rf
  have iX13 : ∀ w ∈ wsX130, w ∈ wsX14_plain := by decide +kernel
  have iX14 : ∀ w ∈ wsX140, w ∈ wsX14_plain := by decide +kernel
  have hl := lv_entry ([.ref M, .int (nI k9), .int 14]) (n := 3) (Nat.le_of_ble_eq_true rfl)
  rw [lg_entry_eq]
  generalize (lg_sl ([.ref M, .int (nI k9), .int 14]) ++ List.replicate (3 - (lg_sl ([.ref M, .int (nI k9), .int 14])).length) Slot.unset).toArray = ls at hl ⊢
  have hl : lv_has ls 3 [(0, .ref M), (1, .int (nI k9)), (2, .int 14)] := hl
  have hmE := hm.eq
  rw [hm.eq] at hW
  have Q0 := r_Q.rf hP
  have htk := hP.1.2.1
  have hnd := hP.1.2.2.2.1
  have hcc := hP.1.2.2.2.2.2.1
  have hac := hP.1.2.2.2.2.2.2.2
  have Q9 : r_Q r r K T u tk nd cc k9 tk nd cc ac := ⟨hP, r_G.rf, ⟨Nat.le_refl _, Nat.le_refl _, Nat.le_refl _, Nat.le_refl _, Nat.le_refl _, hk9⟩⟩
  refine lv_iload_n hx hb dX14_plain_0 rfl (lv_at hl 2 rfl) ?_
  refine lv_tableIn (x := 14) (off := 223) (tgt := 224) hx hb dX14_plain_1 (by decide) (by decide) (by decide) (by decide) ?_
  refine lv_aload_n hx hb dX14_plain_224 rfl (lv_at hl 0 rfl) ?_
  refine q_get hx hb hts hown hA hW iX14 rO_0 rfl 18 (by decide) (hts (.fieldLink RX14 42 "HighRecipesModel" "fresh" "LHighRecipesModel$Book;") (by decide +kernel)) (fun _ h9 => h9) (v := .ref (M + 25)) rfl dX14_plain_225 ?_
  refine q_getN hx hb hts hown hA hW iX13 rO_25 rfl 6 (by decide) (va_Nw.use rfl (hA.2.2.2.1 ("HighRecipesModel", 250, "HighRecipesModel$Book", "whom", "[I", "HighRecipesModel") (by decide +kernel))) (fun _ h9 => h9) (v := .ref (M + 29)) rfl dX14_plain_228 ?_
  refine lv_iload_n hx hb dX14_plain_231 rfl (lv_at hl 1 rfl) ?_
  refine lv_aload_n hx hb dX14_plain_232 rfl (lv_at hl 0 rfl) ?_
  refine lv_aload_n hx hb dX14_plain_233 rfl (lv_at hl 0 rfl) ?_
  refine q_get hx hb hts hown hA hW iX14 rO_0 rfl 15 (by decide) (hts (.fieldLink RX14 32 "HighRecipesModel" "recipeName" "[I") (by decide +kernel)) (fun _ h9 => h9) (v := .ref (M + 7)) rfl dX14_plain_234 ?_
  refine lv_aload_n hx hb dX14_plain_237 rfl (lv_at hl 0 rfl) ?_
  refine q_get hx hb hts hown hA hW iX14 rO_0 rfl 16 (by decide) (hts (.fieldLink RX14 253 "HighRecipesModel" "ended" "I") (by decide +kernel)) (fun _ h9 => h9) (v := .int (nI rc)) (congrArg (fun z => some (Value.int z)) hrc9) dX14_plain_238 ?_
  refine q_ci (va_runV (As := [.ref (M + 7), .int (nI rc)]) (rest := [.int (nI k9), .ref (M + 29)]) ⟨hx, hb, hml, hown, hts⟩ (kX14_name_7 l E (rO E f M r) n M r K Wd T u tk nd cc ac rc rN rO_K hTK hT hKT hK41 Q9.1 hok (hnr.mv (Q9.2.1.1 7 (by decide) (by decide) (by decide))) hrc) (cwV 2 hts gX14_plain_X14_name rfl rfl rfl (by decide +kernel) ⟨(Nat.le_of_ble_eq_true rfl), (Nat.le_of_ble_eq_true rfl)⟩) (q_pV hA hW hS (ci := 12) rfl rO_0) rfl rfl hl.1 rfl (lv_room (Nat.le_of_ble_eq_true rfl)) dX14_plain_241 ⟨Nat.le_of_ble_eq_true rfl, Nat.le_of_ble_eq_true rfl⟩) hS (fun r_241 f_241 n_241 H locs hp hW hS => ?_)
  obtain ⟨R_241, tk_241, nd_241, cc_241, ac_241, q_241, e7_241, e8_241, ec_241, ex_241, rfl, rfl⟩ := hp
  have G_241 : p_go K T u (p_known K Wd rN rc u) := (go_known hKT)
  have GG_241 := G_241 hok
  have ok_241 := GG_241.1
  have le_241 := GG_241.2.2.2.1
  have er_241 := GG_241.2.2.2.2
  have Q_241 := Q9.trans q_241
  have T_241 := Q_241.tok hTK
  have num_241 := Q_241.2.2
  unfold r_num at num_241
  have bt_241 := Q_241.1.1.2.1
  have bn_241 := Q_241.1.1.2.2.2.1
  have bc_241 := Q_241.1.1.2.2.2.2.2.1
  have ba_241 := Q_241.1.1.2.2.2.2.2.2.2
  have qn_241 := q_241.2.2
  unfold r_num at qn_241
  have y35_241 : k9 < ac → R_241 35 k9 = r 35 k9 := fun h0 => (q_241.2.1.2.2.2 35 k9 (by decide) (by decide) (by omega)).trans ((fun _ => rfl) h0)
  have y28_241 : k9 < ac → R_241 28 k9 = r 28 k9 := fun h0 => (q_241.2.1.2.2.2 28 k9 (by decide) (by decide) (by omega)).trans ((fun _ => rfl) h0)
  rw [rO_rO] at hW
  have hW : q_W E (rO E f M R_241) n H := hW
  refine q_ast hx hb hA hW hS (rO_29 (g := R_241 29) rfl) k9 rfl (by omega) (by decide) dX14_plain_244 (fun H locs hW hS => ?_)
  have hW := q_sa 29 hW rfl rfl
  refine lv_goto (tgt := 261) hx hb dX14_plain_245 (by decide) ?_
  obtain ⟨R_261, hR_261⟩ : ∃ z, z = rp R_241 29 (upd (R_241 29) k9 r_241) := ⟨_, rfl⟩
  rw [← hR_261] at hW
  have Q_261 : r_Q r R_261 K T (p_known K Wd rN rc u) tk nd cc k9 tk_241 nd_241 cc_241 ac_241 := by rw [hR_261]; exact (Q_241.st (by decide) (by omega))
  have T_261 := Q_261.tok hTK
  have num_261 := Q_261.2.2
  unfold r_num at num_261
  have bt_261 := Q_261.1.1.2.1
  have bn_261 := Q_261.1.1.2.2.2.1
  have bc_261 := Q_261.1.1.2.2.2.2.2.1
  have ba_261 := Q_261.1.1.2.2.2.2.2.2.2
  have y35_261 : k9 < ac → R_261 35 k9 = r 35 k9 := fun h0 => by rw [hR_261]; exact y35_241 h0
  have y28_261 : k9 < ac → R_261 28 k9 = r 28 k9 := fun h0 => by rw [hR_261]; exact y28_241 h0
  have y29_261 : k9 < ac → R_261 29 k9 = r_241 := fun _ => by rw [hR_261]; exact st_row (r := R_241) (j := 29) (q0 := k9) (x := r_241)
  refine lv_aload_n hx hb dX14_plain_261 rfl (lv_at hl 0 rfl) ?_
  refine lv_bipush (v := 52) hx hb dX14_plain_262 (by decide) ?_
  refine q_cv (va_runV (As := [.int 52]) (rest := []) ⟨hx, hb, hml, hown, hts⟩ (kX14_take l E (rO E f M R_261) n M R_261 K Wd T (p_known K Wd rN rc u) tk_241 nd_241 cc_241 ac_241 29 52 rO_K T_261 hT hKT hK41 Q_261.1 ok_241 rfl (by decide)) (cwV 1 hts gX14_plain_X14_take rfl rfl rfl (by decide +kernel) ⟨(Nat.le_of_ble_eq_true rfl), (Nat.le_of_ble_eq_true rfl)⟩) (q_pV hA hW hS (ci := 12) rfl rO_0) rfl rfl hl.1 rfl (lv_room (Nat.le_of_ble_eq_true rfl)) dX14_plain_264 ⟨Nat.le_of_ble_eq_true rfl, Nat.le_of_ble_eq_true rfl⟩) hS (fun f_264 n_264 H locs hp hW hS => ?_)
  obtain ⟨R_264, tk_264, nd_264, cc_264, ac_264, q_264, e7_264, e8_264, ec_264, ex_264, rfl, rfl⟩ := hp
  have G_264 : p_go K T (p_known K Wd rN rc u) (p_take K 29 (p_known K Wd rN rc u)) := (go_take hKT (by decide))
  have GG_264 := G_264 ok_241
  have ok_264 := GG_264.1
  have le_264 := GG_264.2.2.2.1
  have er_264 := GG_264.2.2.2.2
  have Q_264 := Q_261.trans q_264
  have T_264 := Q_264.tok hTK
  have num_264 := Q_264.2.2
  unfold r_num at num_264
  have bt_264 := Q_264.1.1.2.1
  have bn_264 := Q_264.1.1.2.2.2.1
  have bc_264 := Q_264.1.1.2.2.2.2.2.1
  have ba_264 := Q_264.1.1.2.2.2.2.2.2.2
  have qn_264 := q_264.2.2
  unfold r_num at qn_264
  have y35_264 : k9 < ac → R_264 35 k9 = r 35 k9 := fun h0 => (q_264.2.1.2.2.2 35 k9 (by decide) (by decide) (by omega)).trans (y35_261 h0)
  have y28_264 : k9 < ac → R_264 28 k9 = r 28 k9 := fun h0 => (q_264.2.1.2.2.2 28 k9 (by decide) (by decide) (by omega)).trans (y28_261 h0)
  have y29_264 : k9 < ac → R_264 29 k9 = r_241 := fun h0 => (q_264.2.1.2.2.2 29 k9 (by decide) (by decide) (by omega)).trans (y29_261 h0)
  rw [rO_rO] at hW
  have hW : q_W E (rO E f M R_264) n H := hW
  exact q_vret hx hb hr hlocks hW hS ⟨_, _, _, _, _, Q_264, (e7_264.trans (show R_261 107 0 = r 107 0 from by rw [hR_261]; exact (e7_241.trans rfl))), (fun _ => (e8_264.trans (show R_261 108 0 = r 108 0 from by rw [hR_261]; exact (e8_241.trans rfl)))), ⟨(ec_264.1.trans (ec_241.1.trans rfl)), (ec_264.2.trans (ec_241.2.trans rfl))⟩, ⟨(fun h0 => ⟨(y35_264 h0), (y28_264 h0)⟩), (fun h0 h1 h2 => by obtain ⟨i, i1, i2, i3⟩ := ex_241 (le_264 h1) (er_264 h2); exact ⟨i, i1, i2, ((y29_264 h0)).trans i3⟩)⟩, rfl, rfl⟩ (Nat.le_of_ble_eq_true rfl) (Nat.le_of_ble_eq_true rfl) dX14_plain_267

set_option maxHeartbeats 4000000 in
set_option maxRecDepth 100000 in
theorem kX14_plain_7 (l : Launch) (E : q_E) (f : q_H) (n : Nat) (M : Nat) (r : q_R) (K : Nat → Nat) (Wd : Nat → Int64) (T : Nat) (u : p_S) (tk nd cc ac : Nat) (pN : Nat → Int64) (pn : Nat) (rN : Nat → Int64) (rc k9 : Nat)  (hm : RM E f M r) (hTK : r_T r K Wd T) (hT : T ≤ 400) (hKT : 39 ≤ K T) (hK41 : ∀ j, K j < 41) (hP : r_P r K T u tk nd cc ac) (hok : p_ok K T u) (hnm : r_nm r K Wd T 6 pn pN) (hpn : pn ≤ 8) (hpn9 : r 130 0 = nI pn) (hnr : r_nm r K Wd T 7 rc rN) (hrc : rc ≤ 6) (hrc9 : r 109 0 = nI rc) (hv8 : r 108 0 = nI (4 - 4)) (hk9 : k9 ≤ ac) : Met l yX14_plain wsX14_plain ({ frames := 29, cells := 0, slots := 0, locals := 721 }) (q_P E [.ref M, .int (nI k9), .int 7] f n) (q_Qv E (fun f1 n1 => ∃ (r1 : q_R) (tk1 nd1 cc1 ac1 : Nat), r_Q r r1 K T (p_take K 29 (p_val K Wd pN pn 4 (p_take K 8 (p_known K Wd pN pn u)))) tk nd cc k9 tk1 nd1 cc1 ac1 ∧ r1 107 0 = r 107 0 ∧ ((p_take K 29 (p_val K Wd pN pn 4 (p_take K 8 (p_known K Wd pN pn u)))).2.1 ≠ 40 → r1 108 0 = r 108 0) ∧ (cc1 = cc ∧ ac1 = ac) ∧ ((k9 < ac → r1 35 k9 = r 35 k9 ∧ r1 28 k9 = r 28 k9) ∧ (k9 < ac → (p_take K 29 (p_val K Wd pN pn 4 (p_take K 8 (p_known K Wd pN pn u)))).2.1 ≠ 40 → (p_take K 29 (p_val K Wd pN pn 4 (p_take K 8 (p_known K Wd pN pn u)))).2.2.1 = 0 → ∃ i x, i < pn ∧ ix pN pn (Wd u.1) = nI i ∧ r1 29 k9 = nI i ∧ r1 30 k9 = nI x ∧ mV (bR r1 25) pn nd1 5 x (p_valD K Wd pN pn 4 (p_take K 8 (p_known K Wd pN pn u))))) ∧ rO E f M r1 = f1 ∧ n = n1)) 0 0 (q_ge E) := by
  refine Met.ofW (cc := cX14_plain) (maxL := 3) (ret := none) (by decide) rfl ?_
  intro p e s m args below meth c s₁ B hml hv
  obtain ⟨rfl, hA, hW⟩ := hv
  have hx := B.exec
  have hb := B.bytes
  have hr := B.returns
  have hts := atoms_spec (ws := wsX14_plain) B.pre
  have hown : s.vm.findClass RX14 = some m.cls := findClass_of_methodNamed B.named
  have hlocks := B.notSynchronized
  have hS : va_S (q_ge E) s.heap s.heap [] := va_S.rf
  have iX13 : ∀ w ∈ wsX130, w ∈ wsX14_plain := by decide +kernel
  have iX14 : ∀ w ∈ wsX140, w ∈ wsX14_plain := by decide +kernel
  have hl := lv_entry ([.ref M, .int (nI k9), .int 7]) (n := 3) (Nat.le_of_ble_eq_true rfl)
  rw [lg_entry_eq]
  generalize (lg_sl ([.ref M, .int (nI k9), .int 7]) ++ List.replicate (3 - (lg_sl ([.ref M, .int (nI k9), .int 7])).length) Slot.unset).toArray = ls at hl ⊢
  have hl : lv_has ls 3 [(0, .ref M), (1, .int (nI k9)), (2, .int 7)] := hl
  have hmE := hm.eq
  rw [hm.eq] at hW
  have Q0 := r_Q.rf hP
  have htk := hP.1.2.1
  have hnd := hP.1.2.2.2.1
  have hcc := hP.1.2.2.2.2.2.1
  have hac := hP.1.2.2.2.2.2.2.2
  have Q9 : r_Q r r K T u tk nd cc k9 tk nd cc ac := ⟨hP, r_G.rf, ⟨Nat.le_refl _, Nat.le_refl _, Nat.le_refl _, Nat.le_refl _, Nat.le_refl _, hk9⟩⟩
  refine lv_iload_n hx hb dX14_plain_0 rfl (lv_at hl 2 rfl) ?_
  refine lv_tableIn (x := 7) (off := 161) (tgt := 162) hx hb dX14_plain_1 (by decide) (by decide) (by decide) (by decide) ?_
  refine lv_aload_n hx hb dX14_plain_162 rfl (lv_at hl 0 rfl) ?_
  refine q_get hx hb hts hown hA hW iX14 rO_0 rfl 18 (by decide) (hts (.fieldLink RX14 42 "HighRecipesModel" "fresh" "LHighRecipesModel$Book;") (by decide +kernel)) (fun _ h9 => h9) (v := .ref (M + 25)) rfl dX14_plain_163 ?_
  refine q_getN hx hb hts hown hA hW iX13 rO_25 rfl 6 (by decide) (va_Nw.use rfl (hA.2.2.2.1 ("HighRecipesModel", 250, "HighRecipesModel$Book", "whom", "[I", "HighRecipesModel") (by decide +kernel))) (fun _ h9 => h9) (v := .ref (M + 29)) rfl dX14_plain_166 ?_
  refine lv_iload_n hx hb dX14_plain_169 rfl (lv_at hl 1 rfl) ?_
  refine lv_aload_n hx hb dX14_plain_170 rfl (lv_at hl 0 rfl) ?_
  refine q_ci (va_runV (As := []) (rest := [.int (nI k9), .ref (M + 29)]) ⟨hx, hb, hml, hown, hts⟩ (kX14_pan l E (rO E f M r) n M r K Wd T u tk nd cc ac pN pn rO_K hTK hT hKT hK41 Q9.1 hok (hnm.mv (Q9.2.1.1 6 (by decide) (by decide) (by decide))) hpn hpn9) (cwV 0 hts gX14_plain_X14_pan rfl rfl rfl (by decide +kernel) ⟨(Nat.le_of_ble_eq_true rfl), (Nat.le_of_ble_eq_true rfl)⟩) (q_pV hA hW hS (ci := 12) rfl rO_0) rfl rfl hl.1 rfl (lv_room (Nat.le_of_ble_eq_true rfl)) dX14_plain_171 ⟨Nat.le_of_ble_eq_true rfl, Nat.le_of_ble_eq_true rfl⟩) hS (fun r_171 f_171 n_171 H locs hp hW hS => ?_)
  obtain ⟨R_171, tk_171, nd_171, cc_171, ac_171, q_171, e7_171, e8_171, ec_171, ex_171, rfl, rfl⟩ := hp
  have G_171 : p_go K T u (p_known K Wd pN pn u) := (go_known hKT)
  have GG_171 := G_171 hok
  have ok_171 := GG_171.1
  have le_171 := GG_171.2.2.2.1
  have er_171 := GG_171.2.2.2.2
  have Q_171 := Q9.trans q_171
  have T_171 := Q_171.tok hTK
  have num_171 := Q_171.2.2
  unfold r_num at num_171
  have bt_171 := Q_171.1.1.2.1
  have bn_171 := Q_171.1.1.2.2.2.1
  have bc_171 := Q_171.1.1.2.2.2.2.2.1
  have ba_171 := Q_171.1.1.2.2.2.2.2.2.2
  have qn_171 := q_171.2.2
  unfold r_num at qn_171
  have y35_171 : k9 < ac → R_171 35 k9 = r 35 k9 := fun h0 => (q_171.2.1.2.2.2 35 k9 (by decide) (by decide) (by omega)).trans ((fun _ => rfl) h0)
  have y28_171 : k9 < ac → R_171 28 k9 = r 28 k9 := fun h0 => (q_171.2.1.2.2.2 28 k9 (by decide) (by decide) (by omega)).trans ((fun _ => rfl) h0)
  rw [rO_rO] at hW
  have hW : q_W E (rO E f M R_171) n H := hW
  refine q_ast hx hb hA hW hS (rO_29 (g := R_171 29) rfl) k9 rfl (by omega) (by decide) dX14_plain_174 (fun H locs hW hS => ?_)
  have hW := q_sa 29 hW rfl rfl
  obtain ⟨R_175, hR_175⟩ : ∃ z, z = rp R_171 29 (upd (R_171 29) k9 r_171) := ⟨_, rfl⟩
  rw [← hR_175] at hW
  have Q_175 : r_Q r R_175 K T (p_known K Wd pN pn u) tk nd cc k9 tk_171 nd_171 cc_171 ac_171 := by rw [hR_175]; exact (Q_171.st (by decide) (by omega))
  have T_175 := Q_175.tok hTK
  have num_175 := Q_175.2.2
  unfold r_num at num_175
  have bt_175 := Q_175.1.1.2.1
  have bn_175 := Q_175.1.1.2.2.2.1
  have bc_175 := Q_175.1.1.2.2.2.2.2.1
  have ba_175 := Q_175.1.1.2.2.2.2.2.2.2
  have y35_175 : k9 < ac → R_175 35 k9 = r 35 k9 := fun h0 => by rw [hR_175]; exact y35_171 h0
  have y28_175 : k9 < ac → R_175 28 k9 = r 28 k9 := fun h0 => by rw [hR_175]; exact y28_171 h0
  have y29_175 : k9 < ac → R_175 29 k9 = r_171 := fun _ => by rw [hR_175]; exact st_row (r := R_171) (j := 29) (q0 := k9) (x := r_171)
  refine lv_aload_n hx hb dX14_plain_175 rfl (lv_at hl 0 rfl) ?_
  refine lv_iload_n hx hb dX14_plain_176 rfl (lv_at hl 2 rfl) ?_
  refine lv_bipush (v := 7) hx hb dX14_plain_177 (by decide) ?_
  refine lv_icmp_ne (tgt := 187) hx hb dX14_plain_179 (by decide) (fun c_179 => False.elim ((fun h9 => h9 rfl) c_179)) (fun c_179 => ?_)
  refine lv_bipush (v := 8) hx hb dX14_plain_182 (by decide) ?_
  refine lv_goto (tgt := 189) hx hb dX14_plain_184 (by decide) ?_
  refine q_cv (va_runV (As := [.int 8]) (rest := []) ⟨hx, hb, hml, hown, hts⟩ (kX14_take l E (rO E f M R_175) n M R_175 K Wd T (p_known K Wd pN pn u) tk_171 nd_171 cc_171 ac_171 8 8 rO_K T_175 hT hKT hK41 Q_175.1 ok_171 rfl (by decide)) (cwV 1 hts gX14_plain_X14_take rfl rfl rfl (by decide +kernel) ⟨(Nat.le_of_ble_eq_true rfl), (Nat.le_of_ble_eq_true rfl)⟩) (q_pV hA hW hS (ci := 12) rfl rO_0) rfl rfl hl.1 rfl (lv_room (Nat.le_of_ble_eq_true rfl)) dX14_plain_189 ⟨Nat.le_of_ble_eq_true rfl, Nat.le_of_ble_eq_true rfl⟩) hS (fun f_189 n_189 H locs hp hW hS => ?_)
  obtain ⟨R_189, tk_189, nd_189, cc_189, ac_189, q_189, e7_189, e8_189, ec_189, ex_189, rfl, rfl⟩ := hp
  have G_189 : p_go K T (p_known K Wd pN pn u) (p_take K 8 (p_known K Wd pN pn u)) := (go_take hKT (by decide))
  have GG_189 := G_189 ok_171
  have ok_189 := GG_189.1
  have le_189 := GG_189.2.2.2.1
  have er_189 := GG_189.2.2.2.2
  have Q_189 := Q_175.trans q_189
  have T_189 := Q_189.tok hTK
  have num_189 := Q_189.2.2
  unfold r_num at num_189
  have bt_189 := Q_189.1.1.2.1
  have bn_189 := Q_189.1.1.2.2.2.1
  have bc_189 := Q_189.1.1.2.2.2.2.2.1
  have ba_189 := Q_189.1.1.2.2.2.2.2.2.2
  have qn_189 := q_189.2.2
  unfold r_num at qn_189
  have y35_189 : k9 < ac → R_189 35 k9 = r 35 k9 := fun h0 => (q_189.2.1.2.2.2 35 k9 (by decide) (by decide) (by omega)).trans (y35_175 h0)
  have y28_189 : k9 < ac → R_189 28 k9 = r 28 k9 := fun h0 => (q_189.2.1.2.2.2 28 k9 (by decide) (by decide) (by omega)).trans (y28_175 h0)
  have y29_189 : k9 < ac → R_189 29 k9 = r_171 := fun h0 => (q_189.2.1.2.2.2 29 k9 (by decide) (by decide) (by omega)).trans (y29_175 h0)
  rw [rO_rO] at hW
  have hW : q_W E (rO E f M R_189) n H := hW
  refine lv_aload_n hx hb dX14_plain_192 rfl (lv_at hl 0 rfl) ?_
  refine q_get hx hb hts hown hA hW iX14 rO_0 rfl 18 (by decide) (hts (.fieldLink RX14 42 "HighRecipesModel" "fresh" "LHighRecipesModel$Book;") (by decide +kernel)) (fun _ h9 => h9) (v := .ref (M + 25)) rfl dX14_plain_193 ?_
  refine q_getN hx hb hts hown hA hW iX13 rO_25 rfl 7 (by decide) (va_Nw.use rfl (hA.2.2.2.1 ("HighRecipesModel", 239, "HighRecipesModel$Book", "value", "[I", "HighRecipesModel") (by decide +kernel))) (fun _ h9 => h9) (v := .ref (M + 30)) rfl dX14_plain_196 ?_
  refine lv_iload_n hx hb dX14_plain_199 rfl (lv_at hl 1 rfl) ?_
  refine lv_aload_n hx hb dX14_plain_200 rfl (lv_at hl 0 rfl) ?_
  refine q_ci (va_runV (As := []) (rest := [.int (nI k9), .ref (M + 30)]) ⟨hx, hb, hml, hown, hts⟩ (rval_all l E 4 (rO E f M R_189) n M R_189 K Wd T (p_take K 8 (p_known K Wd pN pn u)) tk_189 nd_189 cc_189 ac_189 pN pn rO_K T_189 hT hKT hK41 Q_189.1 ok_189 (hnm.mv (Q_189.2.1.1 6 (by decide) (by decide) (by decide))) hpn ((congrFun (q_189.2.1.1 130 (by decide) (by decide) (by decide)) 0).trans (show R_175 130 0 = nI pn from by rw [hR_175]; exact ((congrFun (q_171.2.1.1 130 (by decide) (by decide) (by decide)) 0).trans hpn9))) (e8_189.trans (show R_175 108 0 = nI (4 - 4) from by rw [hR_175]; exact (e8_171.trans hv8))) (by decide)) (cwV 0 hts gX14_plain_X14_value rfl rfl rfl (by decide +kernel) ⟨(Nat.le_of_ble_eq_true rfl), (Nat.le_of_ble_eq_true rfl)⟩) (q_pV hA hW hS (ci := 12) rfl rO_0) rfl rfl hl.1 rfl (lv_room (Nat.le_of_ble_eq_true rfl)) dX14_plain_201 ⟨Nat.le_of_ble_eq_true rfl, Nat.le_of_ble_eq_true rfl⟩) hS (fun r_201 f_201 n_201 H locs hp hW hS => ?_)
  obtain ⟨R_201, tk_201, nd_201, cc_201, ac_201, q_201, e7_201, e8_201, ec_201, ex_201, rfl, rfl⟩ := hp
  have G_201 : p_go K T (p_take K 8 (p_known K Wd pN pn u)) (p_val K Wd pN pn 4 (p_take K 8 (p_known K Wd pN pn u))) := (go_val0 hKT 4 _)
  have GG_201 := G_201 ok_189
  have ok_201 := GG_201.1
  have le_201 := GG_201.2.2.2.1
  have er_201 := GG_201.2.2.2.2
  have Q_201 := Q_189.trans q_201
  have T_201 := Q_201.tok hTK
  have num_201 := Q_201.2.2
  unfold r_num at num_201
  have bt_201 := Q_201.1.1.2.1
  have bn_201 := Q_201.1.1.2.2.2.1
  have bc_201 := Q_201.1.1.2.2.2.2.2.1
  have ba_201 := Q_201.1.1.2.2.2.2.2.2.2
  have qn_201 := q_201.2.2
  unfold r_num at qn_201
  have Gm201_201 : r_G R_201 R_201 nd_201 cc_201 k9 := r_G.rf
  have y35_201 : k9 < ac → R_201 35 k9 = r 35 k9 := fun h0 => (q_201.2.1.2.2.2 35 k9 (by decide) (by decide) (by omega)).trans (y35_189 h0)
  have y28_201 : k9 < ac → R_201 28 k9 = r 28 k9 := fun h0 => (q_201.2.1.2.2.2 28 k9 (by decide) (by decide) (by omega)).trans (y28_189 h0)
  have y29_201 : k9 < ac → R_201 29 k9 = r_171 := fun h0 => (q_201.2.1.2.2.2 29 k9 (by decide) (by decide) (by omega)).trans (y29_189 h0)
  rw [rO_rO] at hW
  have hW : q_W E (rO E f M R_201) n H := hW
  refine q_ast hx hb hA hW hS (rO_30 (g := R_201 30) rfl) k9 rfl (by omega) (by decide) dX14_plain_204 (fun H locs hW hS => ?_)
  have hW := q_sa 30 hW rfl rfl
  refine lv_goto (tgt := 261) hx hb dX14_plain_205 (by decide) ?_
  obtain ⟨R_261, hR_261⟩ : ∃ z, z = rp R_201 30 (upd (R_201 30) k9 r_201) := ⟨_, rfl⟩
  rw [← hR_261] at hW
  have Q_261 : r_Q r R_261 K T (p_val K Wd pN pn 4 (p_take K 8 (p_known K Wd pN pn u))) tk nd cc k9 tk_201 nd_201 cc_201 ac_201 := by rw [hR_261]; exact (Q_201.st (by decide) (by omega))
  have T_261 := Q_261.tok hTK
  have num_261 := Q_261.2.2
  unfold r_num at num_261
  have bt_261 := Q_261.1.1.2.1
  have bn_261 := Q_261.1.1.2.2.2.1
  have bc_261 := Q_261.1.1.2.2.2.2.2.1
  have ba_261 := Q_261.1.1.2.2.2.2.2.2.2
  have Gm201_261 : r_G R_201 R_261 nd_201 cc_201 k9 := by rw [hR_261]; exact (r_G.upA Gm201_201 (by omega))
  have y35_261 : k9 < ac → R_261 35 k9 = r 35 k9 := fun h0 => by rw [hR_261]; exact y35_201 h0
  have y28_261 : k9 < ac → R_261 28 k9 = r 28 k9 := fun h0 => by rw [hR_261]; exact y28_201 h0
  have y29_261 : k9 < ac → R_261 29 k9 = r_171 := fun h0 => by rw [hR_261]; exact y29_201 h0
  have y30_261 : k9 < ac → R_261 30 k9 = r_201 := fun _ => by rw [hR_261]; exact st_row (r := R_201) (j := 30) (q0 := k9) (x := r_201)
  refine lv_aload_n hx hb dX14_plain_261 rfl (lv_at hl 0 rfl) ?_
  refine lv_bipush (v := 52) hx hb dX14_plain_262 (by decide) ?_
  refine q_cv (va_runV (As := [.int 52]) (rest := []) ⟨hx, hb, hml, hown, hts⟩ (kX14_take l E (rO E f M R_261) n M R_261 K Wd T (p_val K Wd pN pn 4 (p_take K 8 (p_known K Wd pN pn u))) tk_201 nd_201 cc_201 ac_201 29 52 rO_K T_261 hT hKT hK41 Q_261.1 ok_201 rfl (by decide)) (cwV 1 hts gX14_plain_X14_take rfl rfl rfl (by decide +kernel) ⟨(Nat.le_of_ble_eq_true rfl), (Nat.le_of_ble_eq_true rfl)⟩) (q_pV hA hW hS (ci := 12) rfl rO_0) rfl rfl hl.1 rfl (lv_room (Nat.le_of_ble_eq_true rfl)) dX14_plain_264 ⟨Nat.le_of_ble_eq_true rfl, Nat.le_of_ble_eq_true rfl⟩) hS (fun f_264 n_264 H locs hp hW hS => ?_)
  obtain ⟨R_264, tk_264, nd_264, cc_264, ac_264, q_264, e7_264, e8_264, ec_264, ex_264, rfl, rfl⟩ := hp
  have G_264 : p_go K T (p_val K Wd pN pn 4 (p_take K 8 (p_known K Wd pN pn u))) (p_take K 29 (p_val K Wd pN pn 4 (p_take K 8 (p_known K Wd pN pn u)))) := (go_take hKT (by decide))
  have GG_264 := G_264 ok_201
  have ok_264 := GG_264.1
  have le_264 := GG_264.2.2.2.1
  have er_264 := GG_264.2.2.2.2
  have Q_264 := Q_261.trans q_264
  have T_264 := Q_264.tok hTK
  have num_264 := Q_264.2.2
  unfold r_num at num_264
  have bt_264 := Q_264.1.1.2.1
  have bn_264 := Q_264.1.1.2.2.2.1
  have bc_264 := Q_264.1.1.2.2.2.2.2.1
  have ba_264 := Q_264.1.1.2.2.2.2.2.2.2
  have qn_264 := q_264.2.2
  unfold r_num at qn_264
  have Gm201_264 := Gm201_261.trans q_264.2.1 (by omega) (by omega) (by omega)
  have y35_264 : k9 < ac → R_264 35 k9 = r 35 k9 := fun h0 => (q_264.2.1.2.2.2 35 k9 (by decide) (by decide) (by omega)).trans (y35_261 h0)
  have y28_264 : k9 < ac → R_264 28 k9 = r 28 k9 := fun h0 => (q_264.2.1.2.2.2 28 k9 (by decide) (by decide) (by omega)).trans (y28_261 h0)
  have y29_264 : k9 < ac → R_264 29 k9 = r_171 := fun h0 => (q_264.2.1.2.2.2 29 k9 (by decide) (by decide) (by omega)).trans (y29_261 h0)
  have y30_264 : k9 < ac → R_264 30 k9 = r_201 := fun h0 => (q_264.2.1.2.2.2 30 k9 (by decide) (by decide) (by omega)).trans (y30_261 h0)
  rw [rO_rO] at hW
  have hW : q_W E (rO E f M R_264) n H := hW
  exact q_vret hx hb hr hlocks hW hS ⟨_, _, _, _, _, Q_264, (e7_264.trans (show R_261 107 0 = r 107 0 from by rw [hR_261]; exact (e7_201.trans (e7_189.trans (show R_175 107 0 = r 107 0 from by rw [hR_175]; exact (e7_171.trans rfl)))))), (fun z => e8_264.trans ((fun z => (show R_261 108 0 = r 108 0 from by rw [hR_261]; exact (fun z => (e8_201 z).trans (e8_189.trans (show R_175 108 0 = r 108 0 from by rw [hR_175]; exact (e8_171.trans rfl)))) z)) (le_264 z))), ⟨(ec_264.1.trans (ec_201.1.trans (ec_189.1.trans (ec_171.1.trans rfl)))), (ec_264.2.trans (ec_201.2.trans (ec_189.2.trans (ec_171.2.trans rfl))))⟩, ⟨(fun h0 => ⟨(y35_264 h0), (y28_264 h0)⟩), (fun h0 h1 h2 => by have k1 := le_264 h1; have o1 := er_264 h2; obtain ⟨a, i, m⟩ := ex_201 k1 o1; obtain ⟨j, j1, j2, j3⟩ := ex_171 (le_189 (le_201 k1)) (er_189 (er_201 o1)); exact ⟨j, a, j1, j2, ((y29_264 h0)).trans j3, ((y30_264 h0)).trans i, mV_G m Gm201_264 (by omega)⟩)⟩, rfl, rfl⟩ (Nat.le_of_ble_eq_true rfl) (Nat.le_of_ble_eq_true rfl) dX14_plain_267

set_option maxHeartbeats 4000000 in
set_option maxRecDepth 100000 in
theorem kX14_plain_9 (l : Launch) (E : q_E) (f : q_H) (n : Nat) (M : Nat) (r : q_R) (K : Nat → Nat) (Wd : Nat → Int64) (T : Nat) (u : p_S) (tk nd cc ac : Nat) (pN : Nat → Int64) (pn : Nat) (rN : Nat → Int64) (rc k9 : Nat)  (hm : RM E f M r) (hTK : r_T r K Wd T) (hT : T ≤ 400) (hKT : 39 ≤ K T) (hK41 : ∀ j, K j < 41) (hP : r_P r K T u tk nd cc ac) (hok : p_ok K T u) (hnm : r_nm r K Wd T 6 pn pN) (hpn : pn ≤ 8) (hpn9 : r 130 0 = nI pn) (hnr : r_nm r K Wd T 7 rc rN) (hrc : rc ≤ 6) (hrc9 : r 109 0 = nI rc) (hv8 : r 108 0 = nI (4 - 4)) (hk9 : k9 ≤ ac) : Met l yX14_plain wsX14_plain ({ frames := 29, cells := 0, slots := 0, locals := 721 }) (q_P E [.ref M, .int (nI k9), .int 9] f n) (q_Qv E (fun f1 n1 => ∃ (r1 : q_R) (tk1 nd1 cc1 ac1 : Nat), r_Q r r1 K T (p_take K 29 (p_val K Wd pN pn 4 (p_take K 10 (p_known K Wd pN pn u)))) tk nd cc k9 tk1 nd1 cc1 ac1 ∧ r1 107 0 = r 107 0 ∧ ((p_take K 29 (p_val K Wd pN pn 4 (p_take K 10 (p_known K Wd pN pn u)))).2.1 ≠ 40 → r1 108 0 = r 108 0) ∧ (cc1 = cc ∧ ac1 = ac) ∧ ((k9 < ac → r1 35 k9 = r 35 k9 ∧ r1 28 k9 = r 28 k9) ∧ (k9 < ac → (p_take K 29 (p_val K Wd pN pn 4 (p_take K 10 (p_known K Wd pN pn u)))).2.1 ≠ 40 → (p_take K 29 (p_val K Wd pN pn 4 (p_take K 10 (p_known K Wd pN pn u)))).2.2.1 = 0 → ∃ i x, i < pn ∧ ix pN pn (Wd u.1) = nI i ∧ r1 29 k9 = nI i ∧ r1 30 k9 = nI x ∧ mV (bR r1 25) pn nd1 5 x (p_valD K Wd pN pn 4 (p_take K 10 (p_known K Wd pN pn u))))) ∧ rO E f M r1 = f1 ∧ n = n1)) 0 0 (q_ge E) := by
  refine Met.ofW (cc := cX14_plain) (maxL := 3) (ret := none) (by decide) rfl ?_
  intro p e s m args below meth c s₁ B hml hv
  obtain ⟨rfl, hA, hW⟩ := hv
  have hx := B.exec
  have hb := B.bytes
  have hr := B.returns
  have hts := atoms_spec (ws := wsX14_plain) B.pre
  have hown : s.vm.findClass RX14 = some m.cls := findClass_of_methodNamed B.named
  have hlocks := B.notSynchronized
  have hS : va_S (q_ge E) s.heap s.heap [] := va_S.rf
  have iX13 : ∀ w ∈ wsX130, w ∈ wsX14_plain := by decide +kernel
  have iX14 : ∀ w ∈ wsX140, w ∈ wsX14_plain := by decide +kernel
  have hl := lv_entry ([.ref M, .int (nI k9), .int 9]) (n := 3) (Nat.le_of_ble_eq_true rfl)
  rw [lg_entry_eq]
  generalize (lg_sl ([.ref M, .int (nI k9), .int 9]) ++ List.replicate (3 - (lg_sl ([.ref M, .int (nI k9), .int 9])).length) Slot.unset).toArray = ls at hl ⊢
  have hl : lv_has ls 3 [(0, .ref M), (1, .int (nI k9)), (2, .int 9)] := hl
  have hmE := hm.eq
  rw [hm.eq] at hW
  have Q0 := r_Q.rf hP
  have htk := hP.1.2.1
  have hnd := hP.1.2.2.2.1
  have hcc := hP.1.2.2.2.2.2.1
  have hac := hP.1.2.2.2.2.2.2.2
  have Q9 : r_Q r r K T u tk nd cc k9 tk nd cc ac := ⟨hP, r_G.rf, ⟨Nat.le_refl _, Nat.le_refl _, Nat.le_refl _, Nat.le_refl _, Nat.le_refl _, hk9⟩⟩
  refine lv_iload_n hx hb dX14_plain_0 rfl (lv_at hl 2 rfl) ?_
  refine lv_tableIn (x := 9) (off := 161) (tgt := 162) hx hb dX14_plain_1 (by decide) (by decide) (by decide) (by decide) ?_
  refine lv_aload_n hx hb dX14_plain_162 rfl (lv_at hl 0 rfl) ?_
  refine q_get hx hb hts hown hA hW iX14 rO_0 rfl 18 (by decide) (hts (.fieldLink RX14 42 "HighRecipesModel" "fresh" "LHighRecipesModel$Book;") (by decide +kernel)) (fun _ h9 => h9) (v := .ref (M + 25)) rfl dX14_plain_163 ?_
  refine q_getN hx hb hts hown hA hW iX13 rO_25 rfl 6 (by decide) (va_Nw.use rfl (hA.2.2.2.1 ("HighRecipesModel", 250, "HighRecipesModel$Book", "whom", "[I", "HighRecipesModel") (by decide +kernel))) (fun _ h9 => h9) (v := .ref (M + 29)) rfl dX14_plain_166 ?_
  refine lv_iload_n hx hb dX14_plain_169 rfl (lv_at hl 1 rfl) ?_
  refine lv_aload_n hx hb dX14_plain_170 rfl (lv_at hl 0 rfl) ?_
  refine q_ci (va_runV (As := []) (rest := [.int (nI k9), .ref (M + 29)]) ⟨hx, hb, hml, hown, hts⟩ (kX14_pan l E (rO E f M r) n M r K Wd T u tk nd cc ac pN pn rO_K hTK hT hKT hK41 Q9.1 hok (hnm.mv (Q9.2.1.1 6 (by decide) (by decide) (by decide))) hpn hpn9) (cwV 0 hts gX14_plain_X14_pan rfl rfl rfl (by decide +kernel) ⟨(Nat.le_of_ble_eq_true rfl), (Nat.le_of_ble_eq_true rfl)⟩) (q_pV hA hW hS (ci := 12) rfl rO_0) rfl rfl hl.1 rfl (lv_room (Nat.le_of_ble_eq_true rfl)) dX14_plain_171 ⟨Nat.le_of_ble_eq_true rfl, Nat.le_of_ble_eq_true rfl⟩) hS (fun r_171 f_171 n_171 H locs hp hW hS => ?_)
  obtain ⟨R_171, tk_171, nd_171, cc_171, ac_171, q_171, e7_171, e8_171, ec_171, ex_171, rfl, rfl⟩ := hp
  have G_171 : p_go K T u (p_known K Wd pN pn u) := (go_known hKT)
  have GG_171 := G_171 hok
  have ok_171 := GG_171.1
  have le_171 := GG_171.2.2.2.1
  have er_171 := GG_171.2.2.2.2
  have Q_171 := Q9.trans q_171
  have T_171 := Q_171.tok hTK
  have num_171 := Q_171.2.2
  unfold r_num at num_171
  have bt_171 := Q_171.1.1.2.1
  have bn_171 := Q_171.1.1.2.2.2.1
  have bc_171 := Q_171.1.1.2.2.2.2.2.1
  have ba_171 := Q_171.1.1.2.2.2.2.2.2.2
  have qn_171 := q_171.2.2
  unfold r_num at qn_171
  have y35_171 : k9 < ac → R_171 35 k9 = r 35 k9 := fun h0 => (q_171.2.1.2.2.2 35 k9 (by decide) (by decide) (by omega)).trans ((fun _ => rfl) h0)
  have y28_171 : k9 < ac → R_171 28 k9 = r 28 k9 := fun h0 => (q_171.2.1.2.2.2 28 k9 (by decide) (by decide) (by omega)).trans ((fun _ => rfl) h0)
  rw [rO_rO] at hW
  have hW : q_W E (rO E f M R_171) n H := hW
  refine q_ast hx hb hA hW hS (rO_29 (g := R_171 29) rfl) k9 rfl (by omega) (by decide) dX14_plain_174 (fun H locs hW hS => ?_)
  have hW := q_sa 29 hW rfl rfl
  obtain ⟨R_175, hR_175⟩ : ∃ z, z = rp R_171 29 (upd (R_171 29) k9 r_171) := ⟨_, rfl⟩
  rw [← hR_175] at hW
  have Q_175 : r_Q r R_175 K T (p_known K Wd pN pn u) tk nd cc k9 tk_171 nd_171 cc_171 ac_171 := by rw [hR_175]; exact (Q_171.st (by decide) (by omega))
  have T_175 := Q_175.tok hTK
  have num_175 := Q_175.2.2
  unfold r_num at num_175
  have bt_175 := Q_175.1.1.2.1
  have bn_175 := Q_175.1.1.2.2.2.1
  have bc_175 := Q_175.1.1.2.2.2.2.2.1
  have ba_175 := Q_175.1.1.2.2.2.2.2.2.2
  have y35_175 : k9 < ac → R_175 35 k9 = r 35 k9 := fun h0 => by rw [hR_175]; exact y35_171 h0
  have y28_175 : k9 < ac → R_175 28 k9 = r 28 k9 := fun h0 => by rw [hR_175]; exact y28_171 h0
  have y29_175 : k9 < ac → R_175 29 k9 = r_171 := fun _ => by rw [hR_175]; exact st_row (r := R_171) (j := 29) (q0 := k9) (x := r_171)
  refine lv_aload_n hx hb dX14_plain_175 rfl (lv_at hl 0 rfl) ?_
  refine lv_iload_n hx hb dX14_plain_176 rfl (lv_at hl 2 rfl) ?_
  refine lv_bipush (v := 7) hx hb dX14_plain_177 (by decide) ?_
  refine lv_icmp_ne (tgt := 187) hx hb dX14_plain_179 (by decide) (fun c_179 => ?_) (fun c_179 => False.elim ((fun h9 => absurd h9 (by decide)) c_179))
  refine lv_bipush (v := 10) hx hb dX14_plain_187 (by decide) ?_
  refine q_cv (va_runV (As := [.int 10]) (rest := []) ⟨hx, hb, hml, hown, hts⟩ (kX14_take l E (rO E f M R_175) n M R_175 K Wd T (p_known K Wd pN pn u) tk_171 nd_171 cc_171 ac_171 10 10 rO_K T_175 hT hKT hK41 Q_175.1 ok_171 rfl (by decide)) (cwV 1 hts gX14_plain_X14_take rfl rfl rfl (by decide +kernel) ⟨(Nat.le_of_ble_eq_true rfl), (Nat.le_of_ble_eq_true rfl)⟩) (q_pV hA hW hS (ci := 12) rfl rO_0) rfl rfl hl.1 rfl (lv_room (Nat.le_of_ble_eq_true rfl)) dX14_plain_189 ⟨Nat.le_of_ble_eq_true rfl, Nat.le_of_ble_eq_true rfl⟩) hS (fun f_189 n_189 H locs hp hW hS => ?_)
  obtain ⟨R_189, tk_189, nd_189, cc_189, ac_189, q_189, e7_189, e8_189, ec_189, ex_189, rfl, rfl⟩ := hp
  have G_189 : p_go K T (p_known K Wd pN pn u) (p_take K 10 (p_known K Wd pN pn u)) := (go_take hKT (by decide))
  have GG_189 := G_189 ok_171
  have ok_189 := GG_189.1
  have le_189 := GG_189.2.2.2.1
  have er_189 := GG_189.2.2.2.2
  have Q_189 := Q_175.trans q_189
  have T_189 := Q_189.tok hTK
  have num_189 := Q_189.2.2
  unfold r_num at num_189
  have bt_189 := Q_189.1.1.2.1
  have bn_189 := Q_189.1.1.2.2.2.1
  have bc_189 := Q_189.1.1.2.2.2.2.2.1
  have ba_189 := Q_189.1.1.2.2.2.2.2.2.2
  have qn_189 := q_189.2.2
  unfold r_num at qn_189
  have y35_189 : k9 < ac → R_189 35 k9 = r 35 k9 := fun h0 => (q_189.2.1.2.2.2 35 k9 (by decide) (by decide) (by omega)).trans (y35_175 h0)
  have y28_189 : k9 < ac → R_189 28 k9 = r 28 k9 := fun h0 => (q_189.2.1.2.2.2 28 k9 (by decide) (by decide) (by omega)).trans (y28_175 h0)
  have y29_189 : k9 < ac → R_189 29 k9 = r_171 := fun h0 => (q_189.2.1.2.2.2 29 k9 (by decide) (by decide) (by omega)).trans (y29_175 h0)
  rw [rO_rO] at hW
  have hW : q_W E (rO E f M R_189) n H := hW
  refine lv_aload_n hx hb dX14_plain_192 rfl (lv_at hl 0 rfl) ?_
  refine q_get hx hb hts hown hA hW iX14 rO_0 rfl 18 (by decide) (hts (.fieldLink RX14 42 "HighRecipesModel" "fresh" "LHighRecipesModel$Book;") (by decide +kernel)) (fun _ h9 => h9) (v := .ref (M + 25)) rfl dX14_plain_193 ?_
  refine q_getN hx hb hts hown hA hW iX13 rO_25 rfl 7 (by decide) (va_Nw.use rfl (hA.2.2.2.1 ("HighRecipesModel", 239, "HighRecipesModel$Book", "value", "[I", "HighRecipesModel") (by decide +kernel))) (fun _ h9 => h9) (v := .ref (M + 30)) rfl dX14_plain_196 ?_
  refine lv_iload_n hx hb dX14_plain_199 rfl (lv_at hl 1 rfl) ?_
  refine lv_aload_n hx hb dX14_plain_200 rfl (lv_at hl 0 rfl) ?_
  refine q_ci (va_runV (As := []) (rest := [.int (nI k9), .ref (M + 30)]) ⟨hx, hb, hml, hown, hts⟩ (rval_all l E 4 (rO E f M R_189) n M R_189 K Wd T (p_take K 10 (p_known K Wd pN pn u)) tk_189 nd_189 cc_189 ac_189 pN pn rO_K T_189 hT hKT hK41 Q_189.1 ok_189 (hnm.mv (Q_189.2.1.1 6 (by decide) (by decide) (by decide))) hpn ((congrFun (q_189.2.1.1 130 (by decide) (by decide) (by decide)) 0).trans (show R_175 130 0 = nI pn from by rw [hR_175]; exact ((congrFun (q_171.2.1.1 130 (by decide) (by decide) (by decide)) 0).trans hpn9))) (e8_189.trans (show R_175 108 0 = nI (4 - 4) from by rw [hR_175]; exact (e8_171.trans hv8))) (by decide)) (cwV 0 hts gX14_plain_X14_value rfl rfl rfl (by decide +kernel) ⟨(Nat.le_of_ble_eq_true rfl), (Nat.le_of_ble_eq_true rfl)⟩) (q_pV hA hW hS (ci := 12) rfl rO_0) rfl rfl hl.1 rfl (lv_room (Nat.le_of_ble_eq_true rfl)) dX14_plain_201 ⟨Nat.le_of_ble_eq_true rfl, Nat.le_of_ble_eq_true rfl⟩) hS (fun r_201 f_201 n_201 H locs hp hW hS => ?_)
  obtain ⟨R_201, tk_201, nd_201, cc_201, ac_201, q_201, e7_201, e8_201, ec_201, ex_201, rfl, rfl⟩ := hp
  have G_201 : p_go K T (p_take K 10 (p_known K Wd pN pn u)) (p_val K Wd pN pn 4 (p_take K 10 (p_known K Wd pN pn u))) := (go_val0 hKT 4 _)
  have GG_201 := G_201 ok_189
  have ok_201 := GG_201.1
  have le_201 := GG_201.2.2.2.1
  have er_201 := GG_201.2.2.2.2
  have Q_201 := Q_189.trans q_201
  have T_201 := Q_201.tok hTK
  have num_201 := Q_201.2.2
  unfold r_num at num_201
  have bt_201 := Q_201.1.1.2.1
  have bn_201 := Q_201.1.1.2.2.2.1
  have bc_201 := Q_201.1.1.2.2.2.2.2.1
  have ba_201 := Q_201.1.1.2.2.2.2.2.2.2
  have qn_201 := q_201.2.2
  unfold r_num at qn_201
  have Gm201_201 : r_G R_201 R_201 nd_201 cc_201 k9 := r_G.rf
  have y35_201 : k9 < ac → R_201 35 k9 = r 35 k9 := fun h0 => (q_201.2.1.2.2.2 35 k9 (by decide) (by decide) (by omega)).trans (y35_189 h0)
  have y28_201 : k9 < ac → R_201 28 k9 = r 28 k9 := fun h0 => (q_201.2.1.2.2.2 28 k9 (by decide) (by decide) (by omega)).trans (y28_189 h0)
  have y29_201 : k9 < ac → R_201 29 k9 = r_171 := fun h0 => (q_201.2.1.2.2.2 29 k9 (by decide) (by decide) (by omega)).trans (y29_189 h0)
  rw [rO_rO] at hW
  have hW : q_W E (rO E f M R_201) n H := hW
  refine q_ast hx hb hA hW hS (rO_30 (g := R_201 30) rfl) k9 rfl (by omega) (by decide) dX14_plain_204 (fun H locs hW hS => ?_)
  have hW := q_sa 30 hW rfl rfl
  refine lv_goto (tgt := 261) hx hb dX14_plain_205 (by decide) ?_
  obtain ⟨R_261, hR_261⟩ : ∃ z, z = rp R_201 30 (upd (R_201 30) k9 r_201) := ⟨_, rfl⟩
  rw [← hR_261] at hW
  have Q_261 : r_Q r R_261 K T (p_val K Wd pN pn 4 (p_take K 10 (p_known K Wd pN pn u))) tk nd cc k9 tk_201 nd_201 cc_201 ac_201 := by rw [hR_261]; exact (Q_201.st (by decide) (by omega))
  have T_261 := Q_261.tok hTK
  have num_261 := Q_261.2.2
  unfold r_num at num_261
  have bt_261 := Q_261.1.1.2.1
  have bn_261 := Q_261.1.1.2.2.2.1
  have bc_261 := Q_261.1.1.2.2.2.2.2.1
  have ba_261 := Q_261.1.1.2.2.2.2.2.2.2
  have Gm201_261 : r_G R_201 R_261 nd_201 cc_201 k9 := by rw [hR_261]; exact (r_G.upA Gm201_201 (by omega))
  have y35_261 : k9 < ac → R_261 35 k9 = r 35 k9 := fun h0 => by rw [hR_261]; exact y35_201 h0
  have y28_261 : k9 < ac → R_261 28 k9 = r 28 k9 := fun h0 => by rw [hR_261]; exact y28_201 h0
  have y29_261 : k9 < ac → R_261 29 k9 = r_171 := fun h0 => by rw [hR_261]; exact y29_201 h0
  have y30_261 : k9 < ac → R_261 30 k9 = r_201 := fun _ => by rw [hR_261]; exact st_row (r := R_201) (j := 30) (q0 := k9) (x := r_201)
  refine lv_aload_n hx hb dX14_plain_261 rfl (lv_at hl 0 rfl) ?_
  refine lv_bipush (v := 52) hx hb dX14_plain_262 (by decide) ?_
  refine q_cv (va_runV (As := [.int 52]) (rest := []) ⟨hx, hb, hml, hown, hts⟩ (kX14_take l E (rO E f M R_261) n M R_261 K Wd T (p_val K Wd pN pn 4 (p_take K 10 (p_known K Wd pN pn u))) tk_201 nd_201 cc_201 ac_201 29 52 rO_K T_261 hT hKT hK41 Q_261.1 ok_201 rfl (by decide)) (cwV 1 hts gX14_plain_X14_take rfl rfl rfl (by decide +kernel) ⟨(Nat.le_of_ble_eq_true rfl), (Nat.le_of_ble_eq_true rfl)⟩) (q_pV hA hW hS (ci := 12) rfl rO_0) rfl rfl hl.1 rfl (lv_room (Nat.le_of_ble_eq_true rfl)) dX14_plain_264 ⟨Nat.le_of_ble_eq_true rfl, Nat.le_of_ble_eq_true rfl⟩) hS (fun f_264 n_264 H locs hp hW hS => ?_)
  obtain ⟨R_264, tk_264, nd_264, cc_264, ac_264, q_264, e7_264, e8_264, ec_264, ex_264, rfl, rfl⟩ := hp
  have G_264 : p_go K T (p_val K Wd pN pn 4 (p_take K 10 (p_known K Wd pN pn u))) (p_take K 29 (p_val K Wd pN pn 4 (p_take K 10 (p_known K Wd pN pn u)))) := (go_take hKT (by decide))
  have GG_264 := G_264 ok_201
  have ok_264 := GG_264.1
  have le_264 := GG_264.2.2.2.1
  have er_264 := GG_264.2.2.2.2
  have Q_264 := Q_261.trans q_264
  have T_264 := Q_264.tok hTK
  have num_264 := Q_264.2.2
  unfold r_num at num_264
  have bt_264 := Q_264.1.1.2.1
  have bn_264 := Q_264.1.1.2.2.2.1
  have bc_264 := Q_264.1.1.2.2.2.2.2.1
  have ba_264 := Q_264.1.1.2.2.2.2.2.2.2
  have qn_264 := q_264.2.2
  unfold r_num at qn_264
  have Gm201_264 := Gm201_261.trans q_264.2.1 (by omega) (by omega) (by omega)
  have y35_264 : k9 < ac → R_264 35 k9 = r 35 k9 := fun h0 => (q_264.2.1.2.2.2 35 k9 (by decide) (by decide) (by omega)).trans (y35_261 h0)
  have y28_264 : k9 < ac → R_264 28 k9 = r 28 k9 := fun h0 => (q_264.2.1.2.2.2 28 k9 (by decide) (by decide) (by omega)).trans (y28_261 h0)
  have y29_264 : k9 < ac → R_264 29 k9 = r_171 := fun h0 => (q_264.2.1.2.2.2 29 k9 (by decide) (by decide) (by omega)).trans (y29_261 h0)
  have y30_264 : k9 < ac → R_264 30 k9 = r_201 := fun h0 => (q_264.2.1.2.2.2 30 k9 (by decide) (by decide) (by omega)).trans (y30_261 h0)
  rw [rO_rO] at hW
  have hW : q_W E (rO E f M R_264) n H := hW
  exact q_vret hx hb hr hlocks hW hS ⟨_, _, _, _, _, Q_264, (e7_264.trans (show R_261 107 0 = r 107 0 from by rw [hR_261]; exact (e7_201.trans (e7_189.trans (show R_175 107 0 = r 107 0 from by rw [hR_175]; exact (e7_171.trans rfl)))))), (fun z => e8_264.trans ((fun z => (show R_261 108 0 = r 108 0 from by rw [hR_261]; exact (fun z => (e8_201 z).trans (e8_189.trans (show R_175 108 0 = r 108 0 from by rw [hR_175]; exact (e8_171.trans rfl)))) z)) (le_264 z))), ⟨(ec_264.1.trans (ec_201.1.trans (ec_189.1.trans (ec_171.1.trans rfl)))), (ec_264.2.trans (ec_201.2.trans (ec_189.2.trans (ec_171.2.trans rfl))))⟩, ⟨(fun h0 => ⟨(y35_264 h0), (y28_264 h0)⟩), (fun h0 h1 h2 => by have k1 := le_264 h1; have o1 := er_264 h2; obtain ⟨a, i, m⟩ := ex_201 k1 o1; obtain ⟨j, j1, j2, j3⟩ := ex_171 (le_189 (le_201 k1)) (er_189 (er_201 o1)); exact ⟨j, a, j1, j2, ((y29_264 h0)).trans j3, ((y30_264 h0)).trans i, mV_G m Gm201_264 (by omega)⟩)⟩, rfl, rfl⟩ (Nat.le_of_ble_eq_true rfl) (Nat.le_of_ble_eq_true rfl) dX14_plain_267

set_option maxHeartbeats 4000000 in
set_option maxRecDepth 100000 in
theorem kX14_plain_3 (l : Launch) (E : q_E) (f : q_H) (n : Nat) (M : Nat) (r : q_R) (K : Nat → Nat) (Wd : Nat → Int64) (T : Nat) (u : p_S) (tk nd cc ac : Nat) (pN : Nat → Int64) (pn : Nat) (rN : Nat → Int64) (rc k9 : Nat)  (hm : RM E f M r) (hTK : r_T r K Wd T) (hT : T ≤ 400) (hKT : 39 ≤ K T) (hK41 : ∀ j, K j < 41) (hP : r_P r K T u tk nd cc ac) (hok : p_ok K T u) (hnm : r_nm r K Wd T 6 pn pN) (hpn : pn ≤ 8) (hpn9 : r 130 0 = nI pn) (hnr : r_nm r K Wd T 7 rc rN) (hrc : rc ≤ 6) (hrc9 : r 109 0 = nI rc) (hv8 : r 108 0 = nI (4 - 4)) (hk9 : k9 ≤ ac) : Met l yX14_plain wsX14_plain ({ frames := 29, cells := 0, slots := 0, locals := 721 }) (q_P E [.ref M, .int (nI k9), .int 3] f n) (q_Qv E (fun f1 n1 => ∃ (r1 : q_R) (tk1 nd1 cc1 ac1 : Nat), r_Q r r1 K T (p_take K 29 (p_known K Wd pN pn (p_what K (p_val K Wd pN pn 4 u)))) tk nd cc k9 tk1 nd1 cc1 ac1 ∧ r1 107 0 = r 107 0 ∧ ((p_take K 29 (p_known K Wd pN pn (p_what K (p_val K Wd pN pn 4 u)))).2.1 ≠ 40 → r1 108 0 = r 108 0) ∧ (cc1 = cc ∧ ac1 = ac) ∧ ((k9 < ac → r1 35 k9 = r 35 k9) ∧ (k9 < ac → (p_take K 29 (p_known K Wd pN pn (p_what K (p_val K Wd pN pn 4 u)))).2.1 ≠ 40 → (p_take K 29 (p_known K Wd pN pn (p_what K (p_val K Wd pN pn 4 u)))).2.2.1 = 0 → ∃ i x, i < pn ∧ ix pN pn (Wd (p_what K (p_val K Wd pN pn 4 u)).1) = nI i ∧ r1 29 k9 = nI i ∧ r1 30 k9 = nI x ∧ mV (bR r1 25) pn nd1 5 x (p_valD K Wd pN pn 4 u) ∧ r1 28 k9 = (if (p_val K Wd pN pn 4 u).2.1 = 5 then 5 else 4))) ∧ rO E f M r1 = f1 ∧ n = n1)) 0 0 (q_ge E) := by
  refine Met.ofW (cc := cX14_plain) (maxL := 3) (ret := none) (by decide) rfl ?_
  intro p e s m args below meth c s₁ B hml hv
  obtain ⟨rfl, hA, hW⟩ := hv
  have hx := B.exec
  have hb := B.bytes
  have hr := B.returns
  have hts := atoms_spec (ws := wsX14_plain) B.pre
  have hown : s.vm.findClass RX14 = some m.cls := findClass_of_methodNamed B.named
  have hlocks := B.notSynchronized
  have hS : va_S (q_ge E) s.heap s.heap [] := va_S.rf
  have iX13 : ∀ w ∈ wsX130, w ∈ wsX14_plain := by decide +kernel
  have iX14 : ∀ w ∈ wsX140, w ∈ wsX14_plain := by decide +kernel
  have hl := lv_entry ([.ref M, .int (nI k9), .int 3]) (n := 3) (Nat.le_of_ble_eq_true rfl)
  rw [lg_entry_eq]
  generalize (lg_sl ([.ref M, .int (nI k9), .int 3]) ++ List.replicate (3 - (lg_sl ([.ref M, .int (nI k9), .int 3])).length) Slot.unset).toArray = ls at hl ⊢
  have hl : lv_has ls 3 [(0, .ref M), (1, .int (nI k9)), (2, .int 3)] := hl
  have hmE := hm.eq
  rw [hm.eq] at hW
  have Q0 := r_Q.rf hP
  have htk := hP.1.2.1
  have hnd := hP.1.2.2.2.1
  have hcc := hP.1.2.2.2.2.2.1
  have hac := hP.1.2.2.2.2.2.2.2
  have Q9 : r_Q r r K T u tk nd cc k9 tk nd cc ac := ⟨hP, r_G.rf, ⟨Nat.le_refl _, Nat.le_refl _, Nat.le_refl _, Nat.le_refl _, Nat.le_refl _, hk9⟩⟩
  refine lv_iload_n hx hb dX14_plain_0 rfl (lv_at hl 2 rfl) ?_
  refine lv_tableIn (x := 3) (off := 63) (tgt := 64) hx hb dX14_plain_1 (by decide) (by decide) (by decide) (by decide) ?_
  refine lv_aload_n hx hb dX14_plain_64 rfl (lv_at hl 0 rfl) ?_
  refine q_get hx hb hts hown hA hW iX14 rO_0 rfl 18 (by decide) (hts (.fieldLink RX14 42 "HighRecipesModel" "fresh" "LHighRecipesModel$Book;") (by decide +kernel)) (fun _ h9 => h9) (v := .ref (M + 25)) rfl dX14_plain_65 ?_
  refine q_getN hx hb hts hown hA hW iX13 rO_25 rfl 7 (by decide) (va_Nw.use rfl (hA.2.2.2.1 ("HighRecipesModel", 239, "HighRecipesModel$Book", "value", "[I", "HighRecipesModel") (by decide +kernel))) (fun _ h9 => h9) (v := .ref (M + 30)) rfl dX14_plain_68 ?_
  refine lv_iload_n hx hb dX14_plain_71 rfl (lv_at hl 1 rfl) ?_
  refine lv_aload_n hx hb dX14_plain_72 rfl (lv_at hl 0 rfl) ?_
  refine q_ci (va_runV (As := []) (rest := [.int (nI k9), .ref (M + 30)]) ⟨hx, hb, hml, hown, hts⟩ (rval_all l E 4 (rO E f M r) n M r K Wd T u tk nd cc ac pN pn rO_K hTK hT hKT hK41 Q9.1 hok (hnm.mv (Q9.2.1.1 6 (by decide) (by decide) (by decide))) hpn hpn9 hv8 (by decide)) (cwV 0 hts gX14_plain_X14_value rfl rfl rfl (by decide +kernel) ⟨(Nat.le_of_ble_eq_true rfl), (Nat.le_of_ble_eq_true rfl)⟩) (q_pV hA hW hS (ci := 12) rfl rO_0) rfl rfl hl.1 rfl (lv_room (Nat.le_of_ble_eq_true rfl)) dX14_plain_73 ⟨Nat.le_of_ble_eq_true rfl, Nat.le_of_ble_eq_true rfl⟩) hS (fun r_73 f_73 n_73 H locs hp hW hS => ?_)
  obtain ⟨R_73, tk_73, nd_73, cc_73, ac_73, q_73, e7_73, e8_73, ec_73, ex_73, rfl, rfl⟩ := hp
  have G_73 : p_go K T u (p_val K Wd pN pn 4 u) := (go_val0 hKT 4 _)
  have GG_73 := G_73 hok
  have ok_73 := GG_73.1
  have le_73 := GG_73.2.2.2.1
  have er_73 := GG_73.2.2.2.2
  have Q_73 := Q9.trans q_73
  have T_73 := Q_73.tok hTK
  have num_73 := Q_73.2.2
  unfold r_num at num_73
  have bt_73 := Q_73.1.1.2.1
  have bn_73 := Q_73.1.1.2.2.2.1
  have bc_73 := Q_73.1.1.2.2.2.2.2.1
  have ba_73 := Q_73.1.1.2.2.2.2.2.2.2
  have qn_73 := q_73.2.2
  unfold r_num at qn_73
  have Gm73_73 : r_G R_73 R_73 nd_73 cc_73 k9 := r_G.rf
  have y35_73 : k9 < ac → R_73 35 k9 = r 35 k9 := fun h0 => (q_73.2.1.2.2.2 35 k9 (by decide) (by decide) (by omega)).trans ((fun _ => rfl) h0)
  have y28_73 : k9 < ac → R_73 28 k9 = r 28 k9 := fun h0 => (q_73.2.1.2.2.2 28 k9 (by decide) (by decide) (by omega)).trans ((fun _ => rfl) h0)
  rw [rO_rO] at hW
  have hW : q_W E (rO E f M R_73) n H := hW
  refine q_ast hx hb hA hW hS (rO_30 (g := R_73 30) rfl) k9 rfl (by omega) (by decide) dX14_plain_76 (fun H locs hW hS => ?_)
  have hW := q_sa 30 hW rfl rfl
  obtain ⟨R_77, hR_77⟩ : ∃ z, z = rp R_73 30 (upd (R_73 30) k9 r_73) := ⟨_, rfl⟩
  rw [← hR_77] at hW
  have Q_77 : r_Q r R_77 K T (p_val K Wd pN pn 4 u) tk nd cc k9 tk_73 nd_73 cc_73 ac_73 := by rw [hR_77]; exact (Q_73.st (by decide) (by omega))
  have T_77 := Q_77.tok hTK
  have num_77 := Q_77.2.2
  unfold r_num at num_77
  have bt_77 := Q_77.1.1.2.1
  have bn_77 := Q_77.1.1.2.2.2.1
  have bc_77 := Q_77.1.1.2.2.2.2.2.1
  have ba_77 := Q_77.1.1.2.2.2.2.2.2.2
  have Gm73_77 : r_G R_73 R_77 nd_73 cc_73 k9 := by rw [hR_77]; exact (r_G.upA Gm73_73 (by omega))
  have y35_77 : k9 < ac → R_77 35 k9 = r 35 k9 := fun h0 => by rw [hR_77]; exact y35_73 h0
  have y28_77 : k9 < ac → R_77 28 k9 = r 28 k9 := fun h0 => by rw [hR_77]; exact y28_73 h0
  have y30_77 : k9 < ac → R_77 30 k9 = r_73 := fun _ => by rw [hR_77]; exact st_row (r := R_73) (j := 30) (q0 := k9) (x := r_73)
  refine lv_aload_n hx hb dX14_plain_77 rfl (lv_at hl 0 rfl) ?_
  refine lv_iconst (v := 5) hx hb dX14_plain_78 (by decide) ?_
  refine q_ci (va_runV (As := [.int 5]) (rest := []) ⟨hx, hb, hml, hown, hts⟩ (kX14_is l E (rO E f M R_77) n M R_77 K Wd T (p_val K Wd pN pn 4 u) tk_73 nd_73 cc_73 ac_73 5 5 rO_K T_77 hT hKT hK41 Q_77.1 ok_73 rfl (by decide)) (cwV 1 hts gX14_plain_X14_is rfl rfl rfl (by decide +kernel) ⟨(Nat.le_of_ble_eq_true rfl), (Nat.le_of_ble_eq_true rfl)⟩) (q_pV hA hW hS (ci := 12) rfl rO_0) rfl rfl hl.1 rfl (lv_room (Nat.le_of_ble_eq_true rfl)) dX14_plain_79 ⟨Nat.le_of_ble_eq_true rfl, Nat.le_of_ble_eq_true rfl⟩) hS (fun r_79 f_79 n_79 H locs hp hW hS => ?_)
  obtain ⟨rfl, rfl, rfl⟩ := hp
  have hW : q_W E (rO E f M R_77) n H := hW
  refine lv_if_eq (tgt := 98) hx hb dX14_plain_82 (by decide) (fun c_82 => ?_) (fun c_82 => ?_)
  · have e5 : ¬ (p_val K Wd pN pn 4 u).2.1 = 5 := of_decide_eq_false (b01_0 c_82)
    refine lv_aload_n hx hb dX14_plain_98 rfl (lv_at hl 0 rfl) ?_
    refine lv_iconst (v := 4) hx hb dX14_plain_99 (by decide) ?_
    refine q_ci (va_runV (As := [.int 4]) (rest := []) ⟨hx, hb, hml, hown, hts⟩ (kX14_is l E (rO E f M R_77) n M R_77 K Wd T (p_val K Wd pN pn 4 u) tk_73 nd_73 cc_73 ac_73 4 4 rO_K T_77 hT hKT hK41 Q_77.1 ok_73 rfl (by decide)) (cwV 1 hts gX14_plain_X14_is rfl rfl rfl (by decide +kernel) ⟨(Nat.le_of_ble_eq_true rfl), (Nat.le_of_ble_eq_true rfl)⟩) (q_pV hA hW hS (ci := 12) rfl rO_0) rfl rfl hl.1 rfl (lv_room (Nat.le_of_ble_eq_true rfl)) dX14_plain_100 ⟨Nat.le_of_ble_eq_true rfl, Nat.le_of_ble_eq_true rfl⟩) hS (fun r_100 f_100 n_100 H locs hp hW hS => ?_)
    obtain ⟨rfl, rfl, rfl⟩ := hp
    have hW : q_W E (rO E f M R_77) n H := hW
    refine lv_if_eq (tgt := 119) hx hb dX14_plain_103 (by decide) (fun c_103 => ?_) (fun c_103 => ?_)
    · have e4 : ¬ (p_val K Wd pN pn 4 u).2.1 = 4 := of_decide_eq_false (b01_0 c_103)
      refine lv_aload_n hx hb dX14_plain_119 rfl (lv_at hl 0 rfl) ?_
      refine q_cv (va_runV (As := []) (rest := []) ⟨hx, hb, hml, hown, hts⟩ (kX14_wrong l E (rO E f M R_77) n M R_77 K Wd T (p_val K Wd pN pn 4 u) tk_73 nd_73 cc_73 ac_73 rO_K T_77 hT hKT hK41 Q_77.1 ok_73) (cwV 0 hts gX14_plain_X14_wrong rfl rfl rfl (by decide +kernel) ⟨(Nat.le_of_ble_eq_true rfl), (Nat.le_of_ble_eq_true rfl)⟩) (q_pV hA hW hS (ci := 12) rfl rO_0) rfl rfl hl.1 rfl (lv_room (Nat.le_of_ble_eq_true rfl)) dX14_plain_120 ⟨Nat.le_of_ble_eq_true rfl, Nat.le_of_ble_eq_true rfl⟩) hS (fun f_120 n_120 H locs hp hW hS => ?_)
      obtain ⟨R_120, tk_120, nd_120, cc_120, ac_120, q_120, e7_120, e8_120, ec_120, ex_120, rfl, rfl⟩ := hp
      have G_120 : p_go K T (p_val K Wd pN pn 4 u) (p_step K false (p_val K Wd pN pn 4 u)) := (go_step hKT (fun h9 => by cases h9))
      have GG_120 := G_120 ok_73
      have ok_120 := GG_120.1
      have le_120 := GG_120.2.2.2.1
      have er_120 := GG_120.2.2.2.2
      have Q_120 := Q_77.trans q_120
      have T_120 := Q_120.tok hTK
      have num_120 := Q_120.2.2
      unfold r_num at num_120
      have bt_120 := Q_120.1.1.2.1
      have bn_120 := Q_120.1.1.2.2.2.1
      have bc_120 := Q_120.1.1.2.2.2.2.2.1
      have ba_120 := Q_120.1.1.2.2.2.2.2.2.2
      have qn_120 := q_120.2.2
      unfold r_num at qn_120
      have Gm73_120 := Gm73_77.trans q_120.2.1 (by omega) (by omega) (by omega)
      have y35_120 : k9 < ac → R_120 35 k9 = r 35 k9 := fun h0 => (q_120.2.1.2.2.2 35 k9 (by decide) (by decide) (by omega)).trans (y35_77 h0)
      have y28_120 : k9 < ac → R_120 28 k9 = r 28 k9 := fun h0 => (q_120.2.1.2.2.2 28 k9 (by decide) (by decide) (by omega)).trans (y28_77 h0)
      have y30_120 : k9 < ac → R_120 30 k9 = r_73 := fun h0 => (q_120.2.1.2.2.2 30 k9 (by decide) (by decide) (by omega)).trans (y30_77 h0)
      rw [rO_rO] at hW
      have hW : q_W E (rO E f M R_120) n H := hW
      refine lv_aload_n hx hb dX14_plain_123 rfl (lv_at hl 0 rfl) ?_
      refine q_get hx hb hts hown hA hW iX14 rO_0 rfl 9 (by decide) (hts (.fieldLink RX14 116 "HighRecipesModel" "isWrong" "Z") (by decide +kernel)) (fun _ h9 => h9) (v := .int 1) (congrArg (fun z => some (Value.int z)) ex_120) dX14_plain_124 ?_
      refine lv_if_ne (tgt := 140) hx hb dX14_plain_127 (by decide) (fun c_127 => ?_) (fun c_127 => False.elim ((fun h9 => absurd h9 (by decide)) c_127))
      have e140 : (p_take K (if (p_val K Wd pN pn 4 u).2.1 = 5 then 5 else 4) (p_val K Wd pN pn 4 u)) = p_step K false (p_val K Wd pN pn 4 u) := by rw [if_neg e5]; unfold p_take; rw [decide_eq_false e4]
      refine lv_aload_n hx hb dX14_plain_140 rfl (lv_at hl 0 rfl) ?_
      refine lv_bipush (v := 6) hx hb dX14_plain_141 (by decide) ?_
      refine q_cv (va_runV (As := [.int 6]) (rest := []) ⟨hx, hb, hml, hown, hts⟩ (kX14_take l E (rO E f M R_120) n M R_120 K Wd T (p_step K false (p_val K Wd pN pn 4 u)) tk_120 nd_120 cc_120 ac_120 6 6 rO_K T_120 hT hKT hK41 Q_120.1 ok_120 rfl (by decide)) (cwV 1 hts gX14_plain_X14_take rfl rfl rfl (by decide +kernel) ⟨(Nat.le_of_ble_eq_true rfl), (Nat.le_of_ble_eq_true rfl)⟩) (q_pV hA hW hS (ci := 12) rfl rO_0) rfl rfl hl.1 rfl (lv_room (Nat.le_of_ble_eq_true rfl)) dX14_plain_143 ⟨Nat.le_of_ble_eq_true rfl, Nat.le_of_ble_eq_true rfl⟩) hS (fun f_143 n_143 H locs hp hW hS => ?_)
      obtain ⟨R_143, tk_143, nd_143, cc_143, ac_143, q_143, e7_143, e8_143, ec_143, ex_143, rfl, rfl⟩ := hp
      have G_143 : p_go K T (p_step K false (p_val K Wd pN pn 4 u)) (p_take K 6 (p_step K false (p_val K Wd pN pn 4 u))) := (go_take hKT (by decide))
      have GG_143 := G_143 ok_120
      have ok_143 := GG_143.1
      have le_143 := GG_143.2.2.2.1
      have er_143 := GG_143.2.2.2.2
      have Q_143 := Q_120.trans q_143
      have T_143 := Q_143.tok hTK
      have num_143 := Q_143.2.2
      unfold r_num at num_143
      have bt_143 := Q_143.1.1.2.1
      have bn_143 := Q_143.1.1.2.2.2.1
      have bc_143 := Q_143.1.1.2.2.2.2.2.1
      have ba_143 := Q_143.1.1.2.2.2.2.2.2.2
      have qn_143 := q_143.2.2
      unfold r_num at qn_143
      have Gm73_143 := Gm73_120.trans q_143.2.1 (by omega) (by omega) (by omega)
      have y35_143 : k9 < ac → R_143 35 k9 = r 35 k9 := fun h0 => (q_143.2.1.2.2.2 35 k9 (by decide) (by decide) (by omega)).trans (y35_120 h0)
      have y28_143 : k9 < ac → R_143 28 k9 = r 28 k9 := fun h0 => (q_143.2.1.2.2.2 28 k9 (by decide) (by decide) (by omega)).trans (y28_120 h0)
      have y30_143 : k9 < ac → R_143 30 k9 = r_73 := fun h0 => (q_143.2.1.2.2.2 30 k9 (by decide) (by decide) (by omega)).trans (y30_120 h0)
      rw [rO_rO] at hW
      have hW : q_W E (rO E f M R_143) n H := hW
      refine lv_aload_n hx hb dX14_plain_146 rfl (lv_at hl 0 rfl) ?_
      refine q_get hx hb hts hown hA hW iX14 rO_0 rfl 18 (by decide) (hts (.fieldLink RX14 42 "HighRecipesModel" "fresh" "LHighRecipesModel$Book;") (by decide +kernel)) (fun _ h9 => h9) (v := .ref (M + 25)) rfl dX14_plain_147 ?_
      refine q_getN hx hb hts hown hA hW iX13 rO_25 rfl 6 (by decide) (va_Nw.use rfl (hA.2.2.2.1 ("HighRecipesModel", 250, "HighRecipesModel$Book", "whom", "[I", "HighRecipesModel") (by decide +kernel))) (fun _ h9 => h9) (v := .ref (M + 29)) rfl dX14_plain_150 ?_
      refine lv_iload_n hx hb dX14_plain_153 rfl (lv_at hl 1 rfl) ?_
      refine lv_aload_n hx hb dX14_plain_154 rfl (lv_at hl 0 rfl) ?_
      refine q_ci (va_runV (As := []) (rest := [.int (nI k9), .ref (M + 29)]) ⟨hx, hb, hml, hown, hts⟩ (kX14_pan l E (rO E f M R_143) n M R_143 K Wd T (p_take K 6 (p_step K false (p_val K Wd pN pn 4 u))) tk_143 nd_143 cc_143 ac_143 pN pn rO_K T_143 hT hKT hK41 Q_143.1 ok_143 (hnm.mv (Q_143.2.1.1 6 (by decide) (by decide) (by decide))) hpn ((congrFun (q_143.2.1.1 130 (by decide) (by decide) (by decide)) 0).trans ((congrFun (q_120.2.1.1 130 (by decide) (by decide) (by decide)) 0).trans (show R_77 130 0 = nI pn from by rw [hR_77]; exact ((congrFun (q_73.2.1.1 130 (by decide) (by decide) (by decide)) 0).trans hpn9))))) (cwV 0 hts gX14_plain_X14_pan rfl rfl rfl (by decide +kernel) ⟨(Nat.le_of_ble_eq_true rfl), (Nat.le_of_ble_eq_true rfl)⟩) (q_pV hA hW hS (ci := 12) rfl rO_0) rfl rfl hl.1 rfl (lv_room (Nat.le_of_ble_eq_true rfl)) dX14_plain_155 ⟨Nat.le_of_ble_eq_true rfl, Nat.le_of_ble_eq_true rfl⟩) hS (fun r_155 f_155 n_155 H locs hp hW hS => ?_)
      obtain ⟨R_155, tk_155, nd_155, cc_155, ac_155, q_155, e7_155, e8_155, ec_155, ex_155, rfl, rfl⟩ := hp
      have G_155 : p_go K T (p_take K 6 (p_step K false (p_val K Wd pN pn 4 u))) (p_known K Wd pN pn (p_take K 6 (p_step K false (p_val K Wd pN pn 4 u)))) := (go_known hKT)
      have GG_155 := G_155 ok_143
      have ok_155 := GG_155.1
      have le_155 := GG_155.2.2.2.1
      have er_155 := GG_155.2.2.2.2
      have Q_155 := Q_143.trans q_155
      have T_155 := Q_155.tok hTK
      have num_155 := Q_155.2.2
      unfold r_num at num_155
      have bt_155 := Q_155.1.1.2.1
      have bn_155 := Q_155.1.1.2.2.2.1
      have bc_155 := Q_155.1.1.2.2.2.2.2.1
      have ba_155 := Q_155.1.1.2.2.2.2.2.2.2
      have qn_155 := q_155.2.2
      unfold r_num at qn_155
      have Gm73_155 := Gm73_143.trans q_155.2.1 (by omega) (by omega) (by omega)
      have y35_155 : k9 < ac → R_155 35 k9 = r 35 k9 := fun h0 => (q_155.2.1.2.2.2 35 k9 (by decide) (by decide) (by omega)).trans (y35_143 h0)
      have y28_155 : k9 < ac → R_155 28 k9 = r 28 k9 := fun h0 => (q_155.2.1.2.2.2 28 k9 (by decide) (by decide) (by omega)).trans (y28_143 h0)
      have y30_155 : k9 < ac → R_155 30 k9 = r_73 := fun h0 => (q_155.2.1.2.2.2 30 k9 (by decide) (by decide) (by omega)).trans (y30_143 h0)
      rw [rO_rO] at hW
      have hW : q_W E (rO E f M R_155) n H := hW
      refine q_ast hx hb hA hW hS (rO_29 (g := R_155 29) rfl) k9 rfl (by omega) (by decide) dX14_plain_158 (fun H locs hW hS => ?_)
      have hW := q_sa 29 hW rfl rfl
      refine lv_goto (tgt := 261) hx hb dX14_plain_159 (by decide) ?_
      obtain ⟨R_261, hR_261⟩ : ∃ z, z = rp R_155 29 (upd (R_155 29) k9 r_155) := ⟨_, rfl⟩
      rw [← hR_261] at hW
      have Q_261 : r_Q r R_261 K T (p_known K Wd pN pn (p_take K 6 (p_step K false (p_val K Wd pN pn 4 u)))) tk nd cc k9 tk_155 nd_155 cc_155 ac_155 := by rw [hR_261]; exact (Q_155.st (by decide) (by omega))
      have T_261 := Q_261.tok hTK
      have num_261 := Q_261.2.2
      unfold r_num at num_261
      have bt_261 := Q_261.1.1.2.1
      have bn_261 := Q_261.1.1.2.2.2.1
      have bc_261 := Q_261.1.1.2.2.2.2.2.1
      have ba_261 := Q_261.1.1.2.2.2.2.2.2.2
      have Gm73_261 : r_G R_73 R_261 nd_73 cc_73 k9 := by rw [hR_261]; exact (r_G.upA Gm73_155 (by omega))
      have y35_261 : k9 < ac → R_261 35 k9 = r 35 k9 := fun h0 => by rw [hR_261]; exact y35_155 h0
      have y28_261 : k9 < ac → R_261 28 k9 = r 28 k9 := fun h0 => by rw [hR_261]; exact y28_155 h0
      have y30_261 : k9 < ac → R_261 30 k9 = r_73 := fun h0 => by rw [hR_261]; exact y30_155 h0
      have y29_261 : k9 < ac → R_261 29 k9 = r_155 := fun _ => by rw [hR_261]; exact st_row (r := R_155) (j := 29) (q0 := k9) (x := r_155)
      refine lv_aload_n hx hb dX14_plain_261 rfl (lv_at hl 0 rfl) ?_
      refine lv_bipush (v := 52) hx hb dX14_plain_262 (by decide) ?_
      refine q_cv (va_runV (As := [.int 52]) (rest := []) ⟨hx, hb, hml, hown, hts⟩ (kX14_take l E (rO E f M R_261) n M R_261 K Wd T (p_known K Wd pN pn (p_take K 6 (p_step K false (p_val K Wd pN pn 4 u)))) tk_155 nd_155 cc_155 ac_155 29 52 rO_K T_261 hT hKT hK41 Q_261.1 ok_155 rfl (by decide)) (cwV 1 hts gX14_plain_X14_take rfl rfl rfl (by decide +kernel) ⟨(Nat.le_of_ble_eq_true rfl), (Nat.le_of_ble_eq_true rfl)⟩) (q_pV hA hW hS (ci := 12) rfl rO_0) rfl rfl hl.1 rfl (lv_room (Nat.le_of_ble_eq_true rfl)) dX14_plain_264 ⟨Nat.le_of_ble_eq_true rfl, Nat.le_of_ble_eq_true rfl⟩) hS (fun f_264 n_264 H locs hp hW hS => ?_)
      obtain ⟨R_264, tk_264, nd_264, cc_264, ac_264, q_264, e7_264, e8_264, ec_264, ex_264, rfl, rfl⟩ := hp
      have G_264 : p_go K T (p_known K Wd pN pn (p_take K 6 (p_step K false (p_val K Wd pN pn 4 u)))) (p_take K 29 (p_known K Wd pN pn (p_take K 6 (p_step K false (p_val K Wd pN pn 4 u))))) := (go_take hKT (by decide))
      have GG_264 := G_264 ok_155
      have ok_264 := GG_264.1
      have le_264 := GG_264.2.2.2.1
      have er_264 := GG_264.2.2.2.2
      have Q_264 := Q_261.trans q_264
      have T_264 := Q_264.tok hTK
      have num_264 := Q_264.2.2
      unfold r_num at num_264
      have bt_264 := Q_264.1.1.2.1
      have bn_264 := Q_264.1.1.2.2.2.1
      have bc_264 := Q_264.1.1.2.2.2.2.2.1
      have ba_264 := Q_264.1.1.2.2.2.2.2.2.2
      have qn_264 := q_264.2.2
      unfold r_num at qn_264
      have Gm73_264 := Gm73_261.trans q_264.2.1 (by omega) (by omega) (by omega)
      have y35_264 : k9 < ac → R_264 35 k9 = r 35 k9 := fun h0 => (q_264.2.1.2.2.2 35 k9 (by decide) (by decide) (by omega)).trans (y35_261 h0)
      have y28_264 : k9 < ac → R_264 28 k9 = r 28 k9 := fun h0 => (q_264.2.1.2.2.2 28 k9 (by decide) (by decide) (by omega)).trans (y28_261 h0)
      have y30_264 : k9 < ac → R_264 30 k9 = r_73 := fun h0 => (q_264.2.1.2.2.2 30 k9 (by decide) (by decide) (by omega)).trans (y30_261 h0)
      have y29_264 : k9 < ac → R_264 29 k9 = r_155 := fun h0 => (q_264.2.1.2.2.2 29 k9 (by decide) (by decide) (by omega)).trans (y29_261 h0)
      rw [rO_rO] at hW
      have hW : q_W E (rO E f M R_264) n H := hW
      exact q_vret hx hb hr hlocks hW hS ⟨_, _, _, _, _, (by unfold p_what; rw [e140]; exact Q_264), (e7_264.trans (show R_261 107 0 = r 107 0 from by rw [hR_261]; exact (e7_155.trans (e7_143.trans (e7_120.trans (show R_77 107 0 = r 107 0 from by rw [hR_77]; exact (e7_73.trans rfl))))))), (fun h1 => by unfold p_what at h1; rw [e140] at h1; exact (fun z => e8_264.trans ((fun z => (show R_261 108 0 = r 108 0 from by rw [hR_261]; exact (fun z => e8_155.trans ((fun z => e8_143.trans ((fun z => e8_120.trans ((fun z => (show R_77 108 0 = r 108 0 from by rw [hR_77]; exact (fun z => (e8_73 z).trans rfl) z)) (le_120 z))) (le_143 z))) (le_155 z))) z)) (le_264 z))) h1), ⟨(ec_264.1.trans (ec_155.1.trans (ec_143.1.trans (ec_120.1.trans (ec_73.1.trans rfl))))), (ec_264.2.trans (ec_155.2.trans (ec_143.2.trans (ec_120.2.trans (ec_73.2.trans rfl)))))⟩, ⟨(fun h0 => (y35_264 h0)), (fun h0 h1 h2 => absurd (step_bad rfl).2 (le_143 (le_155 (le_264 (by unfold p_what at h1; rw [e140] at h1; exact h1)))))⟩, rfl, rfl⟩ (Nat.le_of_ble_eq_true rfl) (Nat.le_of_ble_eq_true rfl) dX14_plain_267
    · have e4 : (p_val K Wd pN pn 4 u).2.1 = 4 := of_decide_eq_true (b01_1 c_103)
      have nw9 := Q_77.1.nw (by omega)
      refine lv_aload_n hx hb dX14_plain_106 rfl (lv_at hl 0 rfl) ?_
      refine q_get hx hb hts hown hA hW iX14 rO_0 rfl 18 (by decide) (hts (.fieldLink RX14 42 "HighRecipesModel" "fresh" "LHighRecipesModel$Book;") (by decide +kernel)) (fun _ h9 => h9) (v := .ref (M + 25)) rfl dX14_plain_107 ?_
      refine q_getN hx hb hts hown hA hW iX13 rO_25 rfl 5 (by decide) (va_Nw.use rfl (hA.2.2.2.1 ("HighRecipesModel", 218, "HighRecipesModel$Book", "does", "[I", "HighRecipesModel") (by decide +kernel))) (fun _ h9 => h9) (v := .ref (M + 28)) rfl dX14_plain_110 ?_
      refine lv_iload_n hx hb dX14_plain_113 rfl (lv_at hl 1 rfl) ?_
      refine lv_iconst (v := 4) hx hb dX14_plain_114 (by decide) ?_
      refine q_ast hx hb hA hW hS (rO_28 (g := R_77 28) rfl) k9 rfl (by omega) (by decide) dX14_plain_115 (fun H locs hW hS => ?_)
      have hW := q_sa 28 hW rfl rfl
      refine lv_goto (tgt := 123) hx hb dX14_plain_116 (by decide) ?_
      refine lv_aload_n hx hb dX14_plain_123 rfl (lv_at hl 0 rfl) ?_
      refine q_get hx hb hts hown hA hW iX14 rO_0 rfl 9 (by decide) (hts (.fieldLink RX14 116 "HighRecipesModel" "isWrong" "Z") (by decide +kernel)) (fun _ h9 => h9) (v := .int 0) (congrArg (fun z => some (Value.int z)) nw9.1) dX14_plain_124 ?_
      refine lv_if_ne (tgt := 140) hx hb dX14_plain_127 (by decide) (fun c_127 => False.elim ((fun h9 => h9 rfl) c_127)) (fun c_127 => ?_)
      refine lv_aload_n hx hb dX14_plain_130 rfl (lv_at hl 0 rfl) ?_
      refine lv_dup hx hb dX14_plain_131 rfl ?_
      refine q_get hx hb hts hown hA hW iX14 rO_0 rfl 8 (by decide) (hts (.fieldLink RX14 120 "HighRecipesModel" "token" "I") (by decide +kernel)) (fun _ h9 => h9) (v := .int (nI tk_73)) (congrArg (fun z => some (Value.int z)) Q_77.1.1.1) dX14_plain_132 ?_
      refine lv_iconst (v := 1) hx hb dX14_plain_135 (by decide) ?_
      refine lv_iadd hx hb dX14_plain_136 ?_
      refine q_put hx hb hts hown hA hW hS iX14 tyX14 tyX14_ok nmX14 rO_0 rfl 8 (by decide) (hts (.fieldLink RX14 120 "HighRecipesModel" "token" "I") (by decide +kernel)) (fun _ h9 => h9) rfl rfl rfl (Nat.le_of_ble_eq_true rfl) dX14_plain_137 (fun H locs hW hS => ?_)
      rw [show (nI tk_73) + 1 = nI (tk_73 + 1) from nI_1 tk_73] at hW
      have hW := q_s0 103 (nI (tk_73 + 1)) hW rfl (by decide)
      have e140 : (p_take K (if (p_val K Wd pN pn 4 u).2.1 = 5 then 5 else 4) (p_val K Wd pN pn 4 u)) = p_step K true (p_val K Wd pN pn 4 u) := by rw [if_neg e5]; unfold p_take; rw [decide_eq_true e4]
      obtain ⟨R_140, hR_140⟩ : ∃ z, z = rp (rp R_77 28 (upd (R_77 28) k9 4)) 103 (fun _ => nI (tk_73 + 1)) := ⟨_, rfl⟩
      rw [← hR_140] at hW
      have Q_140 : r_Q r R_140 K T (p_step K true (p_val K Wd pN pn 4 u)) tk nd cc k9 (tk_73 + 1) nd_73 cc_73 ac_73 := by rw [hR_140]; exact ((Q_77.st (by decide) (by omega)).inc (by omega) hKT)
      have T_140 := Q_140.tok hTK
      have num_140 := Q_140.2.2
      unfold r_num at num_140
      have bt_140 := Q_140.1.1.2.1
      have bn_140 := Q_140.1.1.2.2.2.1
      have bc_140 := Q_140.1.1.2.2.2.2.2.1
      have ba_140 := Q_140.1.1.2.2.2.2.2.2.2
      have Gm73_140 : r_G R_73 R_140 nd_73 cc_73 k9 := by rw [hR_140]; exact (r_G.upS (r_G.upA Gm73_77 (by omega)) (by decide))
      have y35_140 : k9 < ac → R_140 35 k9 = r 35 k9 := fun h0 => by rw [hR_140]; exact y35_77 h0
      have y30_140 : k9 < ac → R_140 30 k9 = r_73 := fun h0 => by rw [hR_140]; exact y30_77 h0
      have y28_140 : k9 < ac → R_140 28 k9 = 4 := fun _ => by rw [hR_140]; exact st_row (r := R_77) (j := 28) (q0 := k9) (x := 4)
      have G_140 : p_go K T (p_val K Wd pN pn 4 u) (p_step K true (p_val K Wd pN pn 4 u)) := (go_step hKT (fun _ => by omega))
      have GG_140 := G_140 ok_73
      have ok_140 := GG_140.1
      have le_140 := GG_140.2.2.2.1
      have er_140 := GG_140.2.2.2.2
      refine lv_aload_n hx hb dX14_plain_140 rfl (lv_at hl 0 rfl) ?_
      refine lv_bipush (v := 6) hx hb dX14_plain_141 (by decide) ?_
      refine q_cv (va_runV (As := [.int 6]) (rest := []) ⟨hx, hb, hml, hown, hts⟩ (kX14_take l E (rO E f M R_140) n M R_140 K Wd T (p_step K true (p_val K Wd pN pn 4 u)) (tk_73 + 1) nd_73 cc_73 ac_73 6 6 rO_K T_140 hT hKT hK41 Q_140.1 ok_140 rfl (by decide)) (cwV 1 hts gX14_plain_X14_take rfl rfl rfl (by decide +kernel) ⟨(Nat.le_of_ble_eq_true rfl), (Nat.le_of_ble_eq_true rfl)⟩) (q_pV hA hW hS (ci := 12) rfl rO_0) rfl rfl hl.1 rfl (lv_room (Nat.le_of_ble_eq_true rfl)) dX14_plain_143 ⟨Nat.le_of_ble_eq_true rfl, Nat.le_of_ble_eq_true rfl⟩) hS (fun f_143 n_143 H locs hp hW hS => ?_)
      obtain ⟨R_143, tk_143, nd_143, cc_143, ac_143, q_143, e7_143, e8_143, ec_143, ex_143, rfl, rfl⟩ := hp
      have G_143 : p_go K T (p_step K true (p_val K Wd pN pn 4 u)) (p_take K 6 (p_step K true (p_val K Wd pN pn 4 u))) := (go_take hKT (by decide))
      have GG_143 := G_143 ok_140
      have ok_143 := GG_143.1
      have le_143 := GG_143.2.2.2.1
      have er_143 := GG_143.2.2.2.2
      have Q_143 := Q_140.trans q_143
      have T_143 := Q_143.tok hTK
      have num_143 := Q_143.2.2
      unfold r_num at num_143
      have bt_143 := Q_143.1.1.2.1
      have bn_143 := Q_143.1.1.2.2.2.1
      have bc_143 := Q_143.1.1.2.2.2.2.2.1
      have ba_143 := Q_143.1.1.2.2.2.2.2.2.2
      have qn_143 := q_143.2.2
      unfold r_num at qn_143
      have Gm73_143 := Gm73_140.trans q_143.2.1 (by omega) (by omega) (by omega)
      have y35_143 : k9 < ac → R_143 35 k9 = r 35 k9 := fun h0 => (q_143.2.1.2.2.2 35 k9 (by decide) (by decide) (by omega)).trans (y35_140 h0)
      have y30_143 : k9 < ac → R_143 30 k9 = r_73 := fun h0 => (q_143.2.1.2.2.2 30 k9 (by decide) (by decide) (by omega)).trans (y30_140 h0)
      have y28_143 : k9 < ac → R_143 28 k9 = 4 := fun h0 => (q_143.2.1.2.2.2 28 k9 (by decide) (by decide) (by omega)).trans (y28_140 h0)
      rw [rO_rO] at hW
      have hW : q_W E (rO E f M R_143) n H := hW
      refine lv_aload_n hx hb dX14_plain_146 rfl (lv_at hl 0 rfl) ?_
      refine q_get hx hb hts hown hA hW iX14 rO_0 rfl 18 (by decide) (hts (.fieldLink RX14 42 "HighRecipesModel" "fresh" "LHighRecipesModel$Book;") (by decide +kernel)) (fun _ h9 => h9) (v := .ref (M + 25)) rfl dX14_plain_147 ?_
      refine q_getN hx hb hts hown hA hW iX13 rO_25 rfl 6 (by decide) (va_Nw.use rfl (hA.2.2.2.1 ("HighRecipesModel", 250, "HighRecipesModel$Book", "whom", "[I", "HighRecipesModel") (by decide +kernel))) (fun _ h9 => h9) (v := .ref (M + 29)) rfl dX14_plain_150 ?_
      refine lv_iload_n hx hb dX14_plain_153 rfl (lv_at hl 1 rfl) ?_
      refine lv_aload_n hx hb dX14_plain_154 rfl (lv_at hl 0 rfl) ?_
      refine q_ci (va_runV (As := []) (rest := [.int (nI k9), .ref (M + 29)]) ⟨hx, hb, hml, hown, hts⟩ (kX14_pan l E (rO E f M R_143) n M R_143 K Wd T (p_take K 6 (p_step K true (p_val K Wd pN pn 4 u))) tk_143 nd_143 cc_143 ac_143 pN pn rO_K T_143 hT hKT hK41 Q_143.1 ok_143 (hnm.mv (Q_143.2.1.1 6 (by decide) (by decide) (by decide))) hpn ((congrFun (q_143.2.1.1 130 (by decide) (by decide) (by decide)) 0).trans (show R_140 130 0 = nI pn from by rw [hR_140]; exact (show R_77 130 0 = nI pn from by rw [hR_77]; exact ((congrFun (q_73.2.1.1 130 (by decide) (by decide) (by decide)) 0).trans hpn9))))) (cwV 0 hts gX14_plain_X14_pan rfl rfl rfl (by decide +kernel) ⟨(Nat.le_of_ble_eq_true rfl), (Nat.le_of_ble_eq_true rfl)⟩) (q_pV hA hW hS (ci := 12) rfl rO_0) rfl rfl hl.1 rfl (lv_room (Nat.le_of_ble_eq_true rfl)) dX14_plain_155 ⟨Nat.le_of_ble_eq_true rfl, Nat.le_of_ble_eq_true rfl⟩) hS (fun r_155 f_155 n_155 H locs hp hW hS => ?_)
      obtain ⟨R_155, tk_155, nd_155, cc_155, ac_155, q_155, e7_155, e8_155, ec_155, ex_155, rfl, rfl⟩ := hp
      have G_155 : p_go K T (p_take K 6 (p_step K true (p_val K Wd pN pn 4 u))) (p_known K Wd pN pn (p_take K 6 (p_step K true (p_val K Wd pN pn 4 u)))) := (go_known hKT)
      have GG_155 := G_155 ok_143
      have ok_155 := GG_155.1
      have le_155 := GG_155.2.2.2.1
      have er_155 := GG_155.2.2.2.2
      have Q_155 := Q_143.trans q_155
      have T_155 := Q_155.tok hTK
      have num_155 := Q_155.2.2
      unfold r_num at num_155
      have bt_155 := Q_155.1.1.2.1
      have bn_155 := Q_155.1.1.2.2.2.1
      have bc_155 := Q_155.1.1.2.2.2.2.2.1
      have ba_155 := Q_155.1.1.2.2.2.2.2.2.2
      have qn_155 := q_155.2.2
      unfold r_num at qn_155
      have Gm73_155 := Gm73_143.trans q_155.2.1 (by omega) (by omega) (by omega)
      have y35_155 : k9 < ac → R_155 35 k9 = r 35 k9 := fun h0 => (q_155.2.1.2.2.2 35 k9 (by decide) (by decide) (by omega)).trans (y35_143 h0)
      have y30_155 : k9 < ac → R_155 30 k9 = r_73 := fun h0 => (q_155.2.1.2.2.2 30 k9 (by decide) (by decide) (by omega)).trans (y30_143 h0)
      have y28_155 : k9 < ac → R_155 28 k9 = 4 := fun h0 => (q_155.2.1.2.2.2 28 k9 (by decide) (by decide) (by omega)).trans (y28_143 h0)
      rw [rO_rO] at hW
      have hW : q_W E (rO E f M R_155) n H := hW
      refine q_ast hx hb hA hW hS (rO_29 (g := R_155 29) rfl) k9 rfl (by omega) (by decide) dX14_plain_158 (fun H locs hW hS => ?_)
      have hW := q_sa 29 hW rfl rfl
      refine lv_goto (tgt := 261) hx hb dX14_plain_159 (by decide) ?_
      obtain ⟨R_261, hR_261⟩ : ∃ z, z = rp R_155 29 (upd (R_155 29) k9 r_155) := ⟨_, rfl⟩
      rw [← hR_261] at hW
      have Q_261 : r_Q r R_261 K T (p_known K Wd pN pn (p_take K 6 (p_step K true (p_val K Wd pN pn 4 u)))) tk nd cc k9 tk_155 nd_155 cc_155 ac_155 := by rw [hR_261]; exact (Q_155.st (by decide) (by omega))
      have T_261 := Q_261.tok hTK
      have num_261 := Q_261.2.2
      unfold r_num at num_261
      have bt_261 := Q_261.1.1.2.1
      have bn_261 := Q_261.1.1.2.2.2.1
      have bc_261 := Q_261.1.1.2.2.2.2.2.1
      have ba_261 := Q_261.1.1.2.2.2.2.2.2.2
      have Gm73_261 : r_G R_73 R_261 nd_73 cc_73 k9 := by rw [hR_261]; exact (r_G.upA Gm73_155 (by omega))
      have y35_261 : k9 < ac → R_261 35 k9 = r 35 k9 := fun h0 => by rw [hR_261]; exact y35_155 h0
      have y30_261 : k9 < ac → R_261 30 k9 = r_73 := fun h0 => by rw [hR_261]; exact y30_155 h0
      have y28_261 : k9 < ac → R_261 28 k9 = 4 := fun h0 => by rw [hR_261]; exact y28_155 h0
      have y29_261 : k9 < ac → R_261 29 k9 = r_155 := fun _ => by rw [hR_261]; exact st_row (r := R_155) (j := 29) (q0 := k9) (x := r_155)
      refine lv_aload_n hx hb dX14_plain_261 rfl (lv_at hl 0 rfl) ?_
      refine lv_bipush (v := 52) hx hb dX14_plain_262 (by decide) ?_
      refine q_cv (va_runV (As := [.int 52]) (rest := []) ⟨hx, hb, hml, hown, hts⟩ (kX14_take l E (rO E f M R_261) n M R_261 K Wd T (p_known K Wd pN pn (p_take K 6 (p_step K true (p_val K Wd pN pn 4 u)))) tk_155 nd_155 cc_155 ac_155 29 52 rO_K T_261 hT hKT hK41 Q_261.1 ok_155 rfl (by decide)) (cwV 1 hts gX14_plain_X14_take rfl rfl rfl (by decide +kernel) ⟨(Nat.le_of_ble_eq_true rfl), (Nat.le_of_ble_eq_true rfl)⟩) (q_pV hA hW hS (ci := 12) rfl rO_0) rfl rfl hl.1 rfl (lv_room (Nat.le_of_ble_eq_true rfl)) dX14_plain_264 ⟨Nat.le_of_ble_eq_true rfl, Nat.le_of_ble_eq_true rfl⟩) hS (fun f_264 n_264 H locs hp hW hS => ?_)
      obtain ⟨R_264, tk_264, nd_264, cc_264, ac_264, q_264, e7_264, e8_264, ec_264, ex_264, rfl, rfl⟩ := hp
      have G_264 : p_go K T (p_known K Wd pN pn (p_take K 6 (p_step K true (p_val K Wd pN pn 4 u)))) (p_take K 29 (p_known K Wd pN pn (p_take K 6 (p_step K true (p_val K Wd pN pn 4 u))))) := (go_take hKT (by decide))
      have GG_264 := G_264 ok_155
      have ok_264 := GG_264.1
      have le_264 := GG_264.2.2.2.1
      have er_264 := GG_264.2.2.2.2
      have Q_264 := Q_261.trans q_264
      have T_264 := Q_264.tok hTK
      have num_264 := Q_264.2.2
      unfold r_num at num_264
      have bt_264 := Q_264.1.1.2.1
      have bn_264 := Q_264.1.1.2.2.2.1
      have bc_264 := Q_264.1.1.2.2.2.2.2.1
      have ba_264 := Q_264.1.1.2.2.2.2.2.2.2
      have qn_264 := q_264.2.2
      unfold r_num at qn_264
      have Gm73_264 := Gm73_261.trans q_264.2.1 (by omega) (by omega) (by omega)
      have y35_264 : k9 < ac → R_264 35 k9 = r 35 k9 := fun h0 => (q_264.2.1.2.2.2 35 k9 (by decide) (by decide) (by omega)).trans (y35_261 h0)
      have y30_264 : k9 < ac → R_264 30 k9 = r_73 := fun h0 => (q_264.2.1.2.2.2 30 k9 (by decide) (by decide) (by omega)).trans (y30_261 h0)
      have y28_264 : k9 < ac → R_264 28 k9 = 4 := fun h0 => (q_264.2.1.2.2.2 28 k9 (by decide) (by decide) (by omega)).trans (y28_261 h0)
      have y29_264 : k9 < ac → R_264 29 k9 = r_155 := fun h0 => (q_264.2.1.2.2.2 29 k9 (by decide) (by decide) (by omega)).trans (y29_261 h0)
      rw [rO_rO] at hW
      have hW : q_W E (rO E f M R_264) n H := hW
      exact q_vret hx hb hr hlocks hW hS ⟨_, _, _, _, _, (by unfold p_what; rw [e140]; exact Q_264), (e7_264.trans (show R_261 107 0 = r 107 0 from by rw [hR_261]; exact (e7_155.trans (e7_143.trans (show R_140 107 0 = r 107 0 from by rw [hR_140]; exact (show R_77 107 0 = r 107 0 from by rw [hR_77]; exact (e7_73.trans rfl))))))), (fun h1 => by unfold p_what at h1; rw [e140] at h1; exact (fun z => e8_264.trans ((fun z => (show R_261 108 0 = r 108 0 from by rw [hR_261]; exact (fun z => e8_155.trans ((fun z => e8_143.trans ((fun z => (show R_140 108 0 = r 108 0 from by rw [hR_140]; exact (fun z => (show R_77 108 0 = r 108 0 from by rw [hR_77]; exact (fun z => (e8_73 z).trans rfl) z)) (le_140 z))) (le_143 z))) (le_155 z))) z)) (le_264 z))) h1), ⟨(ec_264.1.trans (ec_155.1.trans (ec_143.1.trans (ec_73.1.trans rfl)))), (ec_264.2.trans (ec_155.2.trans (ec_143.2.trans (ec_73.2.trans rfl))))⟩, ⟨(fun h0 => (y35_264 h0)), (fun h0 h1 h2 => by unfold p_what at h1 h2 ⊢; rw [e140] at h1 h2 ⊢; have k1 := le_264 h1; have o1 := er_264 h2; obtain ⟨j, j1, j2, j3⟩ := ex_155 k1 o1; obtain ⟨a, i, m⟩ := ex_73 (le_140 (le_143 (le_155 k1))) (er_140 (er_143 (er_155 o1))); exact ⟨j, a, j1, j2, ((y29_264 h0)).trans j3, ((y30_264 h0)).trans i, mV_G m Gm73_264 (by omega), ((y28_264 h0)).trans (if_neg e5).symm⟩)⟩, rfl, rfl⟩ (Nat.le_of_ble_eq_true rfl) (Nat.le_of_ble_eq_true rfl) dX14_plain_267
  · have e5 : (p_val K Wd pN pn 4 u).2.1 = 5 := of_decide_eq_true (b01_1 c_82)
    have nw9 := Q_77.1.nw (by omega)
    refine lv_aload_n hx hb dX14_plain_85 rfl (lv_at hl 0 rfl) ?_
    refine q_get hx hb hts hown hA hW iX14 rO_0 rfl 18 (by decide) (hts (.fieldLink RX14 42 "HighRecipesModel" "fresh" "LHighRecipesModel$Book;") (by decide +kernel)) (fun _ h9 => h9) (v := .ref (M + 25)) rfl dX14_plain_86 ?_
    refine q_getN hx hb hts hown hA hW iX13 rO_25 rfl 5 (by decide) (va_Nw.use rfl (hA.2.2.2.1 ("HighRecipesModel", 218, "HighRecipesModel$Book", "does", "[I", "HighRecipesModel") (by decide +kernel))) (fun _ h9 => h9) (v := .ref (M + 28)) rfl dX14_plain_89 ?_
    refine lv_iload_n hx hb dX14_plain_92 rfl (lv_at hl 1 rfl) ?_
    refine lv_iconst (v := 5) hx hb dX14_plain_93 (by decide) ?_
    refine q_ast hx hb hA hW hS (rO_28 (g := R_77 28) rfl) k9 rfl (by omega) (by decide) dX14_plain_94 (fun H locs hW hS => ?_)
    have hW := q_sa 28 hW rfl rfl
    refine lv_goto (tgt := 123) hx hb dX14_plain_95 (by decide) ?_
    refine lv_aload_n hx hb dX14_plain_123 rfl (lv_at hl 0 rfl) ?_
    refine q_get hx hb hts hown hA hW iX14 rO_0 rfl 9 (by decide) (hts (.fieldLink RX14 116 "HighRecipesModel" "isWrong" "Z") (by decide +kernel)) (fun _ h9 => h9) (v := .int 0) (congrArg (fun z => some (Value.int z)) nw9.1) dX14_plain_124 ?_
    refine lv_if_ne (tgt := 140) hx hb dX14_plain_127 (by decide) (fun c_127 => False.elim ((fun h9 => h9 rfl) c_127)) (fun c_127 => ?_)
    refine lv_aload_n hx hb dX14_plain_130 rfl (lv_at hl 0 rfl) ?_
    refine lv_dup hx hb dX14_plain_131 rfl ?_
    refine q_get hx hb hts hown hA hW iX14 rO_0 rfl 8 (by decide) (hts (.fieldLink RX14 120 "HighRecipesModel" "token" "I") (by decide +kernel)) (fun _ h9 => h9) (v := .int (nI tk_73)) (congrArg (fun z => some (Value.int z)) Q_77.1.1.1) dX14_plain_132 ?_
    refine lv_iconst (v := 1) hx hb dX14_plain_135 (by decide) ?_
    refine lv_iadd hx hb dX14_plain_136 ?_
    refine q_put hx hb hts hown hA hW hS iX14 tyX14 tyX14_ok nmX14 rO_0 rfl 8 (by decide) (hts (.fieldLink RX14 120 "HighRecipesModel" "token" "I") (by decide +kernel)) (fun _ h9 => h9) rfl rfl rfl (Nat.le_of_ble_eq_true rfl) dX14_plain_137 (fun H locs hW hS => ?_)
    rw [show (nI tk_73) + 1 = nI (tk_73 + 1) from nI_1 tk_73] at hW
    have hW := q_s0 103 (nI (tk_73 + 1)) hW rfl (by decide)
    have e140 : (p_take K (if (p_val K Wd pN pn 4 u).2.1 = 5 then 5 else 4) (p_val K Wd pN pn 4 u)) = p_step K true (p_val K Wd pN pn 4 u) := by rw [if_pos e5]; unfold p_take; rw [decide_eq_true e5]
    obtain ⟨R_140, hR_140⟩ : ∃ z, z = rp (rp R_77 28 (upd (R_77 28) k9 5)) 103 (fun _ => nI (tk_73 + 1)) := ⟨_, rfl⟩
    rw [← hR_140] at hW
    have Q_140 : r_Q r R_140 K T (p_step K true (p_val K Wd pN pn 4 u)) tk nd cc k9 (tk_73 + 1) nd_73 cc_73 ac_73 := by rw [hR_140]; exact ((Q_77.st (by decide) (by omega)).inc (by omega) hKT)
    have T_140 := Q_140.tok hTK
    have num_140 := Q_140.2.2
    unfold r_num at num_140
    have bt_140 := Q_140.1.1.2.1
    have bn_140 := Q_140.1.1.2.2.2.1
    have bc_140 := Q_140.1.1.2.2.2.2.2.1
    have ba_140 := Q_140.1.1.2.2.2.2.2.2.2
    have Gm73_140 : r_G R_73 R_140 nd_73 cc_73 k9 := by rw [hR_140]; exact (r_G.upS (r_G.upA Gm73_77 (by omega)) (by decide))
    have y35_140 : k9 < ac → R_140 35 k9 = r 35 k9 := fun h0 => by rw [hR_140]; exact y35_77 h0
    have y30_140 : k9 < ac → R_140 30 k9 = r_73 := fun h0 => by rw [hR_140]; exact y30_77 h0
    have y28_140 : k9 < ac → R_140 28 k9 = 5 := fun _ => by rw [hR_140]; exact st_row (r := R_77) (j := 28) (q0 := k9) (x := 5)
    have G_140 : p_go K T (p_val K Wd pN pn 4 u) (p_step K true (p_val K Wd pN pn 4 u)) := (go_step hKT (fun _ => by omega))
    have GG_140 := G_140 ok_73
    have ok_140 := GG_140.1
    have le_140 := GG_140.2.2.2.1
    have er_140 := GG_140.2.2.2.2
    refine lv_aload_n hx hb dX14_plain_140 rfl (lv_at hl 0 rfl) ?_
    refine lv_bipush (v := 6) hx hb dX14_plain_141 (by decide) ?_
    refine q_cv (va_runV (As := [.int 6]) (rest := []) ⟨hx, hb, hml, hown, hts⟩ (kX14_take l E (rO E f M R_140) n M R_140 K Wd T (p_step K true (p_val K Wd pN pn 4 u)) (tk_73 + 1) nd_73 cc_73 ac_73 6 6 rO_K T_140 hT hKT hK41 Q_140.1 ok_140 rfl (by decide)) (cwV 1 hts gX14_plain_X14_take rfl rfl rfl (by decide +kernel) ⟨(Nat.le_of_ble_eq_true rfl), (Nat.le_of_ble_eq_true rfl)⟩) (q_pV hA hW hS (ci := 12) rfl rO_0) rfl rfl hl.1 rfl (lv_room (Nat.le_of_ble_eq_true rfl)) dX14_plain_143 ⟨Nat.le_of_ble_eq_true rfl, Nat.le_of_ble_eq_true rfl⟩) hS (fun f_143 n_143 H locs hp hW hS => ?_)
    obtain ⟨R_143, tk_143, nd_143, cc_143, ac_143, q_143, e7_143, e8_143, ec_143, ex_143, rfl, rfl⟩ := hp
    have G_143 : p_go K T (p_step K true (p_val K Wd pN pn 4 u)) (p_take K 6 (p_step K true (p_val K Wd pN pn 4 u))) := (go_take hKT (by decide))
    have GG_143 := G_143 ok_140
    have ok_143 := GG_143.1
    have le_143 := GG_143.2.2.2.1
    have er_143 := GG_143.2.2.2.2
    have Q_143 := Q_140.trans q_143
    have T_143 := Q_143.tok hTK
    have num_143 := Q_143.2.2
    unfold r_num at num_143
    have bt_143 := Q_143.1.1.2.1
    have bn_143 := Q_143.1.1.2.2.2.1
    have bc_143 := Q_143.1.1.2.2.2.2.2.1
    have ba_143 := Q_143.1.1.2.2.2.2.2.2.2
    have qn_143 := q_143.2.2
    unfold r_num at qn_143
    have Gm73_143 := Gm73_140.trans q_143.2.1 (by omega) (by omega) (by omega)
    have y35_143 : k9 < ac → R_143 35 k9 = r 35 k9 := fun h0 => (q_143.2.1.2.2.2 35 k9 (by decide) (by decide) (by omega)).trans (y35_140 h0)
    have y30_143 : k9 < ac → R_143 30 k9 = r_73 := fun h0 => (q_143.2.1.2.2.2 30 k9 (by decide) (by decide) (by omega)).trans (y30_140 h0)
    have y28_143 : k9 < ac → R_143 28 k9 = 5 := fun h0 => (q_143.2.1.2.2.2 28 k9 (by decide) (by decide) (by omega)).trans (y28_140 h0)
    rw [rO_rO] at hW
    have hW : q_W E (rO E f M R_143) n H := hW
    refine lv_aload_n hx hb dX14_plain_146 rfl (lv_at hl 0 rfl) ?_
    refine q_get hx hb hts hown hA hW iX14 rO_0 rfl 18 (by decide) (hts (.fieldLink RX14 42 "HighRecipesModel" "fresh" "LHighRecipesModel$Book;") (by decide +kernel)) (fun _ h9 => h9) (v := .ref (M + 25)) rfl dX14_plain_147 ?_
    refine q_getN hx hb hts hown hA hW iX13 rO_25 rfl 6 (by decide) (va_Nw.use rfl (hA.2.2.2.1 ("HighRecipesModel", 250, "HighRecipesModel$Book", "whom", "[I", "HighRecipesModel") (by decide +kernel))) (fun _ h9 => h9) (v := .ref (M + 29)) rfl dX14_plain_150 ?_
    refine lv_iload_n hx hb dX14_plain_153 rfl (lv_at hl 1 rfl) ?_
    refine lv_aload_n hx hb dX14_plain_154 rfl (lv_at hl 0 rfl) ?_
    refine q_ci (va_runV (As := []) (rest := [.int (nI k9), .ref (M + 29)]) ⟨hx, hb, hml, hown, hts⟩ (kX14_pan l E (rO E f M R_143) n M R_143 K Wd T (p_take K 6 (p_step K true (p_val K Wd pN pn 4 u))) tk_143 nd_143 cc_143 ac_143 pN pn rO_K T_143 hT hKT hK41 Q_143.1 ok_143 (hnm.mv (Q_143.2.1.1 6 (by decide) (by decide) (by decide))) hpn ((congrFun (q_143.2.1.1 130 (by decide) (by decide) (by decide)) 0).trans (show R_140 130 0 = nI pn from by rw [hR_140]; exact (show R_77 130 0 = nI pn from by rw [hR_77]; exact ((congrFun (q_73.2.1.1 130 (by decide) (by decide) (by decide)) 0).trans hpn9))))) (cwV 0 hts gX14_plain_X14_pan rfl rfl rfl (by decide +kernel) ⟨(Nat.le_of_ble_eq_true rfl), (Nat.le_of_ble_eq_true rfl)⟩) (q_pV hA hW hS (ci := 12) rfl rO_0) rfl rfl hl.1 rfl (lv_room (Nat.le_of_ble_eq_true rfl)) dX14_plain_155 ⟨Nat.le_of_ble_eq_true rfl, Nat.le_of_ble_eq_true rfl⟩) hS (fun r_155 f_155 n_155 H locs hp hW hS => ?_)
    obtain ⟨R_155, tk_155, nd_155, cc_155, ac_155, q_155, e7_155, e8_155, ec_155, ex_155, rfl, rfl⟩ := hp
    have G_155 : p_go K T (p_take K 6 (p_step K true (p_val K Wd pN pn 4 u))) (p_known K Wd pN pn (p_take K 6 (p_step K true (p_val K Wd pN pn 4 u)))) := (go_known hKT)
    have GG_155 := G_155 ok_143
    have ok_155 := GG_155.1
    have le_155 := GG_155.2.2.2.1
    have er_155 := GG_155.2.2.2.2
    have Q_155 := Q_143.trans q_155
    have T_155 := Q_155.tok hTK
    have num_155 := Q_155.2.2
    unfold r_num at num_155
    have bt_155 := Q_155.1.1.2.1
    have bn_155 := Q_155.1.1.2.2.2.1
    have bc_155 := Q_155.1.1.2.2.2.2.2.1
    have ba_155 := Q_155.1.1.2.2.2.2.2.2.2
    have qn_155 := q_155.2.2
    unfold r_num at qn_155
    have Gm73_155 := Gm73_143.trans q_155.2.1 (by omega) (by omega) (by omega)
    have y35_155 : k9 < ac → R_155 35 k9 = r 35 k9 := fun h0 => (q_155.2.1.2.2.2 35 k9 (by decide) (by decide) (by omega)).trans (y35_143 h0)
    have y30_155 : k9 < ac → R_155 30 k9 = r_73 := fun h0 => (q_155.2.1.2.2.2 30 k9 (by decide) (by decide) (by omega)).trans (y30_143 h0)
    have y28_155 : k9 < ac → R_155 28 k9 = 5 := fun h0 => (q_155.2.1.2.2.2 28 k9 (by decide) (by decide) (by omega)).trans (y28_143 h0)
    rw [rO_rO] at hW
    have hW : q_W E (rO E f M R_155) n H := hW
    refine q_ast hx hb hA hW hS (rO_29 (g := R_155 29) rfl) k9 rfl (by omega) (by decide) dX14_plain_158 (fun H locs hW hS => ?_)
    have hW := q_sa 29 hW rfl rfl
    refine lv_goto (tgt := 261) hx hb dX14_plain_159 (by decide) ?_
    obtain ⟨R_261, hR_261⟩ : ∃ z, z = rp R_155 29 (upd (R_155 29) k9 r_155) := ⟨_, rfl⟩
    rw [← hR_261] at hW
    have Q_261 : r_Q r R_261 K T (p_known K Wd pN pn (p_take K 6 (p_step K true (p_val K Wd pN pn 4 u)))) tk nd cc k9 tk_155 nd_155 cc_155 ac_155 := by rw [hR_261]; exact (Q_155.st (by decide) (by omega))
    have T_261 := Q_261.tok hTK
    have num_261 := Q_261.2.2
    unfold r_num at num_261
    have bt_261 := Q_261.1.1.2.1
    have bn_261 := Q_261.1.1.2.2.2.1
    have bc_261 := Q_261.1.1.2.2.2.2.2.1
    have ba_261 := Q_261.1.1.2.2.2.2.2.2.2
    have Gm73_261 : r_G R_73 R_261 nd_73 cc_73 k9 := by rw [hR_261]; exact (r_G.upA Gm73_155 (by omega))
    have y35_261 : k9 < ac → R_261 35 k9 = r 35 k9 := fun h0 => by rw [hR_261]; exact y35_155 h0
    have y30_261 : k9 < ac → R_261 30 k9 = r_73 := fun h0 => by rw [hR_261]; exact y30_155 h0
    have y28_261 : k9 < ac → R_261 28 k9 = 5 := fun h0 => by rw [hR_261]; exact y28_155 h0
    have y29_261 : k9 < ac → R_261 29 k9 = r_155 := fun _ => by rw [hR_261]; exact st_row (r := R_155) (j := 29) (q0 := k9) (x := r_155)
    refine lv_aload_n hx hb dX14_plain_261 rfl (lv_at hl 0 rfl) ?_
    refine lv_bipush (v := 52) hx hb dX14_plain_262 (by decide) ?_
    refine q_cv (va_runV (As := [.int 52]) (rest := []) ⟨hx, hb, hml, hown, hts⟩ (kX14_take l E (rO E f M R_261) n M R_261 K Wd T (p_known K Wd pN pn (p_take K 6 (p_step K true (p_val K Wd pN pn 4 u)))) tk_155 nd_155 cc_155 ac_155 29 52 rO_K T_261 hT hKT hK41 Q_261.1 ok_155 rfl (by decide)) (cwV 1 hts gX14_plain_X14_take rfl rfl rfl (by decide +kernel) ⟨(Nat.le_of_ble_eq_true rfl), (Nat.le_of_ble_eq_true rfl)⟩) (q_pV hA hW hS (ci := 12) rfl rO_0) rfl rfl hl.1 rfl (lv_room (Nat.le_of_ble_eq_true rfl)) dX14_plain_264 ⟨Nat.le_of_ble_eq_true rfl, Nat.le_of_ble_eq_true rfl⟩) hS (fun f_264 n_264 H locs hp hW hS => ?_)
    obtain ⟨R_264, tk_264, nd_264, cc_264, ac_264, q_264, e7_264, e8_264, ec_264, ex_264, rfl, rfl⟩ := hp
    have G_264 : p_go K T (p_known K Wd pN pn (p_take K 6 (p_step K true (p_val K Wd pN pn 4 u)))) (p_take K 29 (p_known K Wd pN pn (p_take K 6 (p_step K true (p_val K Wd pN pn 4 u))))) := (go_take hKT (by decide))
    have GG_264 := G_264 ok_155
    have ok_264 := GG_264.1
    have le_264 := GG_264.2.2.2.1
    have er_264 := GG_264.2.2.2.2
    have Q_264 := Q_261.trans q_264
    have T_264 := Q_264.tok hTK
    have num_264 := Q_264.2.2
    unfold r_num at num_264
    have bt_264 := Q_264.1.1.2.1
    have bn_264 := Q_264.1.1.2.2.2.1
    have bc_264 := Q_264.1.1.2.2.2.2.2.1
    have ba_264 := Q_264.1.1.2.2.2.2.2.2.2
    have qn_264 := q_264.2.2
    unfold r_num at qn_264
    have Gm73_264 := Gm73_261.trans q_264.2.1 (by omega) (by omega) (by omega)
    have y35_264 : k9 < ac → R_264 35 k9 = r 35 k9 := fun h0 => (q_264.2.1.2.2.2 35 k9 (by decide) (by decide) (by omega)).trans (y35_261 h0)
    have y30_264 : k9 < ac → R_264 30 k9 = r_73 := fun h0 => (q_264.2.1.2.2.2 30 k9 (by decide) (by decide) (by omega)).trans (y30_261 h0)
    have y28_264 : k9 < ac → R_264 28 k9 = 5 := fun h0 => (q_264.2.1.2.2.2 28 k9 (by decide) (by decide) (by omega)).trans (y28_261 h0)
    have y29_264 : k9 < ac → R_264 29 k9 = r_155 := fun h0 => (q_264.2.1.2.2.2 29 k9 (by decide) (by decide) (by omega)).trans (y29_261 h0)
    rw [rO_rO] at hW
    have hW : q_W E (rO E f M R_264) n H := hW
    exact q_vret hx hb hr hlocks hW hS ⟨_, _, _, _, _, (by unfold p_what; rw [e140]; exact Q_264), (e7_264.trans (show R_261 107 0 = r 107 0 from by rw [hR_261]; exact (e7_155.trans (e7_143.trans (show R_140 107 0 = r 107 0 from by rw [hR_140]; exact (show R_77 107 0 = r 107 0 from by rw [hR_77]; exact (e7_73.trans rfl))))))), (fun h1 => by unfold p_what at h1; rw [e140] at h1; exact (fun z => e8_264.trans ((fun z => (show R_261 108 0 = r 108 0 from by rw [hR_261]; exact (fun z => e8_155.trans ((fun z => e8_143.trans ((fun z => (show R_140 108 0 = r 108 0 from by rw [hR_140]; exact (fun z => (show R_77 108 0 = r 108 0 from by rw [hR_77]; exact (fun z => (e8_73 z).trans rfl) z)) (le_140 z))) (le_143 z))) (le_155 z))) z)) (le_264 z))) h1), ⟨(ec_264.1.trans (ec_155.1.trans (ec_143.1.trans (ec_73.1.trans rfl)))), (ec_264.2.trans (ec_155.2.trans (ec_143.2.trans (ec_73.2.trans rfl))))⟩, ⟨(fun h0 => (y35_264 h0)), (fun h0 h1 h2 => by unfold p_what at h1 h2 ⊢; rw [e140] at h1 h2 ⊢; have k1 := le_264 h1; have o1 := er_264 h2; obtain ⟨j, j1, j2, j3⟩ := ex_155 k1 o1; obtain ⟨a, i, m⟩ := ex_73 (le_140 (le_143 (le_155 k1))) (er_140 (er_143 (er_155 o1))); exact ⟨j, a, j1, j2, ((y29_264 h0)).trans j3, ((y30_264 h0)).trans i, mV_G m Gm73_264 (by omega), ((y28_264 h0)).trans (if_pos e5).symm⟩)⟩, rfl, rfl⟩ (Nat.le_of_ble_eq_true rfl) (Nat.le_of_ble_eq_true rfl) dX14_plain_267
