/-! a token of the reference -/
theorem kX14_symbolX (l : Launch) (E : q_E) (f : q_H) (n : Nat) (x : Int32)  (hxz : ∃ z, z < 256 ∧ x = nI z) : Met l yX14_symbol wsX14_symbol ({ frames := 0, cells := 0, slots := 0, locals := 0 }) (q_P E [.int x] f n) (q_Qi E (fun r f1 n1 => nI (m_kd (k_sign x)) = r ∧ f = f1 ∧ n = n1)) 0 0 (q_ge E) := by
  obtain ⟨z, hz, rfl⟩ := hxz
  exact kX14_symbol l E f n z hz

theorem goes_let {c x : Int32} (hc : b_let c = true) (hd : b_dig c = false) : b_goes c x = b_let x := by
  unfold b_goes
  rw [hc, hd]
  cases b_let x <;> cases b_dig x <;> rfl
theorem goes_dig {c x : Int32} (hc : b_let c = false) (hd : b_dig c = true) : b_goes c x = b_dig x := by
  unfold b_goes
  rw [hc, hd]
  cases b_let x <;> cases b_dig x <;> rfl
theorem goes_no {c x : Int32} (hc : b_let c = false) (hd : b_dig c = false) : ¬ b_goes c x = true := by
  unfold b_goes
  rw [hc, hd]
  cases b_let x <;> cases b_dig x <;> decide
theorem dig_num : ∀ z, z < 256 → b_dig (nI z) = true → ((nI z - 48).toInt64).toInt32 = nI z - 48 := by decide +kernel
theorem num_step {w : Int64} {c y : Int32} (hd : b_dig c = true) (hc : ((c - 48).toInt64).toInt32 = c - 48) (hy : y = w.toInt32) : 10 * y + c - 48 = (t_w1 w c).toInt32 := by
  unfold t_w1
  rw [if_pos hd, Int64.toInt32_add, Int64.toInt32_mul, hc, hy, show (10 : Int64).toInt32 = 10 from rfl, Int32.mul_comm 10, Int32.sub_eq_add_neg, Int32.sub_eq_add_neg, Int32.add_assoc]
theorem num_first {g : Nat → Int32} {L ps : Nat} (hd : b_dig (t_at g L ps) = true) (hc : ((t_at g L ps - 48).toInt64).toInt32 = t_at g L ps - 48) : t_at g L ps - 48 = (t_wor g L ps (ps + 1)).toInt32 := by
  rw [wor_snoc (Nat.le_refl ps)]
  have z : t_wor g L ps ps = 0 := by unfold t_wor; rw [Nat.sub_self]; rfl
  rw [z]
  unfold t_w1
  rw [if_pos hd, Int64.toInt32_add, Int64.toInt32_mul, hc]
  show t_at g L ps - 48 = 0 * 10 + (t_at g L ps - 48)
  simp

set_option maxHeartbeats 4000000 in
set_option maxRecDepth 100000 in
theorem kX14_read (l : Launch) (E : q_E) (f : q_H) (n : Nat) (M : Nat) (r : q_R) (g : Nat → Int32) (L : Nat) (ps i : Nat)  (hm : RM E f M r) (htp : r_tp r g L) (hps : ps < L) (hi : i ≤ 400) : Met l yX14_read wsX14_read ({ frames := 6, cells := 0, slots := 0, locals := 132 }) (q_P E [.ref M, .int (nI ps), .int (nI i)] f n) (q_Qi E (fun r0 f1 n1 => nI (t_end g L ps) = r0 ∧ ∃ (r1 : q_R), r1 4 = upd (r 4) i (nI ps) ∧ r1 2 = upd (r 2) i (nI (m_kd (t_kind (t_at g L ps) (t_end g L ps - ps) (t_wor g L ps (t_end g L ps))))) ∧ r1 5 = upd (r 5) i (nI (t_end g L ps - ps)) ∧ (∀ q, q ≠ i → r1 3 q = r 3 q) ∧ ((t_kind (t_at g L ps) (t_end g L ps - ps) (t_wor g L ps (t_end g L ps))) = 38 → r1 3 i = (t_wor g L ps (t_end g L ps)).toInt32) ∧ (∀ j, (j < 2 ∨ 5 < j) → r1 j = r j) ∧ rO E f M r1 = f1 ∧ n = n1)) 0 0 (q_ge E) := by
  refine Met.ofW (cc := cX14_read) (maxL := 6) (ret := (some .int)) (by decide) rfl ?_
  intro p e s m args below meth c s₁ B hml hv
  obtain ⟨rfl, hA, hW⟩ := hv
  have hx := B.exec
  have hb := B.bytes
  have hr := B.returns
  have hts := atoms_spec (ws := wsX14_read) B.pre
  have hown : s.vm.findClass RX14 = some m.cls := findClass_of_methodNamed B.named
  have hlocks := B.notSynchronized
  have hS : va_S (q_ge E) s.heap s.heap [] := va_S.rf
  have iX14 : ∀ w ∈ wsX140, w ∈ wsX14_read := by decide +kernel
  have hl := lv_entry ([.ref M, .int (nI ps), .int (nI i)]) (n := 6) (Nat.le_of_ble_eq_true rfl)
  rw [lg_entry_eq]
  generalize (lg_sl ([.ref M, .int (nI ps), .int (nI i)]) ++ List.replicate (6 - (lg_sl ([.ref M, .int (nI ps), .int (nI i)])).length) Slot.unset).toArray = ls at hl ⊢
  have hl : lv_has ls 6 [(0, .ref M), (1, .int (nI ps)), (2, .int (nI i))] := hl
  have hmE := hm.eq
  rw [hm.eq] at hW
  have hL := htp.2.1
  refine lv_aload_n hx hb dX14_read_0 rfl (lv_at hl 0 rfl) ?_
  refine q_get hx hb hts hown hA hW iX14 rO_0 rfl 1 (by decide) (hts (.fieldLink RX14 9 "HighRecipesModel" "tape" "[I") (by decide +kernel)) (fun _ h9 => h9) (v := .ref (M + 1)) rfl dX14_read_1 ?_
  refine lv_iload_n hx hb dX14_read_4 rfl (lv_at hl 1 rfl) ?_
  refine q_ald hx hb hA hW (rO_1 (g := r 1) rfl) ps rfl (by omega) (by decide) (x := t_at g L ps) (htp.2.2 ps hps) dX14_read_5 ?_
  refine lv_istore_n (lv' := [(3, .int (t_at g L ps)), (0, .ref M), (1, .int (nI ps)), (2, .int (nI i))]) hx hb dX14_read_6 rfl hl (by decide) rfl (fun ls hl => ?_)
  refine lv_iload_n hx hb dX14_read_7 rfl (lv_at hl 2 rfl) ?_
  refine lv_iconst (v := 1) hx hb dX14_read_8 (by decide) ?_
  refine lv_iadd hx hb dX14_read_9 ?_
  rw [nI_1]
  refine lv_istore (lv' := [(4, .int (nI (ps + 1))), (3, .int (t_at g L ps)), (0, .ref M), (1, .int (nI ps)), (2, .int (nI i))]) hx hb dX14_read_10 hl (by decide) rfl (fun ls hl => ?_)
  refine lv_aload_n hx hb dX14_read_12 rfl (lv_at hl 2 rfl) ?_
  refine q_get hx hb hts hown hA hW iX14 rO_0 rfl 6 (by decide) (hts (.fieldLink RX14 23 "HighRecipesModel" "position" "[I") (by decide +kernel)) (fun _ h9 => h9) (v := .ref (M + 4)) rfl dX14_read_13 ?_
  refine lv_iload_n hx hb dX14_read_16 rfl (lv_at hl 4 rfl) ?_
  refine lv_iload_n hx hb dX14_read_17 rfl (lv_at hl 3 rfl) ?_
  refine q_ast hx hb hA hW hS (rO_4 (g := r 4) rfl) i rfl (by omega) (by decide) dX14_read_18 (fun H locs hW hS => ?_)
  have hW := q_sa 4 hW rfl rfl
  refine lv_iload_n hx hb dX14_read_19 rfl (lv_at hl 1 rfl) ?_
  refine q_ci (va_runS (As := [.int (t_at g L ps)]) (rest := []) ⟨hx, hb, hml, hown, hts⟩ (kX14_isLetter l E (rO E f M (rp r 4 (upd (r 4) i (nI ps)))) n (t_at g L ps)) (va_cwS 1 hts gX14_read_X14_isLetter rfl rfl rfl (by decide +kernel) ⟨(Nat.le_of_ble_eq_true rfl), (Nat.le_of_ble_eq_true rfl)⟩) (q_pS hA hW hS) rfl rfl hl.1 rfl (lv_room (Nat.le_of_ble_eq_true rfl)) dX14_read_20 ⟨Nat.le_of_ble_eq_true rfl, Nat.le_of_ble_eq_true rfl⟩) hS (fun r_20 f_20 n_20 H locs hp hW hS => ?_)
  obtain ⟨rfl, rfl, rfl⟩ := hp
  have hW : q_W E (rO E f M (rp r 4 (upd (r 4) i (nI ps)))) n H := hW
  refine lv_if_eq (tgt := 62) hx hb dX14_read_23 (by decide) (fun c_23 => ?_) (fun c_23 => ?_)
  · have hnl : b_let (t_at g L ps) = false := b01_0 c_23
    refine lv_iload_n hx hb dX14_read_62 rfl (lv_at hl 1 rfl) ?_
    refine q_ci (va_runS (As := [.int (t_at g L ps)]) (rest := []) ⟨hx, hb, hml, hown, hts⟩ (kX14_isDigit l E (rO E f M (rp r 4 (upd (r 4) i (nI ps)))) n (t_at g L ps)) (va_cwS 1 hts gX14_read_X14_isDigit rfl rfl rfl (by decide +kernel) ⟨(Nat.le_of_ble_eq_true rfl), (Nat.le_of_ble_eq_true rfl)⟩) (q_pS hA hW hS) rfl rfl hl.1 rfl (lv_room (Nat.le_of_ble_eq_true rfl)) dX14_read_63 ⟨Nat.le_of_ble_eq_true rfl, Nat.le_of_ble_eq_true rfl⟩) hS (fun r_63 f_63 n_63 H locs hp hW hS => ?_)
    obtain ⟨rfl, rfl, rfl⟩ := hp
    have hW : q_W E (rO E f M (rp r 4 (upd (r 4) i (nI ps)))) n H := hW
    refine lv_if_eq (tgt := 155) hx hb dX14_read_66 (by decide) (fun c_66 => ?_) (fun c_66 => ?_)
    · have hnd : b_dig (t_at g L ps) = false := b01_0 c_66
      have hE : t_end g L ps = ps + 1 := end_stop (goes_no hnl hnd)
      refine lv_aload_n hx hb dX14_read_155 rfl (lv_at hl 2 rfl) ?_
      refine q_get hx hb hts hown hA hW iX14 rO_0 rfl 4 (by decide) (hts (.fieldLink RX14 17 "HighRecipesModel" "kind" "[I") (by decide +kernel)) (fun _ h9 => h9) (v := .ref (M + 2)) rfl dX14_read_156 ?_
      refine lv_iload_n hx hb dX14_read_159 rfl (lv_at hl 4 rfl) ?_
      refine lv_iload_n hx hb dX14_read_160 rfl (lv_at hl 1 rfl) ?_
      refine q_ci (va_runS (As := [.int (t_at g L ps)]) (rest := [.int (nI i), .ref (M + 2)]) ⟨hx, hb, hml, hown, hts⟩ (kX14_symbolX l E (rO E f M (rp r 4 (upd (r 4) i (nI ps)))) n (t_at g L ps) (at_byte hps)) (va_cwS 1 hts gX14_read_X14_symbol rfl rfl rfl (by decide +kernel) ⟨(Nat.le_of_ble_eq_true rfl), (Nat.le_of_ble_eq_true rfl)⟩) (q_pS hA hW hS) rfl rfl hl.1 rfl (lv_room (Nat.le_of_ble_eq_true rfl)) dX14_read_161 ⟨Nat.le_of_ble_eq_true rfl, Nat.le_of_ble_eq_true rfl⟩) hS (fun r_161 f_161 n_161 H locs hp hW hS => ?_)
      obtain ⟨rfl, rfl, rfl⟩ := hp
      have hW : q_W E (rO E f M (rp r 4 (upd (r 4) i (nI ps)))) n H := hW
      refine q_ast hx hb hA hW hS (rO_2 (g := r 2) rfl) i rfl (by omega) (by decide) dX14_read_164 (fun H locs hW hS => ?_)
      have hW := q_sa 2 hW rfl rfl
      refine lv_aload_n hx hb dX14_read_165 rfl (lv_at hl 2 rfl) ?_
      refine q_get hx hb hts hown hA hW iX14 rO_0 rfl 7 (by decide) (hts (.fieldLink RX14 26 "HighRecipesModel" "length" "[I") (by decide +kernel)) (fun _ h9 => h9) (v := .ref (M + 5)) rfl dX14_read_166 ?_
      refine lv_iload_n hx hb dX14_read_169 rfl (lv_at hl 4 rfl) ?_
      refine lv_iload hx hb dX14_read_170 (lv_at hl 0 rfl) ?_
      refine lv_iload_n hx hb dX14_read_172 rfl (lv_at hl 3 rfl) ?_
      refine lv_isub hx hb dX14_read_173 ?_
      rw [pk_sub (by omega)]
      refine q_ast hx hb hA hW hS (rO_5 (g := r 5) rfl) i rfl (by omega) (by decide) dX14_read_174 (fun H locs hW hS => ?_)
      have hW := q_sa 5 hW rfl rfl
      refine lv_iload hx hb dX14_read_175 (lv_at hl 0 rfl) ?_
      exact q_iret hx hb hr hlocks hW hS ⟨by rw [hE], (rp (rp (rp r 4 (upd (r 4) i (nI ps))) 2 (upd (r 2) i (nI (m_kd (k_sign (t_at g L ps)))))) 5 (upd (r 5) i (nI (ps + 1 - ps)))), rfl, (by show upd (r 2) i (nI (m_kd (k_sign (t_at g L ps)))) = _; unfold t_kind; rw [if_neg (by rw [hnl]; decide), if_neg (by rw [hnd]; decide)]), (by rw [hE]; rfl), (fun _ _ => rfl), (fun h9 => by unfold t_kind at h9; rw [if_neg (by rw [hnl]; decide), if_neg (by rw [hnd]; decide)] at h9; obtain ⟨z, hz, e⟩ := at_byte (g := g) hps; rcases k_sign_ne (w := t_at g L ps) (by rw [e]; exact nI_m1 (by omega)) with z | z <;> omega), (fun j hj => (rp_n (by omega)).trans ((rp_n (by omega)).trans ((rp_n (by omega)).trans (rfl)))), rfl, rfl⟩ (Nat.le_of_ble_eq_true rfl) (Nat.le_of_ble_eq_true rfl) dX14_read_177
    · have hdg : b_dig (t_at g L ps) = true := b01_1 c_66
      have hcg : ((t_at g L ps - 48).toInt64).toInt32 = t_at g L ps - 48 := by obtain ⟨z, hz, e⟩ := at_byte (g := g) hps; rw [e] at hdg ⊢; exact dig_num z hz hdg
      refine lv_iload_n hx hb dX14_read_69 rfl (lv_at hl 1 rfl) ?_
      refine lv_bipush (v := 48) hx hb dX14_read_70 (by decide) ?_
      refine lv_isub hx hb dX14_read_72 ?_
      refine lv_istore (lv' := [(5, .int ((t_at g L ps) - 48)), (4, .int (nI (ps + 1))), (3, .int (t_at g L ps)), (0, .ref M), (1, .int (nI ps)), (2, .int (nI i))]) hx hb dX14_read_73 hl (by decide) rfl (fun ls hl => ?_)
      have K75 : ∀ (fu : Nat) (e9 : Nat) (y9 : Int32) (he1 : ps + 1 ≤ e9) (he2 : e9 ≤ L) (hend : t_end g L ps = t_endF g L (t_at g L ps) (L - e9) e9) (hnum : e9 - ps ≤ 3 → y9 = (t_wor g L ps e9).toInt32) (hm : L - e9 < fu) (H : Heap) (locs : List Loc) (ls : Array Slot), q_W E (rO E f M (rp r 4 (upd (r 4) i (nI ps)))) n H → va_S (q_ge E) s.heap H locs → lv_has ls 6 [(0, .ref M), (1, .int (nI ps)), (2, .int (nI i)), (3, .int (t_at g L ps)), (4, .int (nI e9)), (5, .int y9)] → W p l e (headSpec wsX14_read ({ frames := 6, cells := 0, slots := 0, locals := 132 })).room s m ([.ref M, .int (nI ps), .int (nI i)] : List Value).toArray below meth c H locs 0 0 (MQ below (q_Qi E (fun r0 f1 n1 => nI (t_end g L ps) = r0 ∧ ∃ (r1 : q_R), r1 4 = upd (r 4) i (nI ps) ∧ r1 2 = upd (r 2) i (nI (m_kd (t_kind (t_at g L ps) (t_end g L ps - ps) (t_wor g L ps (t_end g L ps))))) ∧ r1 5 = upd (r 5) i (nI (t_end g L ps - ps)) ∧ (∀ q, q ≠ i → r1 3 q = r 3 q) ∧ ((t_kind (t_at g L ps) (t_end g L ps - ps) (t_wor g L ps (t_end g L ps))) = 38 → r1 3 i = (t_wor g L ps (t_end g L ps)).toInt32) ∧ (∀ j, (j < 2 ∨ 5 < j) → r1 j = r j) ∧ rO E f M r1 = f1 ∧ n = n1)) ([.ref M, .int (nI ps), .int (nI i)] : List Value).toArray s 0 0 (q_ge E)) (F0 m 75 ls []) := by
        intro fu
        induction fu with
        | zero =>
          intro e9 y9 he1 he2 hend hnum hm
          exact absurd hm (Nat.not_lt_zero _)
        | succ fu ih =>
          intro e9 y9 he1 he2 hend hnum hm H locs ls hW hS hl
          refine lv_aload_n hx hb dX14_read_75 rfl (lv_at hl 0 rfl) ?_
          refine lv_iload hx hb dX14_read_76 (lv_at hl 4 rfl) ?_
          refine q_ci (va_runV (As := [.int (nI e9)]) (rest := []) ⟨hx, hb, hml, hown, hts⟩ (kX14_byteAt l E (rO E f M (rp r 4 (upd (r 4) i (nI ps)))) n M (rp r 4 (upd (r 4) i (nI ps))) g L e9 rO_K htp (by omega)) (cwV 1 hts gX14_read_X14_byteAt rfl rfl rfl (by decide +kernel) ⟨(Nat.le_of_ble_eq_true rfl), (Nat.le_of_ble_eq_true rfl)⟩) (q_pV hA hW hS (ci := 12) rfl rO_0) rfl rfl hl.1 rfl (lv_room (Nat.le_of_ble_eq_true rfl)) dX14_read_78 ⟨Nat.le_of_ble_eq_true rfl, Nat.le_of_ble_eq_true rfl⟩) hS (fun r_78 f_78 n_78 H locs hp hW hS => ?_)
          obtain ⟨rfl, rfl, rfl⟩ := hp
          have hW : q_W E (rO E f M (rp r 4 (upd (r 4) i (nI ps)))) n H := hW
          refine q_ci (va_runS (As := [.int (t_at g L e9)]) (rest := []) ⟨hx, hb, hml, hown, hts⟩ (kX14_isDigit l E (rO E f M (rp r 4 (upd (r 4) i (nI ps)))) n (t_at g L e9)) (va_cwS 1 hts gX14_read_X14_isDigit rfl rfl rfl (by decide +kernel) ⟨(Nat.le_of_ble_eq_true rfl), (Nat.le_of_ble_eq_true rfl)⟩) (q_pS hA hW hS) rfl rfl hl.1 rfl (lv_room (Nat.le_of_ble_eq_true rfl)) dX14_read_81 ⟨Nat.le_of_ble_eq_true rfl, Nat.le_of_ble_eq_true rfl⟩) hS (fun r_81 f_81 n_81 H locs hp hW hS => ?_)
          obtain ⟨rfl, rfl, rfl⟩ := hp
          have hW : q_W E (rO E f M (rp r 4 (upd (r 4) i (nI ps)))) n H := hW
          refine lv_if_eq (tgt := 123) hx hb dX14_read_84 (by decide) (fun c_84 => ?_) (fun c_84 => ?_)
          · have hxd : b_dig (t_at g L e9) = false := b01_0 c_84
            have hE : t_end g L ps = e9 := hend.trans (end_stop (by rw [goes_dig hnl hdg, hxd]; decide))
            refine lv_aload_n hx hb dX14_read_123 rfl (lv_at hl 0 rfl) ?_
            refine q_get hx hb hts hown hA hW iX14 rO_0 rfl 5 (by decide) (hts (.fieldLink RX14 20 "HighRecipesModel" "number" "[I") (by decide +kernel)) (fun _ h9 => h9) (v := .ref (M + 3)) rfl dX14_read_124 ?_
            refine lv_iload_n hx hb dX14_read_127 rfl (lv_at hl 2 rfl) ?_
            refine lv_iload hx hb dX14_read_128 (lv_at hl 5 rfl) ?_
            refine q_ast hx hb hA hW hS (rO_3 (g := r 3) rfl) i rfl (by omega) (by decide) dX14_read_130 (fun H locs hW hS => ?_)
            have hW := q_sa 3 hW rfl rfl
            refine lv_aload_n hx hb dX14_read_131 rfl (lv_at hl 0 rfl) ?_
            refine q_get hx hb hts hown hA hW iX14 rO_0 rfl 4 (by decide) (hts (.fieldLink RX14 17 "HighRecipesModel" "kind" "[I") (by decide +kernel)) (fun _ h9 => h9) (v := .ref (M + 2)) rfl dX14_read_132 ?_
            refine lv_iload_n hx hb dX14_read_135 rfl (lv_at hl 2 rfl) ?_
            refine lv_iload hx hb dX14_read_136 (lv_at hl 4 rfl) ?_
            refine lv_iload_n hx hb dX14_read_138 rfl (lv_at hl 1 rfl) ?_
            refine lv_isub hx hb dX14_read_139 ?_
            rw [pk_sub (by omega)]
            refine lv_iconst (v := 3) hx hb dX14_read_140 (by decide) ?_
            refine lv_icmp_le (tgt := 149) hx hb dX14_read_141 (by decide) (fun c_141 => ?_) (fun c_141 => ?_)
            · have h3 : e9 - ps ≤ 3 := (nI_leI (by omega) (by decide)).1 (show nI (e9 - ps) ≤ nI 3 from c_141)
              refine lv_bipush (v := 41) hx hb dX14_read_149 (by decide) ?_
              refine q_ast hx hb hA hW hS (rO_2 (g := r 2) rfl) i rfl (by omega) (by decide) dX14_read_151 (fun H locs hW hS => ?_)
              have hW := q_sa 2 hW rfl rfl
              refine lv_goto (tgt := 165) hx hb dX14_read_152 (by decide) ?_
              refine lv_aload_n hx hb dX14_read_165 rfl (lv_at hl 0 rfl) ?_
              refine q_get hx hb hts hown hA hW iX14 rO_0 rfl 7 (by decide) (hts (.fieldLink RX14 26 "HighRecipesModel" "length" "[I") (by decide +kernel)) (fun _ h9 => h9) (v := .ref (M + 5)) rfl dX14_read_166 ?_
              refine lv_iload_n hx hb dX14_read_169 rfl (lv_at hl 2 rfl) ?_
              refine lv_iload hx hb dX14_read_170 (lv_at hl 4 rfl) ?_
              refine lv_iload_n hx hb dX14_read_172 rfl (lv_at hl 1 rfl) ?_
              refine lv_isub hx hb dX14_read_173 ?_
              rw [pk_sub (by omega)]
              refine q_ast hx hb hA hW hS (rO_5 (g := r 5) rfl) i rfl (by omega) (by decide) dX14_read_174 (fun H locs hW hS => ?_)
              have hW := q_sa 5 hW rfl rfl
              refine lv_iload hx hb dX14_read_175 (lv_at hl 4 rfl) ?_
              exact q_iret hx hb hr hlocks hW hS ⟨by rw [hE], (rp (rp (rp (rp r 4 (upd (r 4) i (nI ps))) 3 (upd (r 3) i y9)) 2 (upd (r 2) i 41)) 5 (upd (r 5) i (nI (e9 - ps)))), rfl, (by rw [hE]; show upd (r 2) i 41 = _; unfold t_kind; rw [if_neg (by rw [hnl]; decide), if_pos hdg, if_pos h3]; rfl), (by rw [hE]; rfl), (fun q hq => z_un hq), (fun h9 => by rw [hE] at h9 ⊢; exact z_us.trans (hnum h3)), (fun j hj => (rp_n (by omega)).trans ((rp_n (by omega)).trans ((rp_n (by omega)).trans ((rp_n (by omega)).trans (rfl))))), rfl, rfl⟩ (Nat.le_of_ble_eq_true rfl) (Nat.le_of_ble_eq_true rfl) dX14_read_177
            · have h3 : ¬ e9 - ps ≤ 3 := fun h9 => c_141 ((nI_leI (by omega) (by decide)).2 h9)
              refine lv_bipush (v := 70) hx hb dX14_read_144 (by decide) ?_
              refine lv_goto (tgt := 151) hx hb dX14_read_146 (by decide) ?_
              refine q_ast hx hb hA hW hS (rO_2 (g := r 2) rfl) i rfl (by omega) (by decide) dX14_read_151 (fun H locs hW hS => ?_)
              have hW := q_sa 2 hW rfl rfl
              refine lv_goto (tgt := 165) hx hb dX14_read_152 (by decide) ?_
              refine lv_aload_n hx hb dX14_read_165 rfl (lv_at hl 0 rfl) ?_
              refine q_get hx hb hts hown hA hW iX14 rO_0 rfl 7 (by decide) (hts (.fieldLink RX14 26 "HighRecipesModel" "length" "[I") (by decide +kernel)) (fun _ h9 => h9) (v := .ref (M + 5)) rfl dX14_read_166 ?_
              refine lv_iload_n hx hb dX14_read_169 rfl (lv_at hl 2 rfl) ?_
              refine lv_iload hx hb dX14_read_170 (lv_at hl 4 rfl) ?_
              refine lv_iload_n hx hb dX14_read_172 rfl (lv_at hl 1 rfl) ?_
              refine lv_isub hx hb dX14_read_173 ?_
              rw [pk_sub (by omega)]
              refine q_ast hx hb hA hW hS (rO_5 (g := r 5) rfl) i rfl (by omega) (by decide) dX14_read_174 (fun H locs hW hS => ?_)
              have hW := q_sa 5 hW rfl rfl
              refine lv_iload hx hb dX14_read_175 (lv_at hl 4 rfl) ?_
              exact q_iret hx hb hr hlocks hW hS ⟨by rw [hE], (rp (rp (rp (rp r 4 (upd (r 4) i (nI ps))) 3 (upd (r 3) i y9)) 2 (upd (r 2) i 70)) 5 (upd (r 5) i (nI (e9 - ps)))), rfl, (by rw [hE]; show upd (r 2) i 70 = _; unfold t_kind; rw [if_neg (by rw [hnl]; decide), if_pos hdg, if_neg h3]; rfl), (by rw [hE]; rfl), (fun q hq => z_un hq), (fun h9 => by rw [hE] at h9 ⊢; unfold t_kind at h9; rw [if_neg (by rw [hnl]; decide), if_pos hdg, if_neg h3] at h9; exact absurd h9 (by decide)), (fun j hj => (rp_n (by omega)).trans ((rp_n (by omega)).trans ((rp_n (by omega)).trans ((rp_n (by omega)).trans (rfl))))), rfl, rfl⟩ (Nat.le_of_ble_eq_true rfl) (Nat.le_of_ble_eq_true rfl) dX14_read_177
          · have hxd : b_dig (t_at g L e9) = true := b01_1 c_84
            have heL : e9 < L := at_in (fun h9 => by rw [h9] at hxd; exact absurd hxd (by decide))
            have hce : ((t_at g L e9 - 48).toInt64).toInt32 = t_at g L e9 - 48 := by obtain ⟨z, hz, e⟩ := at_byte (g := g) heL; rw [e] at hxd ⊢; exact dig_num z hz hxd
            refine lv_iload hx hb dX14_read_87 (lv_at hl 4 rfl) ?_
            refine lv_iload_n hx hb dX14_read_89 rfl (lv_at hl 1 rfl) ?_
            refine lv_isub hx hb dX14_read_90 ?_
            rw [pk_sub (by omega)]
            refine lv_iconst (v := 4) hx hb dX14_read_91 (by decide) ?_
            refine lv_icmp_ge (tgt := 113) hx hb dX14_read_92 (by decide) (fun c_92 => ?_) (fun c_92 => ?_)
            · have h4 : 4 ≤ e9 - ps := (nI_leI (by decide) (by omega)).1 (show nI 4 ≤ nI (e9 - ps) from c_92)
              refine lv_iload hx hb dX14_read_113 (lv_at hl 5 rfl) ?_
              refine lv_istore (lv' := [(5, .int y9), (0, .ref M), (1, .int (nI ps)), (2, .int (nI i)), (3, .int (t_at g L ps)), (4, .int (nI e9))]) hx hb dX14_read_115 hl (by decide) rfl (fun ls hl => ?_)
              refine lv_iinc (v := nI (e9 + 1)) (lv' := [(4, .int (nI (e9 + 1))), (5, .int y9), (0, .ref M), (1, .int (nI ps)), (2, .int (nI i)), (3, .int (t_at g L ps))]) hx hb dX14_read_117 hl (k := 5) rfl (nI_1 e9) (by decide) rfl (fun ls hl => ?_)
              refine lv_goto (tgt := 75) hx hb dX14_read_120 (by decide) ?_
              exact ih (e9 + 1) y9 (by omega) heL (hend.trans (end_step heL (by rw [goes_dig hnl hdg]; exact hxd))) (fun h9 => absurd h9 (by omega)) (by omega) _ _ _ hW hS (lv_sub hl [2, 3, 4, 5, 0, 1] rfl)
            · have h4 : ¬ 4 ≤ e9 - ps := fun h9 => c_92 ((nI_leI (by decide) (by omega)).2 h9)
              refine lv_bipush (v := 10) hx hb dX14_read_95 (by decide) ?_
              refine lv_iload hx hb dX14_read_97 (lv_at hl 5 rfl) ?_
              refine lv_imul hx hb dX14_read_99 ?_
              refine lv_aload_n hx hb dX14_read_100 rfl (lv_at hl 0 rfl) ?_
              refine lv_iload hx hb dX14_read_101 (lv_at hl 4 rfl) ?_
              refine q_ci (va_runV (As := [.int (nI e9)]) (rest := [.int (10 * y9)]) ⟨hx, hb, hml, hown, hts⟩ (kX14_byteAt l E (rO E f M (rp r 4 (upd (r 4) i (nI ps)))) n M (rp r 4 (upd (r 4) i (nI ps))) g L e9 rO_K htp (by omega)) (cwV 1 hts gX14_read_X14_byteAt rfl rfl rfl (by decide +kernel) ⟨(Nat.le_of_ble_eq_true rfl), (Nat.le_of_ble_eq_true rfl)⟩) (q_pV hA hW hS (ci := 12) rfl rO_0) rfl rfl hl.1 rfl (lv_room (Nat.le_of_ble_eq_true rfl)) dX14_read_103 ⟨Nat.le_of_ble_eq_true rfl, Nat.le_of_ble_eq_true rfl⟩) hS (fun r_103 f_103 n_103 H locs hp hW hS => ?_)
              obtain ⟨rfl, rfl, rfl⟩ := hp
              have hW : q_W E (rO E f M (rp r 4 (upd (r 4) i (nI ps)))) n H := hW
              refine lv_iadd hx hb dX14_read_106 ?_
              refine lv_bipush (v := 48) hx hb dX14_read_107 (by decide) ?_
              refine lv_isub hx hb dX14_read_109 ?_
              refine lv_goto (tgt := 115) hx hb dX14_read_110 (by decide) ?_
              refine lv_istore (lv' := [(5, .int (((10 * y9) + (t_at g L e9)) - 48)), (0, .ref M), (1, .int (nI ps)), (2, .int (nI i)), (3, .int (t_at g L ps)), (4, .int (nI e9))]) hx hb dX14_read_115 hl (by decide) rfl (fun ls hl => ?_)
              refine lv_iinc (v := nI (e9 + 1)) (lv' := [(4, .int (nI (e9 + 1))), (5, .int (((10 * y9) + (t_at g L e9)) - 48)), (0, .ref M), (1, .int (nI ps)), (2, .int (nI i)), (3, .int (t_at g L ps))]) hx hb dX14_read_117 hl (k := 5) rfl (nI_1 e9) (by decide) rfl (fun ls hl => ?_)
              refine lv_goto (tgt := 75) hx hb dX14_read_120 (by decide) ?_
              exact ih (e9 + 1) (10 * y9 + t_at g L e9 - 48) (by omega) heL (hend.trans (end_step heL (by rw [goes_dig hnl hdg]; exact hxd))) (fun h9 => by rw [wor_snoc (by omega)]; exact num_step hxd hce (hnum (by omega))) (by omega) _ _ _ hW hS (lv_sub hl [2, 3, 4, 5, 0, 1] rfl)
      exact K75 _ (ps + 1) (t_at g L ps - 48) (Nat.le_refl _) hps rfl (fun _ => num_first hdg hcg) (Nat.lt_succ_self _) _ _ _ hW hS (lv_sub hl [3, 4, 5, 2, 1, 0] rfl)
  · have hlt : b_let (t_at g L ps) = true := b01_1 c_23
    obtain ⟨z9, -, -, -, -, hnd, -⟩ := let_at hlt
    have K26 : ∀ (fu : Nat) (e9 : Nat) (he1 : ps + 1 ≤ e9) (he2 : e9 ≤ L) (hend : t_end g L ps = t_endF g L (t_at g L ps) (L - e9) e9) (hls : ∀ q, q < e9 - ps → b_let (t_at g L (ps + q)) = true) (hm : L - e9 < fu) (H : Heap) (locs : List Loc) (ls : Array Slot), q_W E (rO E f M (rp r 4 (upd (r 4) i (nI ps)))) n H → va_S (q_ge E) s.heap H locs → lv_has ls 6 [(0, .ref M), (1, .int (nI ps)), (2, .int (nI i)), (3, .int (t_at g L ps)), (4, .int (nI e9))] → W p l e (headSpec wsX14_read ({ frames := 6, cells := 0, slots := 0, locals := 132 })).room s m ([.ref M, .int (nI ps), .int (nI i)] : List Value).toArray below meth c H locs 0 0 (MQ below (q_Qi E (fun r0 f1 n1 => nI (t_end g L ps) = r0 ∧ ∃ (r1 : q_R), r1 4 = upd (r 4) i (nI ps) ∧ r1 2 = upd (r 2) i (nI (m_kd (t_kind (t_at g L ps) (t_end g L ps - ps) (t_wor g L ps (t_end g L ps))))) ∧ r1 5 = upd (r 5) i (nI (t_end g L ps - ps)) ∧ (∀ q, q ≠ i → r1 3 q = r 3 q) ∧ ((t_kind (t_at g L ps) (t_end g L ps - ps) (t_wor g L ps (t_end g L ps))) = 38 → r1 3 i = (t_wor g L ps (t_end g L ps)).toInt32) ∧ (∀ j, (j < 2 ∨ 5 < j) → r1 j = r j) ∧ rO E f M r1 = f1 ∧ n = n1)) ([.ref M, .int (nI ps), .int (nI i)] : List Value).toArray s 0 0 (q_ge E)) (F0 m 26 ls []) := by
      intro fu
      induction fu with
      | zero =>
        intro e9 he1 he2 hend hls hm
        exact absurd hm (Nat.not_lt_zero _)
      | succ fu ih =>
        intro e9 he1 he2 hend hls hm H locs ls hW hS hl
        refine lv_aload_n hx hb dX14_read_26 rfl (lv_at hl 0 rfl) ?_
        refine lv_iload hx hb dX14_read_27 (lv_at hl 4 rfl) ?_
        refine q_ci (va_runV (As := [.int (nI e9)]) (rest := []) ⟨hx, hb, hml, hown, hts⟩ (kX14_byteAt l E (rO E f M (rp r 4 (upd (r 4) i (nI ps)))) n M (rp r 4 (upd (r 4) i (nI ps))) g L e9 rO_K htp (by omega)) (cwV 1 hts gX14_read_X14_byteAt rfl rfl rfl (by decide +kernel) ⟨(Nat.le_of_ble_eq_true rfl), (Nat.le_of_ble_eq_true rfl)⟩) (q_pV hA hW hS (ci := 12) rfl rO_0) rfl rfl hl.1 rfl (lv_room (Nat.le_of_ble_eq_true rfl)) dX14_read_29 ⟨Nat.le_of_ble_eq_true rfl, Nat.le_of_ble_eq_true rfl⟩) hS (fun r_29 f_29 n_29 H locs hp hW hS => ?_)
        obtain ⟨rfl, rfl, rfl⟩ := hp
        have hW : q_W E (rO E f M (rp r 4 (upd (r 4) i (nI ps)))) n H := hW
        refine q_ci (va_runS (As := [.int (t_at g L e9)]) (rest := []) ⟨hx, hb, hml, hown, hts⟩ (kX14_isLetter l E (rO E f M (rp r 4 (upd (r 4) i (nI ps)))) n (t_at g L e9)) (va_cwS 1 hts gX14_read_X14_isLetter rfl rfl rfl (by decide +kernel) ⟨(Nat.le_of_ble_eq_true rfl), (Nat.le_of_ble_eq_true rfl)⟩) (q_pS hA hW hS) rfl rfl hl.1 rfl (lv_room (Nat.le_of_ble_eq_true rfl)) dX14_read_32 ⟨Nat.le_of_ble_eq_true rfl, Nat.le_of_ble_eq_true rfl⟩) hS (fun r_32 f_32 n_32 H locs hp hW hS => ?_)
        obtain ⟨rfl, rfl, rfl⟩ := hp
        have hW : q_W E (rO E f M (rp r 4 (upd (r 4) i (nI ps)))) n H := hW
        refine lv_if_eq (tgt := 44) hx hb dX14_read_35 (by decide) (fun c_35 => ?_) (fun c_35 => ?_)
        · have hxl : b_let (t_at g L e9) = false := b01_0 c_35
          have hE : t_end g L ps = e9 := hend.trans (end_stop (by rw [goes_let hlt hnd, hxl]; decide))
          refine lv_aload_n hx hb dX14_read_44 rfl (lv_at hl 0 rfl) ?_
          refine q_get hx hb hts hown hA hW iX14 rO_0 rfl 4 (by decide) (hts (.fieldLink RX14 17 "HighRecipesModel" "kind" "[I") (by decide +kernel)) (fun _ h9 => h9) (v := .ref (M + 2)) rfl dX14_read_45 ?_
          refine lv_iload_n hx hb dX14_read_48 rfl (lv_at hl 2 rfl) ?_
          refine lv_aload_n hx hb dX14_read_49 rfl (lv_at hl 0 rfl) ?_
          refine lv_iload_n hx hb dX14_read_50 rfl (lv_at hl 1 rfl) ?_
          refine lv_iload hx hb dX14_read_51 (lv_at hl 4 rfl) ?_
          refine lv_iload_n hx hb dX14_read_53 rfl (lv_at hl 1 rfl) ?_
          refine lv_isub hx hb dX14_read_54 ?_
          rw [pk_sub (by omega)]
          refine q_ci (va_runV (As := [.int (nI ps), .int (nI (e9 - ps))]) (rest := [.int (nI i), .ref (M + 2)]) ⟨hx, hb, hml, hown, hts⟩ (kX14_keyword l E (rO E f M (rp r 4 (upd (r 4) i (nI ps)))) n M (rp r 4 (upd (r 4) i (nI ps))) ps (e9 - ps) rO_K (by omega)) (cwV 2 hts gX14_read_X14_keyword rfl rfl rfl (by decide +kernel) ⟨(Nat.le_of_ble_eq_true rfl), (Nat.le_of_ble_eq_true rfl)⟩) (q_pV hA hW hS (ci := 12) rfl rO_0) rfl rfl hl.1 rfl (lv_room (Nat.le_of_ble_eq_true rfl)) dX14_read_55 ⟨Nat.le_of_ble_eq_true rfl, Nat.le_of_ble_eq_true rfl⟩) hS (fun r_55 f_55 n_55 H locs hp hW hS => ?_)
          obtain ⟨rfl, rfl, rfl⟩ := hp
          rw [show kwF ((rp r 4 (upd (r 4) i (nI ps))) 1) ps (e9 - ps) 27 0 = kwF (r 1) ps (e9 - ps) 27 0 from rfl]
          have hW : q_W E (rO E f M (rp r 4 (upd (r 4) i (nI ps)))) n H := hW
          refine q_ast hx hb hA hW hS (rO_2 (g := r 2) rfl) i rfl (by omega) (by decide) dX14_read_58 (fun H locs hW hS => ?_)
          have hW := q_sa 2 hW rfl rfl
          refine lv_goto (tgt := 165) hx hb dX14_read_59 (by decide) ?_
          refine lv_aload_n hx hb dX14_read_165 rfl (lv_at hl 0 rfl) ?_
          refine q_get hx hb hts hown hA hW iX14 rO_0 rfl 7 (by decide) (hts (.fieldLink RX14 26 "HighRecipesModel" "length" "[I") (by decide +kernel)) (fun _ h9 => h9) (v := .ref (M + 5)) rfl dX14_read_166 ?_
          refine lv_iload_n hx hb dX14_read_169 rfl (lv_at hl 2 rfl) ?_
          refine lv_iload hx hb dX14_read_170 (lv_at hl 4 rfl) ?_
          refine lv_iload_n hx hb dX14_read_172 rfl (lv_at hl 1 rfl) ?_
          refine lv_isub hx hb dX14_read_173 ?_
          rw [pk_sub (by omega)]
          refine q_ast hx hb hA hW hS (rO_5 (g := r 5) rfl) i rfl (by omega) (by decide) dX14_read_174 (fun H locs hW hS => ?_)
          have hW := q_sa 5 hW rfl rfl
          refine lv_iload hx hb dX14_read_175 (lv_at hl 4 rfl) ?_
          exact q_iret hx hb hr hlocks hW hS ⟨by rw [hE], (rp (rp (rp r 4 (upd (r 4) i (nI ps))) 2 (upd (r 2) i (kwF (r 1) ps (e9 - ps) 27 0))) 5 (upd (r 5) i (nI (e9 - ps)))), rfl, (by rw [hE]; show upd (r 2) i (kwF _ ps (e9 - ps) 27 0) = _; rw [kw_kind (g := g) (L := L) (by omega) (fun k hk => htp.2.2 _ (by omega)) hls, show ps + (e9 - ps) = e9 by omega]), (by rw [hE]; rfl), (fun _ _ => rfl), (fun h9 => by rw [hE] at h9; unfold t_kind at h9; rw [if_pos hlt] at h9; split at h9; rcases k_word_ne (w := t_wor g L ps e9) with z | z <;> omega; omega), (fun j hj => (rp_n (by omega)).trans ((rp_n (by omega)).trans ((rp_n (by omega)).trans (rfl)))), rfl, rfl⟩ (Nat.le_of_ble_eq_true rfl) (Nat.le_of_ble_eq_true rfl) dX14_read_177
        · have hxl : b_let (t_at g L e9) = true := b01_1 c_35
          have heL : e9 < L := at_in (fun h9 => by rw [h9] at hxl; exact absurd hxl (by decide))
          refine lv_iinc (v := nI (e9 + 1)) (lv' := [(4, .int (nI (e9 + 1))), (0, .ref M), (1, .int (nI ps)), (2, .int (nI i)), (3, .int (t_at g L ps))]) hx hb dX14_read_38 hl (k := 4) rfl (nI_1 e9) (by decide) rfl (fun ls hl => ?_)
          refine lv_goto (tgt := 26) hx hb dX14_read_41 (by decide) ?_
          exact ih (e9 + 1) (by omega) heL (hend.trans (end_step heL (by rw [goes_let hlt hnd]; exact hxl))) (fun q hq => by rcases Nat.lt_or_ge q (e9 - ps) with h9 | h9; exact hls q h9; rw [show ps + q = e9 by omega]; exact hxl) (by omega) _ _ _ hW hS (lv_sub hl [1, 2, 3, 4, 0] rfl)
    exact K26 _ (ps + 1) (Nat.le_refl _) hps rfl (fun q hq => by rw [show q = 0 by omega]; exact hlt) (Nat.lt_succ_self _) _ _ _ hW hS (lv_sub hl [2, 3, 4, 1, 0] rfl)
