/-! acts with blocks -/
/-- rows that stay: nodes below nd, compares below cc, acts from lo to hi -/
def r_E (r r1 : q_R) (nd cc lo hi : Nat) : Prop := (∀ j q, 39 ≤ j → j ≤ 41 → q < nd → r1 j q = r j q) ∧ (∀ j q, 36 ≤ j → j ≤ 38 → q < cc → r1 j q = r j q) ∧ (∀ j q, 28 ≤ j → j ≤ 35 → lo ≤ q → q < hi → r1 j q = r j q)
theorem r_G.E {r r1 : q_R} {nd cc ac lo : Nat} (h : r_G r r1 nd cc ac) : r_E r r1 nd cc lo ac := ⟨h.2.1, h.2.2.1, fun j q a b _ d => h.2.2.2 j q a b d⟩
theorem rp_E {r : q_R} {j q0 nd cc lo hi : Nat} {x : Int32} (hj : 28 ≤ j ∧ j ≤ 35) (hq : q0 < lo) : r_E r (rp r j (upd (r j) q0 x)) nd cc lo hi := by
  refine ⟨fun i q a b c => by rw [rp_n (by omega)], fun i q a b c => by rw [rp_n (by omega)], fun i q a b c d => ?_⟩
  by_cases e : i = j
  · subst e; rw [rp_s, z_un (by omega)]
  · rw [rp_n e]
theorem rpS_E {r : q_R} {j nd cc lo hi : Nat} {g : Nat → Int32} (hj : 100 ≤ j) : r_E r (rp r j g) nd cc lo hi := ⟨fun i q a b c => by rw [rp_n (by omega)], fun i q a b c => by rw [rp_n (by omega)], fun i q a b c d => by rw [rp_n (by omega)]⟩
theorem mC_G {r r1 : q_R} {pn nd cc ac nd1 fr m : Nat} {C : q_V → q_V → Bool} (h : mC (bR r 25) pn nd fr m C) (hG : r_G r r1 nd cc ac) (hn : nd ≤ nd1) (hc : fr + m ≤ cc) : mC (bR r1 25) pn nd1 fr m C :=
  mC_frame (B := bR r 25) (G := bR r1 25) (fun q hq => hG.2.1 39 q (by decide) (by decide) hq) (fun q hq => hG.2.1 40 q (by decide) (by decide) hq) (fun q hq => hG.2.1 41 q (by decide) (by decide) hq) hn m C (fun q hq => ⟨hG.2.2.1 36 q (by decide) (by decide) (by omega), hG.2.2.1 37 q (by decide) (by decide) (by omega), hG.2.2.1 38 q (by decide) (by decide) (by omega)⟩) h
theorem mA_E {r r1 : q_R} {pn nd cc lo hi nd1 cc1 hi1 R d a : Nat} {RS : Nat → q_S} {S : q_S} (h : mA (bR r 25) pn nd cc hi RS R d a S) (hG : r_E r r1 nd cc lo hi) (ha : lo ≤ a) (h1 : nd ≤ nd1) (h2 : cc ≤ cc1) (h3 : hi ≤ hi1) : mA (bR r1 25) pn nd1 cc1 hi1 RS R d a S :=
  mA_frame (B := bR r 25) (G := bR r1 25) (fun q hq => hG.1 39 q (by decide) (by decide) hq) (fun q hq => hG.1 40 q (by decide) (by decide) hq) (fun q hq => hG.1 41 q (by decide) (by decide) hq) h1 (fun q hq => ⟨hG.2.1 36 q (by decide) (by decide) hq, hG.2.1 37 q (by decide) (by decide) hq, hG.2.1 38 q (by decide) (by decide) hq⟩) h2 h3 (Nat.le_refl _) (fun _ _ => rfl) d a S (fun q q1 q2 j j3 j9 => (by show (if j ≤ 16 then r1 (25 + j) else fun _ => 0) q = (if j ≤ 16 then r (25 + j) else fun _ => 0) q; rw [if_pos (by omega), if_pos (by omega)]; exact hG.2.2 (25 + j) q (by omega) (by omega) (by omega) q2)) (fun q q1 q2 => hG.2.2 35 q (by decide) (by decide) (by omega) q2) h
theorem mL_E {r r1 : q_R} {pn nd cc lo hi nd1 cc1 hi1 R d m : Nat} {RS : Nat → q_S} {o : Int32} {S : q_S} (h : mL (bR r 25) lo hi (mA (bR r 25) pn nd cc hi RS R d) m o S) (hG : r_E r r1 nd cc lo hi) (h1 : nd ≤ nd1) (h2 : cc ≤ cc1) (h3 : hi ≤ hi1) : mL (bR r1 25) lo hi1 (mA (bR r1 25) pn nd1 cc1 hi1 RS R d) m o S :=
  mL_frame (B := bR r 25) (G := bR r1 25) (fun q q1 q2 => hG.2.2 35 q (by decide) (by decide) q1 q2) (Nat.le_refl _) h3 (fun a S h9 y => mA_E y hG h9 h1 h2 h3) m o S h
theorem mL_lo {B : q_R} {lo lo1 hi m : Nat} {RA : Nat → q_S → Prop} {o : Int32} {S : q_S} (h : mL B lo hi RA m o S) (h1 : lo1 ≤ lo) : mL B lo1 hi RA m o S := mL_frame (fun _ _ _ => rfl) h1 (Nat.le_refl _) (fun _ _ _ y => y) m o S h
theorem cmp_tk {K : Nat → Nat} {T : Nat} {Wd pN : Nat → Int64} {pn : Nat} {s : p_S} (hKT : 39 ≤ K T) (hs : p_ok K T s) (h : (p_cmp K Wd pN pn s).2.1 ≠ 40) : s.1 + 1 ≤ (p_cmp K Wd pN pn s).1 := by
  have g1 := go_val0 (Wd := Wd) (pN := pN) (pn := pn) hKT 4 s hs
  have g2 := go_cs hKT g1.1
  have g3 := go_val0 (Wd := Wd) (pN := pN) (pn := pn) hKT 4 _ g2.1
  have e2 := g3.2.2.2.1 h
  have e3 : (p_cs K (p_val K Wd pN pn 4 s)).1 = (p_val K Wd pN pn 4 s).1 + 1 := by
    cases hc : b_csign (p_val K Wd pN pn 4 s).2.1 with
    | false => exact absurd (cs_bad hc).2 e2
    | true => unfold p_cs; rw [hc]; rfl
  have a1 := g1.2.1
  have a3 := g3.2.1
  rw [e3] at a3
  exact Nat.le_trans (Nat.succ_le_succ a1) a3

def RBLK (l : Launch) (E : q_E) (RS : Nat → q_S) (d : Nat) : Prop := ∀ (f : q_H) (n M : Nat) (r : q_R) (K : Nat → Nat) (Wd : Nat → Int64) (T : Nat) (u : p_S) (tk nd cc ac : Nat) (pN : Nat → Int64) (pn : Nat) (rN : Nat → Int64) (rc : Nat), RM E f M r → r_T r K Wd T → T ≤ 400 → 39 ≤ K T → (∀ j, K j < 41) → r_P r K T u tk nd cc ac → p_ok K T u → r_nm r K Wd T 6 pn pN → pn ≤ 8 → r 130 0 = nI pn → r_nm r K Wd T 7 rc rN → rc ≤ 6 → r 109 0 = nI rc → r 107 0 = nI (6 - d) → (u.2.1 ≠ 40 → r 108 0 = nI (4 - 4)) → d ≤ 6 → 
  Met l yX14_block wsX14_block ({ frames := 4 * d + 40, cells := 0, slots := 0, locals := 100 * d + 1000 }) (q_P E [.ref M] f n) (q_Qi E (fun r0 f1 n1 => ∃ (r1 : q_R) (tk1 nd1 cc1 ac1 : Nat), r_Q r r1 K T (p_blk K Wd pN pn rN rc d u) tk nd cc ac tk1 nd1 cc1 ac1 ∧ r1 107 0 = r 107 0 ∧ ((p_blk K Wd pN pn rN rc d u).2.1 ≠ 40 → r1 108 0 = r 108 0) ∧ True ∧ ((p_blk K Wd pN pn rN rc d u).2.1 ≠ 40 → (p_blk K Wd pN pn rN rc d u).2.2.1 = 0 → ∃ m, mL (bR r1 25) ac ac1 (mA (bR r1 25) pn nd1 cc1 ac1 RS rc d) m r0 (p_blkS K Wd pN pn rN rc RS d u)) ∧ rO E f M r1 = f1 ∧ n = n1)) 0 0 (q_ge E)

set_option maxHeartbeats 4000000 in
set_option maxRecDepth 100000 in
theorem kX14_again (l : Launch) (E : q_E) (f : q_H) (n : Nat) (M : Nat) (r : q_R) (K : Nat → Nat) (Wd : Nat → Int64) (T : Nat) (u : p_S) (tk nd cc ac : Nat) (pN : Nat → Int64) (pn : Nat) (rN : Nat → Int64) (rc k9 : Nat) (RS : Nat → q_S) (d0 : Nat)  (hm : RM E f M r) (hTK : r_T r K Wd T) (hT : T ≤ 400) (hKT : 39 ≤ K T) (hK41 : ∀ j, K j < 41) (hP : r_P r K T u tk nd cc ac) (hok : p_ok K T u) (hnm : r_nm r K Wd T 6 pn pN) (hpn : pn ≤ 8) (hpn9 : r 130 0 = nI pn) (hnr : r_nm r K Wd T 7 rc rN) (hrc : rc ≤ 6) (hrc9 : r 109 0 = nI rc) (hv8 : r 108 0 = nI (4 - 4)) (hk9 : k9 ≤ ac) (ihB : RBLK l E RS d0) (hd6 : d0 + 1 ≤ 6) (hv7 : r 107 0 = nI (6 - d0)) : Met l yX14_again wsX14_again ({ frames := 4 * d0 + 41, cells := 0, slots := 0, locals := 100 * d0 + 1030 }) (q_P E [.ref M, .int (nI k9)] f n) (q_Qv E (fun f1 n1 => ∃ (r1 : q_R) (tk1 nd1 cc1 ac1 : Nat), r_Q r r1 K T (p_blk K Wd pN pn rN rc d0 (p_val K Wd pN pn 4 u)) tk nd cc k9 tk1 nd1 cc1 ac1 ∧ r1 107 0 = r 107 0 ∧ ((p_blk K Wd pN pn rN rc d0 (p_val K Wd pN pn 4 u)).2.1 ≠ 40 → r1 108 0 = r 108 0) ∧ (ac ≤ ac1) ∧ ((k9 < ac → r1 35 k9 = r 35 k9 ∧ r1 28 k9 = r 28 k9) ∧ (k9 < ac → (p_blk K Wd pN pn rN rc d0 (p_val K Wd pN pn 4 u)).2.1 ≠ 40 → (p_blk K Wd pN pn rN rc d0 (p_val K Wd pN pn 4 u)).2.2.1 = 0 → ∃ x, r1 30 k9 = nI x ∧ mV (bR r1 25) pn nd1 5 x (p_valD K Wd pN pn 4 u) ∧ ∃ m, mL (bR r1 25) ac ac1 (mA (bR r1 25) pn nd1 cc1 ac1 RS rc d0) m (r1 33 k9) (p_blkS K Wd pN pn rN rc RS d0 (p_val K Wd pN pn 4 u)))) ∧ rO E f M r1 = f1 ∧ n = n1)) 0 0 (q_ge E) := by
  refine Met.ofW (cc := cX14_again) (maxL := 4) (ret := none) (by decide) rfl ?_
  intro p e s m args below meth c s₁ B hml hv
  obtain ⟨rfl, hA, hW⟩ := hv
  have hx := B.exec
  have hb := B.bytes
  have hr := B.returns
  have hts := atoms_spec (ws := wsX14_again) B.pre
  have hown : s.vm.findClass RX14 = some m.cls := findClass_of_methodNamed B.named
  have hlocks := B.notSynchronized
  have hS : va_S (q_ge E) s.heap s.heap [] := va_S.rf
  have iX13 : ∀ w ∈ wsX130, w ∈ wsX14_again := by decide +kernel
  have iX14 : ∀ w ∈ wsX140, w ∈ wsX14_again := by decide +kernel
  have hl := lv_entry ([.ref M, .int (nI k9)]) (n := 4) (Nat.le_of_ble_eq_true rfl)
  rw [lg_entry_eq]
  generalize (lg_sl ([.ref M, .int (nI k9)]) ++ List.replicate (4 - (lg_sl ([.ref M, .int (nI k9)])).length) Slot.unset).toArray = ls at hl ⊢
  have hl : lv_has ls 4 [(0, .ref M), (1, .int (nI k9))] := hl
  have hmE := hm.eq
  rw [hm.eq] at hW
  have Q0 := r_Q.rf hP
  have htk := hP.1.2.1
  have hnd := hP.1.2.2.2.1
  have hcc := hP.1.2.2.2.2.2.1
  have hac := hP.1.2.2.2.2.2.2.2
  have Q9 : r_Q r r K T u tk nd cc k9 tk nd cc ac := ⟨hP, r_G.rf, ⟨Nat.le_refl _, Nat.le_refl _, Nat.le_refl _, Nat.le_refl _, Nat.le_refl _, hk9⟩⟩
  refine lv_aload_n hx hb dX14_again_0 rfl (lv_at hl 0 rfl) ?_
  refine q_ci (va_runV (As := []) (rest := []) ⟨hx, hb, hml, hown, hts⟩ (rval_all l E 4 (rO E f M r) n M r K Wd T u tk nd cc ac pN pn rO_K hTK hT hKT hK41 Q9.1 hok (hnm.mv (Q9.2.1.1 6 (by decide) (by decide) (by decide))) hpn hpn9 hv8 (by decide)) (cwV 0 hts gX14_again_X14_value rfl rfl rfl (by decide +kernel) ⟨(by show 28 + 1 ≤ 4 * d0 + 41; omega), (by show 8 + (2 + 11) + 700 ≤ 100 * d0 + 1030; omega)⟩) (q_pV hA hW hS (ci := 12) rfl rO_0) rfl rfl hl.1 rfl (lv_room (Nat.le_of_ble_eq_true rfl)) dX14_again_1 ⟨Nat.le_of_ble_eq_true rfl, Nat.le_of_ble_eq_true rfl⟩) hS (fun r_1 f_1 n_1 H locs hp hW hS => ?_)
  obtain ⟨R_1, tk_1, nd_1, cc_1, ac_1, q_1, e7_1, e8_1, ec_1, ex_1, rfl, rfl⟩ := hp
  have G_1 : p_go K T u (p_val K Wd pN pn 4 u) := (go_val0 hKT 4 _)
  have GG_1 := G_1 hok
  have ok_1 := GG_1.1
  have le_1 := GG_1.2.2.2.1
  have er_1 := GG_1.2.2.2.2
  have Q_1 := Q9.trans q_1
  have T_1 := Q_1.tok hTK
  have num_1 := Q_1.2.2
  unfold r_num at num_1
  have bt_1 := Q_1.1.1.2.1
  have bn_1 := Q_1.1.1.2.2.2.1
  have bc_1 := Q_1.1.1.2.2.2.2.2.1
  have ba_1 := Q_1.1.1.2.2.2.2.2.2.2
  have qn_1 := q_1.2.2
  unfold r_num at qn_1
  have Gm1_1 : r_G R_1 R_1 nd_1 cc_1 k9 := r_G.rf
  have y35_1 : k9 < ac → R_1 35 k9 = r 35 k9 := fun h0 => (q_1.2.1.2.2.2 35 k9 (by decide) (by decide) (by omega)).trans ((fun _ => rfl) h0)
  have y28_1 : k9 < ac → R_1 28 k9 = r 28 k9 := fun h0 => (q_1.2.1.2.2.2 28 k9 (by decide) (by decide) (by omega)).trans ((fun _ => rfl) h0)
  have h8_1 : (p_val K Wd pN pn 4 u).2.1 ≠ 40 → R_1 108 0 = nI (4 - 4) := fun z => (e8_1 z).trans ((fun _ => hv8) (le_1 z))
  rw [rO_rO] at hW
  have hW : q_W E (rO E f M R_1) n H := hW
  refine lv_istore_n (lv' := [(2, .int r_1), (0, .ref M), (1, .int (nI k9))]) hx hb dX14_again_4 rfl hl (by decide) rfl (fun ls hl => ?_)
  refine lv_aload_n hx hb dX14_again_5 rfl (lv_at hl 1 rfl) ?_
  refine q_ci (va_runV (As := []) (rest := []) ⟨hx, hb, hml, hown, hts⟩ (ihB (rO E f M R_1) n M R_1 K Wd T (p_val K Wd pN pn 4 u) tk_1 nd_1 cc_1 ac_1 pN pn rN rc rO_K T_1 hT hKT hK41 Q_1.1 ok_1 (hnm.mv (Q_1.2.1.1 6 (by decide) (by decide) (by decide))) hpn ((congrFun (q_1.2.1.1 130 (by decide) (by decide) (by decide)) 0).trans hpn9) (hnr.mv (Q_1.2.1.1 7 (by decide) (by decide) (by decide))) hrc ((congrFun (q_1.2.1.1 109 (by decide) (by decide) (by decide)) 0).trans hrc9) (e7_1.trans hv7) h8_1 (by omega)) (cwV 0 hts gX14_again_X14_block rfl rfl rfl (by decide +kernel) ⟨(by show (4 * d0 + 40) + 1 ≤ 4 * d0 + 41; omega), (by show 8 + (4 + 11) + (100 * d0 + 1000) ≤ 100 * d0 + 1030; omega)⟩) (q_pV hA hW hS (ci := 12) rfl rO_0) rfl rfl hl.1 rfl (lv_room (Nat.le_of_ble_eq_true rfl)) dX14_again_6 ⟨Nat.le_of_ble_eq_true rfl, Nat.le_of_ble_eq_true rfl⟩) hS (fun r_6 f_6 n_6 H locs hp hW hS => ?_)
  obtain ⟨R_6, tk_6, nd_6, cc_6, ac_6, q_6, e7_6, e8_6, ec_6, ex_6, rfl, rfl⟩ := hp
  have G_6 : p_go K T (p_val K Wd pN pn 4 u) (p_blk K Wd pN pn rN rc d0 (p_val K Wd pN pn 4 u)) := (go_blk hKT d0 _)
  have GG_6 := G_6 ok_1
  have ok_6 := GG_6.1
  have le_6 := GG_6.2.2.2.1
  have er_6 := GG_6.2.2.2.2
  have Q_6 := Q_1.trans q_6
  have T_6 := Q_6.tok hTK
  have num_6 := Q_6.2.2
  unfold r_num at num_6
  have bt_6 := Q_6.1.1.2.1
  have bn_6 := Q_6.1.1.2.2.2.1
  have bc_6 := Q_6.1.1.2.2.2.2.2.1
  have ba_6 := Q_6.1.1.2.2.2.2.2.2.2
  have qn_6 := q_6.2.2
  unfold r_num at qn_6
  have Gm1_6 := Gm1_1.trans q_6.2.1 (by omega) (by omega) (by omega)
  have Gm6_6 : r_G R_6 R_6 nd_6 cc_6 k9 := r_G.rf
  have y35_6 : k9 < ac → R_6 35 k9 = r 35 k9 := fun h0 => (q_6.2.1.2.2.2 35 k9 (by decide) (by decide) (by omega)).trans (y35_1 h0)
  have y28_6 : k9 < ac → R_6 28 k9 = r 28 k9 := fun h0 => (q_6.2.1.2.2.2 28 k9 (by decide) (by decide) (by omega)).trans (y28_1 h0)
  have h8_6 : (p_blk K Wd pN pn rN rc d0 (p_val K Wd pN pn 4 u)).2.1 ≠ 40 → R_6 108 0 = nI (4 - 4) := fun z => (e8_6 z).trans (h8_1 (le_6 z))
  rw [rO_rO] at hW
  have hW : q_W E (rO E f M R_6) n H := hW
  refine lv_istore_n (lv' := [(3, .int r_6), (2, .int r_1), (0, .ref M), (1, .int (nI k9))]) hx hb dX14_again_9 rfl hl (by decide) rfl (fun ls hl => ?_)
  refine lv_aload_n hx hb dX14_again_10 rfl (lv_at hl 2 rfl) ?_
  refine q_get hx hb hts hown hA hW iX14 rO_0 rfl 18 (by decide) (hts (.fieldLink RX14 42 "HighRecipesModel" "fresh" "LHighRecipesModel$Book;") (by decide +kernel)) (fun _ h9 => h9) (v := .ref (M + 25)) rfl dX14_again_11 ?_
  refine q_getN hx hb hts hown hA hW iX13 rO_25 rfl 7 (by decide) (va_Nw.use rfl (hA.2.2.2.1 ("HighRecipesModel", 239, "HighRecipesModel$Book", "value", "[I", "HighRecipesModel") (by decide +kernel))) (fun _ h9 => h9) (v := .ref (M + 30)) rfl dX14_again_14 ?_
  refine lv_iload_n hx hb dX14_again_17 rfl (lv_at hl 3 rfl) ?_
  refine lv_iload_n hx hb dX14_again_18 rfl (lv_at hl 1 rfl) ?_
  refine q_ast hx hb hA hW hS (rO_30 (g := R_6 30) rfl) k9 rfl (by omega) (by decide) dX14_again_19 (fun H locs hW hS => ?_)
  have hW := q_sa 30 hW rfl rfl
  refine lv_aload_n hx hb dX14_again_20 rfl (lv_at hl 2 rfl) ?_
  refine q_get hx hb hts hown hA hW iX14 rO_0 rfl 18 (by decide) (hts (.fieldLink RX14 42 "HighRecipesModel" "fresh" "LHighRecipesModel$Book;") (by decide +kernel)) (fun _ h9 => h9) (v := .ref (M + 25)) rfl dX14_again_21 ?_
  refine q_getN hx hb hts hown hA hW iX13 rO_25 rfl 10 (by decide) (va_Nw.use rfl (hA.2.2.2.1 ("HighRecipesModel", 221, "HighRecipesModel$Book", "block", "[I", "HighRecipesModel") (by decide +kernel))) (fun _ h9 => h9) (v := .ref (M + 33)) rfl dX14_again_24 ?_
  refine lv_iload_n hx hb dX14_again_27 rfl (lv_at hl 3 rfl) ?_
  refine lv_iload_n hx hb dX14_again_28 rfl (lv_at hl 0 rfl) ?_
  refine q_ast hx hb hA hW hS (rO_33 (g := R_6 33) rfl) k9 rfl (by omega) (by decide) dX14_again_29 (fun H locs hW hS => ?_)
  have hW := q_sa 33 hW rfl rfl
  obtain ⟨R_30, hR_30⟩ : ∃ z, z = rp (rp R_6 30 (upd (R_6 30) k9 r_1)) 33 (upd (R_6 33) k9 r_6) := ⟨_, rfl⟩
  rw [← hR_30] at hW
  have Q_30 : r_Q r R_30 K T (p_blk K Wd pN pn rN rc d0 (p_val K Wd pN pn 4 u)) tk nd cc k9 tk_6 nd_6 cc_6 ac_6 := by rw [hR_30]; exact ((Q_6.st (by decide) (by omega)).st (by decide) (by omega))
  have T_30 := Q_30.tok hTK
  have num_30 := Q_30.2.2
  unfold r_num at num_30
  have bt_30 := Q_30.1.1.2.1
  have bn_30 := Q_30.1.1.2.2.2.1
  have bc_30 := Q_30.1.1.2.2.2.2.2.1
  have ba_30 := Q_30.1.1.2.2.2.2.2.2.2
  have Gm1_30 : r_G R_1 R_30 nd_1 cc_1 k9 := by rw [hR_30]; exact (r_G.upA (r_G.upA Gm1_6 (by omega)) (by omega))
  have Gm6_30 : r_G R_6 R_30 nd_6 cc_6 k9 := by rw [hR_30]; exact (r_G.upA (r_G.upA Gm6_6 (by omega)) (by omega))
  have y35_30 : k9 < ac → R_30 35 k9 = r 35 k9 := fun h0 => by rw [hR_30]; exact y35_6 h0
  have y28_30 : k9 < ac → R_30 28 k9 = r 28 k9 := fun h0 => by rw [hR_30]; exact y28_6 h0
  have y30_30 : k9 < ac → R_30 30 k9 = r_1 := fun _ => by rw [hR_30]; exact st_row (r := R_6) (j := 30) (q0 := k9) (x := r_1)
  have y33_30 : k9 < ac → R_30 33 k9 = r_6 := fun _ => by rw [hR_30]; exact st_row (r := R_6) (j := 33) (q0 := k9) (x := r_6)
  have h8_30 : (p_blk K Wd pN pn rN rc d0 (p_val K Wd pN pn 4 u)).2.1 ≠ 40 → R_30 108 0 = nI (4 - 4) := fun z => by rw [hR_30]; exact h8_6 z
  have EE_30 : ∀ nd9 cc9 lo hi, k9 < lo → r_E R_6 R_30 nd9 cc9 lo hi := fun nd9 cc9 lo hi h0 => by
    rw [hR_30]
    refine ⟨fun i q a b c => ?_, fun i q a b c => ?_, fun i q a b c d => ?_⟩
    · rw [rp_n (by omega)]; rw [rp_n (by omega)]
    · rw [rp_n (by omega)]; rw [rp_n (by omega)]
    · refine ((rp_E (j := 33) (q0 := k9) (nd := 0) (cc := 0) (lo := lo) (hi := hi) (by decide) h0).2.2 i q a b c d).trans <| ((rp_E (j := 30) (q0 := k9) (nd := 0) (cc := 0) (lo := lo) (hi := hi) (by decide) h0).2.2 i q a b c d).trans <| rfl
  exact q_vret hx hb hr hlocks hW hS ⟨_, _, _, _, _, Q_30, (show R_30 107 0 = r 107 0 from by rw [hR_30]; exact (e7_6.trans (e7_1.trans rfl))), (fun z => (show R_30 108 0 = r 108 0 from by rw [hR_30]; exact (fun z => (e8_6 z).trans ((fun z => (e8_1 z).trans rfl) (le_6 z))) z)), (by omega), ⟨(fun h0 => ⟨(y35_30 h0), (y28_30 h0)⟩), fun h0 h1 h2 => by obtain ⟨a, i, m⟩ := ex_1 (le_6 h1) (er_6 h2); obtain ⟨q9, lst⟩ := ex_6 h1 h2; have y33 := (y33_30 h0); exact ⟨a, ((y30_30 h0)).trans i, mV_G (mV_G m Gm1_6 (by omega)) Gm6_30 (by omega), q9, by rw [y33]; exact mL_lo (mL_E lst (EE_30 _ _ _ _ (by omega)) (Nat.le_refl _) (Nat.le_refl _) (Nat.le_refl _)) (by omega)⟩⟩, rfl, rfl⟩ (Nat.le_of_ble_eq_true rfl) (Nat.le_of_ble_eq_true rfl) dX14_again_30

set_option maxHeartbeats 4000000 in
set_option maxRecDepth 100000 in
theorem kX14_choice (l : Launch) (E : q_E) (f : q_H) (n : Nat) (M : Nat) (r : q_R) (K : Nat → Nat) (Wd : Nat → Int64) (T : Nat) (u : p_S) (tk nd cc ac : Nat) (pN : Nat → Int64) (pn : Nat) (rN : Nat → Int64) (rc k9 : Nat) (RS : Nat → q_S) (d0 : Nat)  (hm : RM E f M r) (hTK : r_T r K Wd T) (hT : T ≤ 400) (hKT : 39 ≤ K T) (hK41 : ∀ j, K j < 41) (hP : r_P r K T u tk nd cc ac) (hok : p_ok K T u) (hnm : r_nm r K Wd T 6 pn pN) (hpn : pn ≤ 8) (hpn9 : r 130 0 = nI pn) (hnr : r_nm r K Wd T 7 rc rN) (hrc : rc ≤ 6) (hrc9 : r 109 0 = nI rc) (hv8 : r 108 0 = nI (4 - 4)) (hk9 : k9 ≤ ac) (ihB : RBLK l E RS d0) (hd6 : d0 + 1 ≤ 6) (hv7 : r 107 0 = nI (6 - d0)) : Met l yX14_choice wsX14_choice ({ frames := 4 * d0 + 41, cells := 0, slots := 0, locals := 100 * d0 + 1030 }) (q_P E [.ref M, .int (nI k9)] f n) (q_Qv E (fun f1 n1 => ∃ (r1 : q_R) (tk1 nd1 cc1 ac1 : Nat), r_Q r r1 K T (p_else K (p_blk K Wd pN pn rN rc d0) (p_blk K Wd pN pn rN rc d0 (p_cmps K Wd pN pn 400 u))) tk nd cc k9 tk1 nd1 cc1 ac1 ∧ r1 107 0 = r 107 0 ∧ ((p_else K (p_blk K Wd pN pn rN rc d0) (p_blk K Wd pN pn rN rc d0 (p_cmps K Wd pN pn 400 u))).2.1 ≠ 40 → r1 108 0 = r 108 0) ∧ (ac ≤ ac1) ∧ ((k9 < ac → r1 35 k9 = r 35 k9 ∧ r1 28 k9 = r 28 k9) ∧ (k9 < ac → (p_else K (p_blk K Wd pN pn rN rc d0) (p_blk K Wd pN pn rN rc d0 (p_cmps K Wd pN pn 400 u))).2.1 ≠ 40 → (p_else K (p_blk K Wd pN pn rN rc d0) (p_blk K Wd pN pn rN rc d0 (p_cmps K Wd pN pn 400 u))).2.2.1 = 0 → ∃ mc, r1 31 k9 = nI cc ∧ r1 32 k9 = nI (cc + mc) ∧ cc + mc ≤ cc1 ∧ mC (bR r1 25) pn nd1 cc mc (p_cmpsC K Wd pN pn 400 u (fun _ _ => true)) ∧ (∃ m, mL (bR r1 25) ac ac1 (mA (bR r1 25) pn nd1 cc1 ac1 RS rc d0) m (r1 33 k9) (p_blkS K Wd pN pn rN rc RS d0 (p_cmps K Wd pN pn 400 u))) ∧ (∃ m, mL (bR r1 25) ac ac1 (mA (bR r1 25) pn nd1 cc1 ac1 RS rc d0) m (r1 34 k9) (if (p_blk K Wd pN pn rN rc d0 (p_cmps K Wd pN pn 400 u)).2.1 = 18 then p_blkS K Wd pN pn rN rc RS d0 (p_take K 18 (p_blk K Wd pN pn rN rc d0 (p_cmps K Wd pN pn 400 u))) else k_nil)))) ∧ rO E f M r1 = f1 ∧ n = n1)) 0 0 (q_ge E) := by
  refine Met.ofW (cc := cX14_choice) (maxL := 6) (ret := none) (by decide) rfl ?_
  intro p e s m args below meth c s₁ B hml hv
  obtain ⟨rfl, hA, hW⟩ := hv
  have hx := B.exec
  have hb := B.bytes
  have hr := B.returns
  have hts := atoms_spec (ws := wsX14_choice) B.pre
  have hown : s.vm.findClass RX14 = some m.cls := findClass_of_methodNamed B.named
  have hlocks := B.notSynchronized
  have hS : va_S (q_ge E) s.heap s.heap [] := va_S.rf
  have iX13 : ∀ w ∈ wsX130, w ∈ wsX14_choice := by decide +kernel
  have iX14 : ∀ w ∈ wsX140, w ∈ wsX14_choice := by decide +kernel
  have hl := lv_entry ([.ref M, .int (nI k9)]) (n := 6) (Nat.le_of_ble_eq_true rfl)
  rw [lg_entry_eq]
  generalize (lg_sl ([.ref M, .int (nI k9)]) ++ List.replicate (6 - (lg_sl ([.ref M, .int (nI k9)])).length) Slot.unset).toArray = ls at hl ⊢
  have hl : lv_has ls 6 [(0, .ref M), (1, .int (nI k9))] := hl
  have hmE := hm.eq
  rw [hm.eq] at hW
  have Q0 := r_Q.rf hP
  have htk := hP.1.2.1
  have hnd := hP.1.2.2.2.1
  have hcc := hP.1.2.2.2.2.2.1
  have hac := hP.1.2.2.2.2.2.2.2
  have Q9 : r_Q r r K T u tk nd cc k9 tk nd cc ac := ⟨hP, r_G.rf, ⟨Nat.le_refl _, Nat.le_refl _, Nat.le_refl _, Nat.le_refl _, Nat.le_refl _, hk9⟩⟩
  refine lv_aload_n hx hb dX14_choice_0 rfl (lv_at hl 0 rfl) ?_
  refine q_get hx hb hts hown hA hW iX14 rO_0 rfl 18 (by decide) (hts (.fieldLink RX14 42 "HighRecipesModel" "fresh" "LHighRecipesModel$Book;") (by decide +kernel)) (fun _ h9 => h9) (v := .ref (M + 25)) rfl dX14_choice_1 ?_
  refine q_getN hx hb hts hown hA hW iX13 rO_25 rfl 13 (by decide) (va_Nw.use rfl (hA.2.2.2.1 ("HighRecipesModel", 194, "HighRecipesModel$Book", "compares", "I", "HighRecipesModel") (by decide +kernel))) (fun _ h9 => h9) (v := .int (nI cc)) (congrArg (fun z => some (Value.int z)) hP.1.2.2.2.2.1) dX14_choice_4 ?_
  refine lv_istore_n (lv' := [(2, .int (nI cc)), (0, .ref M), (1, .int (nI k9))]) hx hb dX14_choice_7 rfl hl (by decide) rfl (fun ls hl => ?_)
  refine lv_aload_n hx hb dX14_choice_8 rfl (lv_at hl 1 rfl) ?_
  refine q_cv (va_runV (As := []) (rest := []) ⟨hx, hb, hml, hown, hts⟩ (kX14_compare l E (rO E f M r) n M r K Wd T u tk nd cc ac pN pn rO_K hTK hT hKT hK41 Q9.1 hok (hnm.mv (Q9.2.1.1 6 (by decide) (by decide) (by decide))) hpn hpn9 hv8) (cwV 0 hts gX14_choice_X14_compare rfl rfl rfl (by decide +kernel) ⟨(by show 29 + 1 ≤ 4 * d0 + 41; omega), (by show 8 + (5 + 11) + 721 ≤ 100 * d0 + 1030; omega)⟩) (q_pV hA hW hS (ci := 12) rfl rO_0) rfl rfl hl.1 rfl (lv_room (Nat.le_of_ble_eq_true rfl)) dX14_choice_9 ⟨Nat.le_of_ble_eq_true rfl, Nat.le_of_ble_eq_true rfl⟩) hS (fun f_9 n_9 H locs hp hW hS => ?_)
  obtain ⟨R_9, tk_9, nd_9, cc_9, ac_9, q_9, e7_9, e8_9, ec_9, ex_9, rfl, rfl⟩ := hp
  have G_9 : p_go K T u (p_cmp K Wd pN pn u) := (go_cmp hKT)
  have GG_9 := G_9 hok
  have ok_9 := GG_9.1
  have le_9 := GG_9.2.2.2.1
  have er_9 := GG_9.2.2.2.2
  have Q_9 := Q9.trans q_9
  have T_9 := Q_9.tok hTK
  have num_9 := Q_9.2.2
  unfold r_num at num_9
  have bt_9 := Q_9.1.1.2.1
  have bn_9 := Q_9.1.1.2.2.2.1
  have bc_9 := Q_9.1.1.2.2.2.2.2.1
  have ba_9 := Q_9.1.1.2.2.2.2.2.2.2
  have qn_9 := q_9.2.2
  unfold r_num at qn_9
  have Gm9_9 : r_G R_9 R_9 nd_9 cc_9 k9 := r_G.rf
  have y35_9 : k9 < ac → R_9 35 k9 = r 35 k9 := fun h0 => (q_9.2.1.2.2.2 35 k9 (by decide) (by decide) (by omega)).trans ((fun _ => rfl) h0)
  have y28_9 : k9 < ac → R_9 28 k9 = r 28 k9 := fun h0 => (q_9.2.1.2.2.2 28 k9 (by decide) (by decide) (by omega)).trans ((fun _ => rfl) h0)
  have h8_9 : (p_cmp K Wd pN pn u).2.1 ≠ 40 → R_9 108 0 = nI (4 - 4) := fun z => (e8_9 z).trans ((fun _ => hv8) (le_9 z))
  rw [rO_rO] at hW
  have hW : q_W E (rO E f M R_9) n H := hW
  have K12 : ∀ (fu : Nat) (R_9 : q_R) (s9 : p_S) (m9 : Nat) (tk_9 : Nat) (nd_9 : Nat) (cc_9 : Nat) (ac_9 : Nat) (C9 : q_V → q_V → Bool) (Q_9 : r_Q r R_9 K T s9 tk nd cc k9 tk_9 nd_9 cc_9 ac_9) (ok_9 : p_ok K T s9) (eac_9 : ac_9 = ac) (e7_9 : R_9 107 0 = r 107 0) (e8_9 : s9.2.1 ≠ 40 → R_9 108 0 = r 108 0) (h8_9 : s9.2.1 ≠ 40 → R_9 108 0 = nI (4 - 4)) (y35_9 : k9 < ac → R_9 35 k9 = r 35 k9) (y28_9 : k9 < ac → R_9 28 k9 = r 28 k9) (hm9 : s9.2.1 ≠ 40 → 400 ≤ m9 + s9.1) (hU9 : (p_cmps K Wd pN pn 400 u) = (if s9.2.1 = 17 then p_cmps K Wd pN pn m9 (p_take K 17 s9) else s9)) (hC9 : p_cmpsC K Wd pN pn 400 u (fun _ _ => true) = (if s9.2.1 = 17 then p_cmpsC K Wd pN pn m9 (p_take K 17 s9) C9 else C9)) (hle9 : p_le u s9) (hc9 : s9.2.1 ≠ 40 → s9.2.2.1 = 0 → ∃ mc, cc_9 = cc + mc ∧ mC (bR R_9 25) pn nd_9 cc mc C9) (hm : m9 < fu) (H : Heap) (locs : List Loc) (ls : Array Slot), q_W E (rO E f M R_9) n H → va_S (q_ge E) s.heap H locs → lv_has ls 6 [(0, .ref M), (1, .int (nI k9)), (2, .int (nI cc))] → W p l e (headSpec wsX14_choice ({ frames := 4 * d0 + 41, cells := 0, slots := 0, locals := 100 * d0 + 1030 })).room s m ([.ref M, .int (nI k9)] : List Value).toArray below meth c H locs 0 0 (MQ below (q_Qv E (fun f1 n1 => ∃ (r1 : q_R) (tk1 nd1 cc1 ac1 : Nat), r_Q r r1 K T (p_else K (p_blk K Wd pN pn rN rc d0) (p_blk K Wd pN pn rN rc d0 (p_cmps K Wd pN pn 400 u))) tk nd cc k9 tk1 nd1 cc1 ac1 ∧ r1 107 0 = r 107 0 ∧ ((p_else K (p_blk K Wd pN pn rN rc d0) (p_blk K Wd pN pn rN rc d0 (p_cmps K Wd pN pn 400 u))).2.1 ≠ 40 → r1 108 0 = r 108 0) ∧ (ac ≤ ac1) ∧ ((k9 < ac → r1 35 k9 = r 35 k9 ∧ r1 28 k9 = r 28 k9) ∧ (k9 < ac → (p_else K (p_blk K Wd pN pn rN rc d0) (p_blk K Wd pN pn rN rc d0 (p_cmps K Wd pN pn 400 u))).2.1 ≠ 40 → (p_else K (p_blk K Wd pN pn rN rc d0) (p_blk K Wd pN pn rN rc d0 (p_cmps K Wd pN pn 400 u))).2.2.1 = 0 → ∃ mc, r1 31 k9 = nI cc ∧ r1 32 k9 = nI (cc + mc) ∧ cc + mc ≤ cc1 ∧ mC (bR r1 25) pn nd1 cc mc (p_cmpsC K Wd pN pn 400 u (fun _ _ => true)) ∧ (∃ m, mL (bR r1 25) ac ac1 (mA (bR r1 25) pn nd1 cc1 ac1 RS rc d0) m (r1 33 k9) (p_blkS K Wd pN pn rN rc RS d0 (p_cmps K Wd pN pn 400 u))) ∧ (∃ m, mL (bR r1 25) ac ac1 (mA (bR r1 25) pn nd1 cc1 ac1 RS rc d0) m (r1 34 k9) (if (p_blk K Wd pN pn rN rc d0 (p_cmps K Wd pN pn 400 u)).2.1 = 18 then p_blkS K Wd pN pn rN rc RS d0 (p_take K 18 (p_blk K Wd pN pn rN rc d0 (p_cmps K Wd pN pn 400 u))) else k_nil)))) ∧ rO E f M r1 = f1 ∧ n = n1)) ([.ref M, .int (nI k9)] : List Value).toArray s 0 0 (q_ge E)) (F0 m 12 ls []) := by
    intro fu
    induction fu with
    | zero =>
      intro R_9 s9 m9 tk_9 nd_9 cc_9 ac_9 C9 Q_9 ok_9 eac_9 e7_9 e8_9 h8_9 y35_9 y28_9 hm9 hU9 hC9 hle9 hc9 hm
      exact absurd hm (Nat.not_lt_zero _)
    | succ fu ih =>
      intro R_9 s9 m9 tk_9 nd_9 cc_9 ac_9 C9 Q_9 ok_9 eac_9 e7_9 e8_9 h8_9 y35_9 y28_9 hm9 hU9 hC9 hle9 hc9 hm H locs ls hW hS hl
      have T_9 := Q_9.tok hTK
      have num_9 := Q_9.2.2
      unfold r_num at num_9
      have bt_9 := Q_9.1.1.2.1
      have bn_9 := Q_9.1.1.2.2.2.1
      have bc_9 := Q_9.1.1.2.2.2.2.2.1
      have ba_9 := Q_9.1.1.2.2.2.2.2.2.2
      have k109_9 := (congrFun (Q_9.2.1.1 109 (by decide) (by decide) (by decide)) 0).trans hrc9
      have k130_9 := (congrFun (Q_9.2.1.1 130 (by decide) (by decide) (by decide)) 0).trans hpn9
      refine lv_aload_n hx hb dX14_choice_12 rfl (lv_at hl 0 rfl) ?_
      refine lv_bipush (v := 17) hx hb dX14_choice_13 (by decide) ?_
      rcases Decidable.em (s9.2.1 = 17) with e17 | e17
      · refine q_ci (va_runV (As := [.int 17]) (rest := []) ⟨hx, hb, hml, hown, hts⟩ (kX14_takesT l E (rO E f M R_9) n M R_9 K Wd T s9 tk_9 nd_9 cc_9 ac_9 17 17 rO_K T_9 hT hKT hK41 Q_9.1 ok_9 rfl (by decide) e17) (cwV 1 hts gX14_choice_X14_takes rfl rfl rfl (by decide +kernel) ⟨(by show 1 + 1 ≤ 4 * d0 + 41; omega), (by show 8 + (2 + 11) + 21 ≤ 100 * d0 + 1030; omega)⟩) (q_pV hA hW hS (ci := 12) rfl rO_0) rfl rfl hl.1 rfl (lv_room (Nat.le_of_ble_eq_true rfl)) dX14_choice_15 ⟨Nat.le_of_ble_eq_true rfl, Nat.le_of_ble_eq_true rfl⟩) hS (fun r_15 f_15 n_15 H locs hp hW hS => ?_)
        obtain ⟨R_15, tk_15, nd_15, cc_15, ac_15, q_15, e7_15, e8_15, ec_15, ex_15, rfl, rfl⟩ := hp
        have G_15 : p_go K T s9 (p_step K true s9) := (go_step hKT (fun _ => by show s9.2.1 < 39; omega))
        have GG_15 := G_15 ok_9
        have ok_15 := GG_15.1
        have le_15 := GG_15.2.2.2.1
        have er_15 := GG_15.2.2.2.2
        have Q_15 := Q_9.trans q_15
        have T_15 := Q_15.tok hTK
        have num_15 := Q_15.2.2
        unfold r_num at num_15
        have bt_15 := Q_15.1.1.2.1
        have bn_15 := Q_15.1.1.2.2.2.1
        have bc_15 := Q_15.1.1.2.2.2.2.2.1
        have ba_15 := Q_15.1.1.2.2.2.2.2.2.2
        have qn_15 := q_15.2.2
        unfold r_num at qn_15
        have Gm9_15 := (r_G.rf : r_G R_9 R_9 nd_9 cc_9 k9).trans q_15.2.1 (by omega) (by omega) (by omega)
        have y35_15 : k9 < ac → R_15 35 k9 = r 35 k9 := fun h0 => (q_15.2.1.2.2.2 35 k9 (by decide) (by decide) (by omega)).trans (y35_9 h0)
        have y28_15 : k9 < ac → R_15 28 k9 = r 28 k9 := fun h0 => (q_15.2.1.2.2.2 28 k9 (by decide) (by decide) (by omega)).trans (y28_9 h0)
        have h8_15 : (p_step K true s9).2.1 ≠ 40 → R_15 108 0 = nI (4 - 4) := fun z => (e8_15).trans (h8_9 (le_15 z))
        obtain ⟨ex_15, ey_15⟩ := ex_15
        subst ey_15
        rw [rO_rO] at hW
        have hW : q_W E (rO E f M R_15) n H := hW
        have h8u := (e8_15.trans (e8_9 (by omega))).trans hv8
        have eT : p_take K 17 s9 = p_step K true s9 := by unfold p_take; rw [decide_eq_true e17]
        rw [← eT] at Q_15 ok_15 GG_15 le_15 er_15 h8_15
        have ok17 := ok_15
        have hm8 : 1 ≤ m9 := by have h6 := hm9 (by omega); have h5 := Q_9.1.nw (by omega); rcases Nat.lt_or_ge s9.1 400 with h4 | h4; omega; exact absurd (show K T = 17 from by rw [show T = s9.1 by omega, ← h5.2.2.1]; exact e17) (by omega)
        obtain ⟨m8, rfl⟩ : ∃ m8, m9 = m8 + 1 := ⟨m9 - 1, by omega⟩
        refine lv_if_eq (tgt := 28) hx hb dX14_choice_18 (by decide) (fun c_18 => False.elim ((fun h9 => absurd h9 (by decide)) c_18)) (fun c_18 => ?_)
        refine lv_aload_n hx hb dX14_choice_21 rfl (lv_at hl 0 rfl) ?_
        refine q_cv (va_runV (As := []) (rest := []) ⟨hx, hb, hml, hown, hts⟩ (kX14_compare l E (rO E f M R_15) n M R_15 K Wd T (p_take K 17 s9) tk_15 nd_15 cc_15 ac_15 pN pn rO_K T_15 hT hKT hK41 Q_15.1 ok_15 (hnm.mv (Q_15.2.1.1 6 (by decide) (by decide) (by decide))) hpn ((congrFun (q_15.2.1.1 130 (by decide) (by decide) (by decide)) 0).trans k130_9) h8u) (cwV 0 hts gX14_choice_X14_compare rfl rfl rfl (by decide +kernel) ⟨(by show 29 + 1 ≤ 4 * d0 + 41; omega), (by show 8 + (5 + 11) + 721 ≤ 100 * d0 + 1030; omega)⟩) (q_pV hA hW hS (ci := 12) rfl rO_0) rfl rfl hl.1 rfl (lv_room (Nat.le_of_ble_eq_true rfl)) dX14_choice_22 ⟨Nat.le_of_ble_eq_true rfl, Nat.le_of_ble_eq_true rfl⟩) hS (fun f_22 n_22 H locs hp hW hS => ?_)
        obtain ⟨R_22, tk_22, nd_22, cc_22, ac_22, q_22, e7_22, e8_22, ec_22, ex_22, rfl, rfl⟩ := hp
        have G_22 : p_go K T (p_take K 17 s9) (p_cmp K Wd pN pn (p_take K 17 s9)) := (go_cmp hKT)
        have GG_22 := G_22 ok_15
        have ok_22 := GG_22.1
        have le_22 := GG_22.2.2.2.1
        have er_22 := GG_22.2.2.2.2
        have Q_22 := Q_15.trans q_22
        have T_22 := Q_22.tok hTK
        have num_22 := Q_22.2.2
        unfold r_num at num_22
        have bt_22 := Q_22.1.1.2.1
        have bn_22 := Q_22.1.1.2.2.2.1
        have bc_22 := Q_22.1.1.2.2.2.2.2.1
        have ba_22 := Q_22.1.1.2.2.2.2.2.2.2
        have qn_22 := q_22.2.2
        unfold r_num at qn_22
        have Gm9_22 := Gm9_15.trans q_22.2.1 (by omega) (by omega) (by omega)
        have y35_22 : k9 < ac → R_22 35 k9 = r 35 k9 := fun h0 => (q_22.2.1.2.2.2 35 k9 (by decide) (by decide) (by omega)).trans (y35_15 h0)
        have y28_22 : k9 < ac → R_22 28 k9 = r 28 k9 := fun h0 => (q_22.2.1.2.2.2 28 k9 (by decide) (by decide) (by omega)).trans (y28_15 h0)
        have h8_22 : (p_cmp K Wd pN pn (p_take K 17 s9)).2.1 ≠ 40 → R_22 108 0 = nI (4 - 4) := fun z => (e8_22 z).trans (h8_15 (le_22 z))
        rw [rO_rO] at hW
        have hW : q_W E (rO E f M R_22) n H := hW
        refine lv_goto (tgt := 12) hx hb dX14_choice_25 (by decide) ?_
        exact ih R_22 (p_cmp K Wd pN pn (p_take K 17 s9)) m8 tk_22 nd_22 cc_22 ac_22 (p_cmpC K Wd pN pn (p_take K 17 s9) C9) Q_22 ok_22 (ec_22.trans (ec_15.2.trans eac_9)) (e7_22.trans (e7_15.trans e7_9)) (fun z => (e8_22 z).trans ((fun z => e8_15.trans (e8_9 (le_15 z))) (le_22 z))) h8_22 y35_22 y28_22 (fun h9 => by have h7 := cmp_tk hKT ok17 h9; have h6 := hm9 (by omega); have h5 : (p_take K 17 s9).1 = s9.1 + 1 := (by unfold p_take p_step; rw [decide_eq_true e17, if_pos rfl]); omega) (hU9.trans (by rw [if_pos e17]; rfl)) (hC9.trans (by rw [if_pos e17]; rfl)) (hle9.trans (GG_15.2.trans GG_22.2)) (fun h1 h2 => by obtain ⟨z1, z2, kd, x, y, D1, D2, a1, a2, a3, a4, a5, a6, a7, a8⟩ := ex_22 h1 h2; obtain ⟨mc, b1, b2⟩ := hc9 (by omega) (er_15 (er_22 h2)); have z3 : cc_15 = cc + mc := (ec_15.1).trans b1; exact ⟨mc + 1, by omega, kd, x, y, D1, D2, C9, by rw [← z3]; exact a1, a2, a3, by rw [← z3]; exact a4, by rw [← z3]; exact a5, a6, a7, mC_G b2 Gm9_22 (by omega) (by omega), a8 _⟩) (by omega) _ _ _ hW hS (lv_sub hl [0, 1, 2] rfl)
      · refine q_ci (va_runV (As := [.int 17]) (rest := []) ⟨hx, hb, hml, hown, hts⟩ (kX14_takesF l E (rO E f M R_9) n M R_9 K Wd T s9 tk_9 nd_9 cc_9 ac_9 17 17 rO_K T_9 hT hKT hK41 Q_9.1 ok_9 rfl (by decide) e17) (cwV 1 hts gX14_choice_X14_takes rfl rfl rfl (by decide +kernel) ⟨(by show 1 + 1 ≤ 4 * d0 + 41; omega), (by show 8 + (2 + 11) + 21 ≤ 100 * d0 + 1030; omega)⟩) (q_pV hA hW hS (ci := 12) rfl rO_0) rfl rfl hl.1 rfl (lv_room (Nat.le_of_ble_eq_true rfl)) dX14_choice_15 ⟨Nat.le_of_ble_eq_true rfl, Nat.le_of_ble_eq_true rfl⟩) hS (fun r_15 f_15 n_15 H locs hp hW hS => ?_)
        obtain ⟨rfl, rfl, rfl⟩ := hp
        have hW : q_W E (rO E f M R_9) n H := hW
        refine lv_if_eq (tgt := 28) hx hb dX14_choice_18 (by decide) (fun c_18 => ?_) (fun c_18 => False.elim ((fun h9 => h9 rfl) c_18))
        have eU9 : s9 = (p_cmps K Wd pN pn 400 u) := by rw [hU9, if_neg e17]
        have eC9 : C9 = p_cmpsC K Wd pN pn 400 u (fun _ _ => true) := by rw [hC9, if_neg e17]
        rw [eU9] at Q_9 ok_9 e8_9 h8_9 hle9 hc9; rw [eC9] at hc9
        refine lv_aload_n hx hb dX14_choice_28 rfl (lv_at hl 0 rfl) ?_
        refine q_get hx hb hts hown hA hW iX14 rO_0 rfl 18 (by decide) (hts (.fieldLink RX14 42 "HighRecipesModel" "fresh" "LHighRecipesModel$Book;") (by decide +kernel)) (fun _ h9 => h9) (v := .ref (M + 25)) rfl dX14_choice_29 ?_
        refine q_getN hx hb hts hown hA hW iX13 rO_25 rfl 13 (by decide) (va_Nw.use rfl (hA.2.2.2.1 ("HighRecipesModel", 194, "HighRecipesModel$Book", "compares", "I", "HighRecipesModel") (by decide +kernel))) (fun _ h9 => h9) (v := .int (nI cc_9)) (congrArg (fun z => some (Value.int z)) Q_9.1.1.2.2.2.2.1) dX14_choice_32 ?_
        refine lv_istore_n (lv' := [(3, .int (nI cc_9)), (0, .ref M), (1, .int (nI k9)), (2, .int (nI cc))]) hx hb dX14_choice_35 rfl hl (by decide) rfl (fun ls hl => ?_)
        refine lv_aload_n hx hb dX14_choice_36 rfl (lv_at hl 1 rfl) ?_
        refine q_ci (va_runV (As := []) (rest := []) ⟨hx, hb, hml, hown, hts⟩ (ihB (rO E f M R_9) n M R_9 K Wd T (p_cmps K Wd pN pn 400 u) tk_9 nd_9 cc_9 ac_9 pN pn rN rc rO_K T_9 hT hKT hK41 Q_9.1 ok_9 (hnm.mv (Q_9.2.1.1 6 (by decide) (by decide) (by decide))) hpn k130_9 (hnr.mv (Q_9.2.1.1 7 (by decide) (by decide) (by decide))) hrc k109_9 (e7_9.trans hv7) h8_9 (by omega)) (cwV 0 hts gX14_choice_X14_block rfl rfl rfl (by decide +kernel) ⟨(by show (4 * d0 + 40) + 1 ≤ 4 * d0 + 41; omega), (by show 8 + (4 + 11) + (100 * d0 + 1000) ≤ 100 * d0 + 1030; omega)⟩) (q_pV hA hW hS (ci := 12) rfl rO_0) rfl rfl hl.1 rfl (lv_room (Nat.le_of_ble_eq_true rfl)) dX14_choice_37 ⟨Nat.le_of_ble_eq_true rfl, Nat.le_of_ble_eq_true rfl⟩) hS (fun r_37 f_37 n_37 H locs hp hW hS => ?_)
        obtain ⟨R_37, tk_37, nd_37, cc_37, ac_37, q_37, e7_37, e8_37, ec_37, ex_37, rfl, rfl⟩ := hp
        have G_37 : p_go K T (p_cmps K Wd pN pn 400 u) (p_blk K Wd pN pn rN rc d0 (p_cmps K Wd pN pn 400 u)) := (go_blk hKT d0 _)
        have GG_37 := G_37 ok_9
        have ok_37 := GG_37.1
        have le_37 := GG_37.2.2.2.1
        have er_37 := GG_37.2.2.2.2
        have Q_37 := Q_9.trans q_37
        have T_37 := Q_37.tok hTK
        have num_37 := Q_37.2.2
        unfold r_num at num_37
        have bt_37 := Q_37.1.1.2.1
        have bn_37 := Q_37.1.1.2.2.2.1
        have bc_37 := Q_37.1.1.2.2.2.2.2.1
        have ba_37 := Q_37.1.1.2.2.2.2.2.2.2
        have qn_37 := q_37.2.2
        unfold r_num at qn_37
        have Gm9_37 := (r_G.rf : r_G R_9 R_9 nd_9 cc_9 k9).trans q_37.2.1 (by omega) (by omega) (by omega)
        have Gm37_37 : r_G R_37 R_37 nd_37 cc_37 k9 := r_G.rf
        have y35_37 : k9 < ac → R_37 35 k9 = r 35 k9 := fun h0 => (q_37.2.1.2.2.2 35 k9 (by decide) (by decide) (by omega)).trans (y35_9 h0)
        have y28_37 : k9 < ac → R_37 28 k9 = r 28 k9 := fun h0 => (q_37.2.1.2.2.2 28 k9 (by decide) (by decide) (by omega)).trans (y28_9 h0)
        have h8_37 : (p_blk K Wd pN pn rN rc d0 (p_cmps K Wd pN pn 400 u)).2.1 ≠ 40 → R_37 108 0 = nI (4 - 4) := fun z => (e8_37 z).trans (h8_9 (le_37 z))
        rw [rO_rO] at hW
        have hW : q_W E (rO E f M R_37) n H := hW
        refine lv_istore (lv' := [(4, .int r_37), (3, .int (nI cc_9)), (0, .ref M), (1, .int (nI k9)), (2, .int (nI cc))]) hx hb dX14_choice_40 hl (by decide) rfl (fun ls hl => ?_)
        refine lv_aload_n hx hb dX14_choice_42 rfl (lv_at hl 2 rfl) ?_
        refine lv_bipush (v := 18) hx hb dX14_choice_43 (by decide) ?_
        rcases Decidable.em ((p_blk K Wd pN pn rN rc d0 (p_cmps K Wd pN pn 400 u)).2.1 = 18) with e18 | e18
        · refine q_ci (va_runV (As := [.int 18]) (rest := []) ⟨hx, hb, hml, hown, hts⟩ (kX14_takesT l E (rO E f M R_37) n M R_37 K Wd T (p_blk K Wd pN pn rN rc d0 (p_cmps K Wd pN pn 400 u)) tk_37 nd_37 cc_37 ac_37 18 18 rO_K T_37 hT hKT hK41 Q_37.1 ok_37 rfl (by decide) e18) (cwV 1 hts gX14_choice_X14_takes rfl rfl rfl (by decide +kernel) ⟨(by show 1 + 1 ≤ 4 * d0 + 41; omega), (by show 8 + (2 + 11) + 21 ≤ 100 * d0 + 1030; omega)⟩) (q_pV hA hW hS (ci := 12) rfl rO_0) rfl rfl hl.1 rfl (lv_room (Nat.le_of_ble_eq_true rfl)) dX14_choice_45 ⟨Nat.le_of_ble_eq_true rfl, Nat.le_of_ble_eq_true rfl⟩) hS (fun r_45 f_45 n_45 H locs hp hW hS => ?_)
          obtain ⟨R_45, tk_45, nd_45, cc_45, ac_45, q_45, e7_45, e8_45, ec_45, ex_45, rfl, rfl⟩ := hp
          have G_45 : p_go K T (p_blk K Wd pN pn rN rc d0 (p_cmps K Wd pN pn 400 u)) (p_step K true (p_blk K Wd pN pn rN rc d0 (p_cmps K Wd pN pn 400 u))) := (go_step hKT (fun _ => by omega))
          have GG_45 := G_45 ok_37
          have ok_45 := GG_45.1
          have le_45 := GG_45.2.2.2.1
          have er_45 := GG_45.2.2.2.2
          have Q_45 := Q_37.trans q_45
          have T_45 := Q_45.tok hTK
          have num_45 := Q_45.2.2
          unfold r_num at num_45
          have bt_45 := Q_45.1.1.2.1
          have bn_45 := Q_45.1.1.2.2.2.1
          have bc_45 := Q_45.1.1.2.2.2.2.2.1
          have ba_45 := Q_45.1.1.2.2.2.2.2.2.2
          have qn_45 := q_45.2.2
          unfold r_num at qn_45
          have Gm9_45 := Gm9_37.trans q_45.2.1 (by omega) (by omega) (by omega)
          have Gm37_45 := Gm37_37.trans q_45.2.1 (by omega) (by omega) (by omega)
          have y35_45 : k9 < ac → R_45 35 k9 = r 35 k9 := fun h0 => (q_45.2.1.2.2.2 35 k9 (by decide) (by decide) (by omega)).trans (y35_37 h0)
          have y28_45 : k9 < ac → R_45 28 k9 = r 28 k9 := fun h0 => (q_45.2.1.2.2.2 28 k9 (by decide) (by decide) (by omega)).trans (y28_37 h0)
          have h8_45 : (p_step K true (p_blk K Wd pN pn rN rc d0 (p_cmps K Wd pN pn 400 u))).2.1 ≠ 40 → R_45 108 0 = nI (4 - 4) := fun z => (e8_45).trans (h8_37 (le_45 z))
          obtain ⟨ex_45, ey_45⟩ := ex_45
          subst ey_45
          rw [rO_rO] at hW
          have hW : q_W E (rO E f M R_45) n H := hW
          have eT : p_take K 18 (p_blk K Wd pN pn rN rc d0 (p_cmps K Wd pN pn 400 u)) = p_step K true (p_blk K Wd pN pn rN rc d0 (p_cmps K Wd pN pn 400 u)) := by unfold p_take; rw [decide_eq_true e18]
          rw [← eT] at Q_45 ok_45 GG_45 le_45 er_45 h8_45
          refine lv_if_eq (tgt := 58) hx hb dX14_choice_48 (by decide) (fun c_48 => False.elim ((fun h9 => absurd h9 (by decide)) c_48)) (fun c_48 => ?_)
          refine lv_aload_n hx hb dX14_choice_51 rfl (lv_at hl 2 rfl) ?_
          refine q_ci (va_runV (As := []) (rest := []) ⟨hx, hb, hml, hown, hts⟩ (ihB (rO E f M R_45) n M R_45 K Wd T (p_take K 18 (p_blk K Wd pN pn rN rc d0 (p_cmps K Wd pN pn 400 u))) tk_45 nd_45 cc_45 ac_45 pN pn rN rc rO_K T_45 hT hKT hK41 Q_45.1 ok_45 (hnm.mv (Q_45.2.1.1 6 (by decide) (by decide) (by decide))) hpn ((congrFun (q_45.2.1.1 130 (by decide) (by decide) (by decide)) 0).trans ((congrFun (q_37.2.1.1 130 (by decide) (by decide) (by decide)) 0).trans k130_9)) (hnr.mv (Q_45.2.1.1 7 (by decide) (by decide) (by decide))) hrc ((congrFun (q_45.2.1.1 109 (by decide) (by decide) (by decide)) 0).trans ((congrFun (q_37.2.1.1 109 (by decide) (by decide) (by decide)) 0).trans k109_9)) (e7_45.trans (e7_37.trans (e7_9.trans hv7))) h8_45 (by omega)) (cwV 0 hts gX14_choice_X14_block rfl rfl rfl (by decide +kernel) ⟨(by show (4 * d0 + 40) + 1 ≤ 4 * d0 + 41; omega), (by show 8 + (4 + 11) + (100 * d0 + 1000) ≤ 100 * d0 + 1030; omega)⟩) (q_pV hA hW hS (ci := 12) rfl rO_0) rfl rfl hl.1 rfl (lv_room (Nat.le_of_ble_eq_true rfl)) dX14_choice_52 ⟨Nat.le_of_ble_eq_true rfl, Nat.le_of_ble_eq_true rfl⟩) hS (fun r_52 f_52 n_52 H locs hp hW hS => ?_)
          obtain ⟨R_52, tk_52, nd_52, cc_52, ac_52, q_52, e7_52, e8_52, ec_52, ex_52, rfl, rfl⟩ := hp
          have G_52 : p_go K T (p_take K 18 (p_blk K Wd pN pn rN rc d0 (p_cmps K Wd pN pn 400 u))) (p_blk K Wd pN pn rN rc d0 (p_take K 18 (p_blk K Wd pN pn rN rc d0 (p_cmps K Wd pN pn 400 u)))) := (go_blk hKT d0 _)
          have GG_52 := G_52 ok_45
          have ok_52 := GG_52.1
          have le_52 := GG_52.2.2.2.1
          have er_52 := GG_52.2.2.2.2
          have Q_52 := Q_45.trans q_52
          have T_52 := Q_52.tok hTK
          have num_52 := Q_52.2.2
          unfold r_num at num_52
          have bt_52 := Q_52.1.1.2.1
          have bn_52 := Q_52.1.1.2.2.2.1
          have bc_52 := Q_52.1.1.2.2.2.2.2.1
          have ba_52 := Q_52.1.1.2.2.2.2.2.2.2
          have qn_52 := q_52.2.2
          unfold r_num at qn_52
          have Gm9_52 := Gm9_45.trans q_52.2.1 (by omega) (by omega) (by omega)
          have Gm37_52 := Gm37_45.trans q_52.2.1 (by omega) (by omega) (by omega)
          have Gm52_52 : r_G R_52 R_52 nd_52 cc_52 k9 := r_G.rf
          have y35_52 : k9 < ac → R_52 35 k9 = r 35 k9 := fun h0 => (q_52.2.1.2.2.2 35 k9 (by decide) (by decide) (by omega)).trans (y35_45 h0)
          have y28_52 : k9 < ac → R_52 28 k9 = r 28 k9 := fun h0 => (q_52.2.1.2.2.2 28 k9 (by decide) (by decide) (by omega)).trans (y28_45 h0)
          have h8_52 : (p_blk K Wd pN pn rN rc d0 (p_take K 18 (p_blk K Wd pN pn rN rc d0 (p_cmps K Wd pN pn 400 u)))).2.1 ≠ 40 → R_52 108 0 = nI (4 - 4) := fun z => (e8_52 z).trans (h8_45 (le_52 z))
          rw [rO_rO] at hW
          have hW : q_W E (rO E f M R_52) n H := hW
          refine lv_goto (tgt := 59) hx hb dX14_choice_55 (by decide) ?_
          refine lv_istore (lv' := [(5, .int r_52), (4, .int r_37), (3, .int (nI cc_9)), (0, .ref M), (1, .int (nI k9)), (2, .int (nI cc))]) hx hb dX14_choice_59 hl (by decide) rfl (fun ls hl => ?_)
          refine lv_aload_n hx hb dX14_choice_61 rfl (lv_at hl 3 rfl) ?_
          refine q_get hx hb hts hown hA hW iX14 rO_0 rfl 18 (by decide) (hts (.fieldLink RX14 42 "HighRecipesModel" "fresh" "LHighRecipesModel$Book;") (by decide +kernel)) (fun _ h9 => h9) (v := .ref (M + 25)) rfl dX14_choice_62 ?_
          refine q_getN hx hb hts hown hA hW iX13 rO_25 rfl 8 (by decide) (va_Nw.use rfl (hA.2.2.2.1 ("HighRecipesModel", 244, "HighRecipesModel$Book", "from", "[I", "HighRecipesModel") (by decide +kernel))) (fun _ h9 => h9) (v := .ref (M + 31)) rfl dX14_choice_65 ?_
          refine lv_iload_n hx hb dX14_choice_68 rfl (lv_at hl 4 rfl) ?_
          refine lv_iload_n hx hb dX14_choice_69 rfl (lv_at hl 5 rfl) ?_
          refine q_ast hx hb hA hW hS (rO_31 (g := R_52 31) rfl) k9 rfl (by omega) (by decide) dX14_choice_70 (fun H locs hW hS => ?_)
          have hW := q_sa 31 hW rfl rfl
          refine lv_aload_n hx hb dX14_choice_71 rfl (lv_at hl 3 rfl) ?_
          refine q_get hx hb hts hown hA hW iX14 rO_0 rfl 18 (by decide) (hts (.fieldLink RX14 42 "HighRecipesModel" "fresh" "LHighRecipesModel$Book;") (by decide +kernel)) (fun _ h9 => h9) (v := .ref (M + 25)) rfl dX14_choice_72 ?_
          refine q_getN hx hb hts hown hA hW iX13 rO_25 rfl 9 (by decide) (va_Nw.use rfl (hA.2.2.2.1 ("HighRecipesModel", 247, "HighRecipesModel$Book", "to", "[I", "HighRecipesModel") (by decide +kernel))) (fun _ h9 => h9) (v := .ref (M + 32)) rfl dX14_choice_75 ?_
          refine lv_iload_n hx hb dX14_choice_78 rfl (lv_at hl 4 rfl) ?_
          refine lv_iload_n hx hb dX14_choice_79 rfl (lv_at hl 2 rfl) ?_
          refine q_ast hx hb hA hW hS (rO_32 (g := R_52 32) rfl) k9 rfl (by omega) (by decide) dX14_choice_80 (fun H locs hW hS => ?_)
          have hW := q_sa 32 hW rfl rfl
          refine lv_aload_n hx hb dX14_choice_81 rfl (lv_at hl 3 rfl) ?_
          refine q_get hx hb hts hown hA hW iX14 rO_0 rfl 18 (by decide) (hts (.fieldLink RX14 42 "HighRecipesModel" "fresh" "LHighRecipesModel$Book;") (by decide +kernel)) (fun _ h9 => h9) (v := .ref (M + 25)) rfl dX14_choice_82 ?_
          refine q_getN hx hb hts hown hA hW iX13 rO_25 rfl 10 (by decide) (va_Nw.use rfl (hA.2.2.2.1 ("HighRecipesModel", 221, "HighRecipesModel$Book", "block", "[I", "HighRecipesModel") (by decide +kernel))) (fun _ h9 => h9) (v := .ref (M + 33)) rfl dX14_choice_85 ?_
          refine lv_iload_n hx hb dX14_choice_88 rfl (lv_at hl 4 rfl) ?_
          refine lv_iload hx hb dX14_choice_89 (lv_at hl 1 rfl) ?_
          refine q_ast hx hb hA hW hS (rO_33 (g := R_52 33) rfl) k9 rfl (by omega) (by decide) dX14_choice_91 (fun H locs hW hS => ?_)
          have hW := q_sa 33 hW rfl rfl
          refine lv_aload_n hx hb dX14_choice_92 rfl (lv_at hl 3 rfl) ?_
          refine q_get hx hb hts hown hA hW iX14 rO_0 rfl 18 (by decide) (hts (.fieldLink RX14 42 "HighRecipesModel" "fresh" "LHighRecipesModel$Book;") (by decide +kernel)) (fun _ h9 => h9) (v := .ref (M + 25)) rfl dX14_choice_93 ?_
          refine q_getN hx hb hts hown hA hW iX13 rO_25 rfl 11 (by decide) (va_Nw.use rfl (hA.2.2.2.1 ("HighRecipesModel", 224, "HighRecipesModel$Book", "other", "[I", "HighRecipesModel") (by decide +kernel))) (fun _ h9 => h9) (v := .ref (M + 34)) rfl dX14_choice_96 ?_
          refine lv_iload_n hx hb dX14_choice_99 rfl (lv_at hl 4 rfl) ?_
          refine lv_iload hx hb dX14_choice_100 (lv_at hl 0 rfl) ?_
          refine q_ast hx hb hA hW hS (rO_34 (g := R_52 34) rfl) k9 rfl (by omega) (by decide) dX14_choice_102 (fun H locs hW hS => ?_)
          have hW := q_sa 34 hW rfl rfl
          obtain ⟨R_103, hR_103⟩ : ∃ z, z = rp (rp (rp (rp R_52 31 (upd (R_52 31) k9 (nI cc))) 32 (upd (R_52 32) k9 (nI cc_9))) 33 (upd (R_52 33) k9 r_37)) 34 (upd (R_52 34) k9 r_52) := ⟨_, rfl⟩
          rw [← hR_103] at hW
          have Q_103 : r_Q r R_103 K T (p_blk K Wd pN pn rN rc d0 (p_take K 18 (p_blk K Wd pN pn rN rc d0 (p_cmps K Wd pN pn 400 u)))) tk nd cc k9 tk_52 nd_52 cc_52 ac_52 := by rw [hR_103]; exact ((((Q_52.st (by decide) (by omega)).st (by decide) (by omega)).st (by decide) (by omega)).st (by decide) (by omega))
          have T_103 := Q_103.tok hTK
          have num_103 := Q_103.2.2
          unfold r_num at num_103
          have bt_103 := Q_103.1.1.2.1
          have bn_103 := Q_103.1.1.2.2.2.1
          have bc_103 := Q_103.1.1.2.2.2.2.2.1
          have ba_103 := Q_103.1.1.2.2.2.2.2.2.2
          have Gm9_103 : r_G R_9 R_103 nd_9 cc_9 k9 := by rw [hR_103]; exact (r_G.upA (r_G.upA (r_G.upA (r_G.upA Gm9_52 (by omega)) (by omega)) (by omega)) (by omega))
          have Gm37_103 : r_G R_37 R_103 nd_37 cc_37 k9 := by rw [hR_103]; exact (r_G.upA (r_G.upA (r_G.upA (r_G.upA Gm37_52 (by omega)) (by omega)) (by omega)) (by omega))
          have Gm52_103 : r_G R_52 R_103 nd_52 cc_52 k9 := by rw [hR_103]; exact (r_G.upA (r_G.upA (r_G.upA (r_G.upA Gm52_52 (by omega)) (by omega)) (by omega)) (by omega))
          have y35_103 : k9 < ac → R_103 35 k9 = r 35 k9 := fun h0 => by rw [hR_103]; exact y35_52 h0
          have y28_103 : k9 < ac → R_103 28 k9 = r 28 k9 := fun h0 => by rw [hR_103]; exact y28_52 h0
          have y31_103 : k9 < ac → R_103 31 k9 = nI cc := fun _ => by rw [hR_103]; exact st_row (r := R_52) (j := 31) (q0 := k9) (x := nI cc)
          have y32_103 : k9 < ac → R_103 32 k9 = nI cc_9 := fun _ => by rw [hR_103]; exact st_row (r := R_52) (j := 32) (q0 := k9) (x := nI cc_9)
          have y33_103 : k9 < ac → R_103 33 k9 = r_37 := fun _ => by rw [hR_103]; exact st_row (r := R_52) (j := 33) (q0 := k9) (x := r_37)
          have y34_103 : k9 < ac → R_103 34 k9 = r_52 := fun _ => by rw [hR_103]; exact st_row (r := R_52) (j := 34) (q0 := k9) (x := r_52)
          have h8_103 : (p_blk K Wd pN pn rN rc d0 (p_take K 18 (p_blk K Wd pN pn rN rc d0 (p_cmps K Wd pN pn 400 u)))).2.1 ≠ 40 → R_103 108 0 = nI (4 - 4) := fun z => by rw [hR_103]; exact h8_52 z
          have EE_103 : ∀ nd9 cc9 lo hi, k9 < lo → r_E R_52 R_103 nd9 cc9 lo hi := fun nd9 cc9 lo hi h0 => by
            rw [hR_103]
            refine ⟨fun i q a b c => ?_, fun i q a b c => ?_, fun i q a b c d => ?_⟩
            · rw [rp_n (by omega)]; rw [rp_n (by omega)]; rw [rp_n (by omega)]; rw [rp_n (by omega)]
            · rw [rp_n (by omega)]; rw [rp_n (by omega)]; rw [rp_n (by omega)]; rw [rp_n (by omega)]
            · refine ((rp_E (j := 34) (q0 := k9) (nd := 0) (cc := 0) (lo := lo) (hi := hi) (by decide) h0).2.2 i q a b c d).trans <| ((rp_E (j := 33) (q0 := k9) (nd := 0) (cc := 0) (lo := lo) (hi := hi) (by decide) h0).2.2 i q a b c d).trans <| ((rp_E (j := 32) (q0 := k9) (nd := 0) (cc := 0) (lo := lo) (hi := hi) (by decide) h0).2.2 i q a b c d).trans <| ((rp_E (j := 31) (q0 := k9) (nd := 0) (cc := 0) (lo := lo) (hi := hi) (by decide) h0).2.2 i q a b c d).trans <| rfl
          have k_else : p_else K (p_blk K Wd pN pn rN rc d0) (p_blk K Wd pN pn rN rc d0 (p_cmps K Wd pN pn 400 u)) = (p_blk K Wd pN pn rN rc d0 (p_take K 18 (p_blk K Wd pN pn rN rc d0 (p_cmps K Wd pN pn 400 u)))) := if_pos e18
          have EX : k9 < ac → (p_else K (p_blk K Wd pN pn rN rc d0) (p_blk K Wd pN pn rN rc d0 (p_cmps K Wd pN pn 400 u))).2.1 ≠ 40 → (p_else K (p_blk K Wd pN pn rN rc d0) (p_blk K Wd pN pn rN rc d0 (p_cmps K Wd pN pn 400 u))).2.2.1 = 0 → ∃ mc, R_103 31 k9 = nI cc ∧ R_103 32 k9 = nI (cc + mc) ∧ cc + mc ≤ cc_52 ∧ mC (bR R_103 25) pn nd_52 cc mc (p_cmpsC K Wd pN pn 400 u (fun _ _ => true)) ∧ (∃ m, mL (bR R_103 25) ac ac_52 (mA (bR R_103 25) pn nd_52 cc_52 ac_52 RS rc d0) m (R_103 33 k9) (p_blkS K Wd pN pn rN rc RS d0 (p_cmps K Wd pN pn 400 u))) ∧ (∃ m, mL (bR R_103 25) ac ac_52 (mA (bR R_103 25) pn nd_52 cc_52 ac_52 RS rc d0) m (R_103 34 k9) (if (p_blk K Wd pN pn rN rc d0 (p_cmps K Wd pN pn 400 u)).2.1 = 18 then p_blkS K Wd pN pn rN rc RS d0 (p_take K 18 (p_blk K Wd pN pn rN rc d0 (p_cmps K Wd pN pn 400 u))) else k_nil)) := by
            intro h0 h1 h2
            rw [k_else] at h1 h2
            have k5 := le_45 (le_52 h1)
            have o5 := er_45 (er_52 h2)
            obtain ⟨m5, l5⟩ := ex_52 h1 h2
            have k5 : (p_blk K Wd pN pn rN rc d0 (p_cmps K Wd pN pn 400 u)).2.1 ≠ 40 := by omega
            obtain ⟨m4, l4⟩ := ex_37 k5 o5
            obtain ⟨mc, b1, b2⟩ := hc9 (le_37 k5) (er_37 o5)
            have y31 := (y31_103 h0)
            have y32 := (y32_103 h0)
            have y33 := (y33_103 h0)
            have y34 := (y34_103 h0)
            refine ⟨mc, y31, by rw [y32, b1], by omega, mC_G b2 Gm9_103 (by omega) (by omega), ⟨m4, ?_⟩, ?_⟩
            · rw [y33]; exact mL_lo (mL_E (mL_E (mL_E l4 q_45.2.1.E (by omega) (by omega) (by omega)) q_52.2.1.E qn_52.2.2.1 qn_52.2.2.2.2.1 qn_52.2.2.2.2.2) (EE_103 _ _ _ _ (by omega)) (Nat.le_refl _) (Nat.le_refl _) (Nat.le_refl _)) (by omega)
            · refine ⟨m5, ?_⟩
              rw [y34, if_pos e18]
              exact mL_lo (mL_E l5 (EE_103 _ _ _ _ (by omega)) (Nat.le_refl _) (Nat.le_refl _) (Nat.le_refl _)) (by omega)
          exact q_vret hx hb hr hlocks hW hS ⟨_, _, _, _, _, (by rw [k_else]; exact Q_103), (show R_103 107 0 = r 107 0 from by rw [hR_103]; exact (e7_52.trans (e7_45.trans (e7_37.trans e7_9)))), (fun h1 => by rw [k_else] at h1; exact (fun z => (show R_103 108 0 = r 108 0 from by rw [hR_103]; exact (fun z => (e8_52 z).trans ((fun z => e8_45.trans ((fun z => (e8_37 z).trans (e8_9 (le_37 z))) (le_45 z))) (le_52 z))) z)) h1), (by omega), ⟨(fun h0 => ⟨(y35_103 h0), (y28_103 h0)⟩), EX⟩, rfl, rfl⟩ (Nat.le_of_ble_eq_true rfl) (Nat.le_of_ble_eq_true rfl) dX14_choice_103
        · refine q_ci (va_runV (As := [.int 18]) (rest := []) ⟨hx, hb, hml, hown, hts⟩ (kX14_takesF l E (rO E f M R_37) n M R_37 K Wd T (p_blk K Wd pN pn rN rc d0 (p_cmps K Wd pN pn 400 u)) tk_37 nd_37 cc_37 ac_37 18 18 rO_K T_37 hT hKT hK41 Q_37.1 ok_37 rfl (by decide) e18) (cwV 1 hts gX14_choice_X14_takes rfl rfl rfl (by decide +kernel) ⟨(by show 1 + 1 ≤ 4 * d0 + 41; omega), (by show 8 + (2 + 11) + 21 ≤ 100 * d0 + 1030; omega)⟩) (q_pV hA hW hS (ci := 12) rfl rO_0) rfl rfl hl.1 rfl (lv_room (Nat.le_of_ble_eq_true rfl)) dX14_choice_45 ⟨Nat.le_of_ble_eq_true rfl, Nat.le_of_ble_eq_true rfl⟩) hS (fun r_45 f_45 n_45 H locs hp hW hS => ?_)
          obtain ⟨rfl, rfl, rfl⟩ := hp
          have hW : q_W E (rO E f M R_37) n H := hW
          refine lv_if_eq (tgt := 58) hx hb dX14_choice_48 (by decide) (fun c_48 => ?_) (fun c_48 => False.elim ((fun h9 => h9 rfl) c_48))
          refine lv_iconst (v := (-1)) hx hb dX14_choice_58 (by decide) ?_
          refine lv_istore (lv' := [(5, .int (-1)), (4, .int r_37), (3, .int (nI cc_9)), (0, .ref M), (1, .int (nI k9)), (2, .int (nI cc))]) hx hb dX14_choice_59 hl (by decide) rfl (fun ls hl => ?_)
          refine lv_aload_n hx hb dX14_choice_61 rfl (lv_at hl 3 rfl) ?_
          refine q_get hx hb hts hown hA hW iX14 rO_0 rfl 18 (by decide) (hts (.fieldLink RX14 42 "HighRecipesModel" "fresh" "LHighRecipesModel$Book;") (by decide +kernel)) (fun _ h9 => h9) (v := .ref (M + 25)) rfl dX14_choice_62 ?_
          refine q_getN hx hb hts hown hA hW iX13 rO_25 rfl 8 (by decide) (va_Nw.use rfl (hA.2.2.2.1 ("HighRecipesModel", 244, "HighRecipesModel$Book", "from", "[I", "HighRecipesModel") (by decide +kernel))) (fun _ h9 => h9) (v := .ref (M + 31)) rfl dX14_choice_65 ?_
          refine lv_iload_n hx hb dX14_choice_68 rfl (lv_at hl 4 rfl) ?_
          refine lv_iload_n hx hb dX14_choice_69 rfl (lv_at hl 5 rfl) ?_
          refine q_ast hx hb hA hW hS (rO_31 (g := R_37 31) rfl) k9 rfl (by omega) (by decide) dX14_choice_70 (fun H locs hW hS => ?_)
          have hW := q_sa 31 hW rfl rfl
          refine lv_aload_n hx hb dX14_choice_71 rfl (lv_at hl 3 rfl) ?_
          refine q_get hx hb hts hown hA hW iX14 rO_0 rfl 18 (by decide) (hts (.fieldLink RX14 42 "HighRecipesModel" "fresh" "LHighRecipesModel$Book;") (by decide +kernel)) (fun _ h9 => h9) (v := .ref (M + 25)) rfl dX14_choice_72 ?_
          refine q_getN hx hb hts hown hA hW iX13 rO_25 rfl 9 (by decide) (va_Nw.use rfl (hA.2.2.2.1 ("HighRecipesModel", 247, "HighRecipesModel$Book", "to", "[I", "HighRecipesModel") (by decide +kernel))) (fun _ h9 => h9) (v := .ref (M + 32)) rfl dX14_choice_75 ?_
          refine lv_iload_n hx hb dX14_choice_78 rfl (lv_at hl 4 rfl) ?_
          refine lv_iload_n hx hb dX14_choice_79 rfl (lv_at hl 2 rfl) ?_
          refine q_ast hx hb hA hW hS (rO_32 (g := R_37 32) rfl) k9 rfl (by omega) (by decide) dX14_choice_80 (fun H locs hW hS => ?_)
          have hW := q_sa 32 hW rfl rfl
          refine lv_aload_n hx hb dX14_choice_81 rfl (lv_at hl 3 rfl) ?_
          refine q_get hx hb hts hown hA hW iX14 rO_0 rfl 18 (by decide) (hts (.fieldLink RX14 42 "HighRecipesModel" "fresh" "LHighRecipesModel$Book;") (by decide +kernel)) (fun _ h9 => h9) (v := .ref (M + 25)) rfl dX14_choice_82 ?_
          refine q_getN hx hb hts hown hA hW iX13 rO_25 rfl 10 (by decide) (va_Nw.use rfl (hA.2.2.2.1 ("HighRecipesModel", 221, "HighRecipesModel$Book", "block", "[I", "HighRecipesModel") (by decide +kernel))) (fun _ h9 => h9) (v := .ref (M + 33)) rfl dX14_choice_85 ?_
          refine lv_iload_n hx hb dX14_choice_88 rfl (lv_at hl 4 rfl) ?_
          refine lv_iload hx hb dX14_choice_89 (lv_at hl 1 rfl) ?_
          refine q_ast hx hb hA hW hS (rO_33 (g := R_37 33) rfl) k9 rfl (by omega) (by decide) dX14_choice_91 (fun H locs hW hS => ?_)
          have hW := q_sa 33 hW rfl rfl
          refine lv_aload_n hx hb dX14_choice_92 rfl (lv_at hl 3 rfl) ?_
          refine q_get hx hb hts hown hA hW iX14 rO_0 rfl 18 (by decide) (hts (.fieldLink RX14 42 "HighRecipesModel" "fresh" "LHighRecipesModel$Book;") (by decide +kernel)) (fun _ h9 => h9) (v := .ref (M + 25)) rfl dX14_choice_93 ?_
          refine q_getN hx hb hts hown hA hW iX13 rO_25 rfl 11 (by decide) (va_Nw.use rfl (hA.2.2.2.1 ("HighRecipesModel", 224, "HighRecipesModel$Book", "other", "[I", "HighRecipesModel") (by decide +kernel))) (fun _ h9 => h9) (v := .ref (M + 34)) rfl dX14_choice_96 ?_
          refine lv_iload_n hx hb dX14_choice_99 rfl (lv_at hl 4 rfl) ?_
          refine lv_iload hx hb dX14_choice_100 (lv_at hl 0 rfl) ?_
          refine q_ast hx hb hA hW hS (rO_34 (g := R_37 34) rfl) k9 rfl (by omega) (by decide) dX14_choice_102 (fun H locs hW hS => ?_)
          have hW := q_sa 34 hW rfl rfl
          obtain ⟨R_103, hR_103⟩ : ∃ z, z = rp (rp (rp (rp R_37 31 (upd (R_37 31) k9 (nI cc))) 32 (upd (R_37 32) k9 (nI cc_9))) 33 (upd (R_37 33) k9 r_37)) 34 (upd (R_37 34) k9 (-1)) := ⟨_, rfl⟩
          rw [← hR_103] at hW
          have Q_103 : r_Q r R_103 K T (p_blk K Wd pN pn rN rc d0 (p_cmps K Wd pN pn 400 u)) tk nd cc k9 tk_37 nd_37 cc_37 ac_37 := by rw [hR_103]; exact ((((Q_37.st (by decide) (by omega)).st (by decide) (by omega)).st (by decide) (by omega)).st (by decide) (by omega))
          have T_103 := Q_103.tok hTK
          have num_103 := Q_103.2.2
          unfold r_num at num_103
          have bt_103 := Q_103.1.1.2.1
          have bn_103 := Q_103.1.1.2.2.2.1
          have bc_103 := Q_103.1.1.2.2.2.2.2.1
          have ba_103 := Q_103.1.1.2.2.2.2.2.2.2
          have Gm9_103 : r_G R_9 R_103 nd_9 cc_9 k9 := by rw [hR_103]; exact (r_G.upA (r_G.upA (r_G.upA (r_G.upA Gm9_37 (by omega)) (by omega)) (by omega)) (by omega))
          have Gm37_103 : r_G R_37 R_103 nd_37 cc_37 k9 := by rw [hR_103]; exact (r_G.upA (r_G.upA (r_G.upA (r_G.upA Gm37_37 (by omega)) (by omega)) (by omega)) (by omega))
          have y35_103 : k9 < ac → R_103 35 k9 = r 35 k9 := fun h0 => by rw [hR_103]; exact y35_37 h0
          have y28_103 : k9 < ac → R_103 28 k9 = r 28 k9 := fun h0 => by rw [hR_103]; exact y28_37 h0
          have y31_103 : k9 < ac → R_103 31 k9 = nI cc := fun _ => by rw [hR_103]; exact st_row (r := R_37) (j := 31) (q0 := k9) (x := nI cc)
          have y32_103 : k9 < ac → R_103 32 k9 = nI cc_9 := fun _ => by rw [hR_103]; exact st_row (r := R_37) (j := 32) (q0 := k9) (x := nI cc_9)
          have y33_103 : k9 < ac → R_103 33 k9 = r_37 := fun _ => by rw [hR_103]; exact st_row (r := R_37) (j := 33) (q0 := k9) (x := r_37)
          have y34_103 : k9 < ac → R_103 34 k9 = -1 := fun _ => by rw [hR_103]; exact st_row (r := R_37) (j := 34) (q0 := k9) (x := -1)
          have h8_103 : (p_blk K Wd pN pn rN rc d0 (p_cmps K Wd pN pn 400 u)).2.1 ≠ 40 → R_103 108 0 = nI (4 - 4) := fun z => by rw [hR_103]; exact h8_37 z
          have EE_103 : ∀ nd9 cc9 lo hi, k9 < lo → r_E R_37 R_103 nd9 cc9 lo hi := fun nd9 cc9 lo hi h0 => by
            rw [hR_103]
            refine ⟨fun i q a b c => ?_, fun i q a b c => ?_, fun i q a b c d => ?_⟩
            · rw [rp_n (by omega)]; rw [rp_n (by omega)]; rw [rp_n (by omega)]; rw [rp_n (by omega)]
            · rw [rp_n (by omega)]; rw [rp_n (by omega)]; rw [rp_n (by omega)]; rw [rp_n (by omega)]
            · refine ((rp_E (j := 34) (q0 := k9) (nd := 0) (cc := 0) (lo := lo) (hi := hi) (by decide) h0).2.2 i q a b c d).trans <| ((rp_E (j := 33) (q0 := k9) (nd := 0) (cc := 0) (lo := lo) (hi := hi) (by decide) h0).2.2 i q a b c d).trans <| ((rp_E (j := 32) (q0 := k9) (nd := 0) (cc := 0) (lo := lo) (hi := hi) (by decide) h0).2.2 i q a b c d).trans <| ((rp_E (j := 31) (q0 := k9) (nd := 0) (cc := 0) (lo := lo) (hi := hi) (by decide) h0).2.2 i q a b c d).trans <| rfl
          have k_else : p_else K (p_blk K Wd pN pn rN rc d0) (p_blk K Wd pN pn rN rc d0 (p_cmps K Wd pN pn 400 u)) = (p_blk K Wd pN pn rN rc d0 (p_cmps K Wd pN pn 400 u)) := if_neg e18
          have EX : k9 < ac → (p_else K (p_blk K Wd pN pn rN rc d0) (p_blk K Wd pN pn rN rc d0 (p_cmps K Wd pN pn 400 u))).2.1 ≠ 40 → (p_else K (p_blk K Wd pN pn rN rc d0) (p_blk K Wd pN pn rN rc d0 (p_cmps K Wd pN pn 400 u))).2.2.1 = 0 → ∃ mc, R_103 31 k9 = nI cc ∧ R_103 32 k9 = nI (cc + mc) ∧ cc + mc ≤ cc_37 ∧ mC (bR R_103 25) pn nd_37 cc mc (p_cmpsC K Wd pN pn 400 u (fun _ _ => true)) ∧ (∃ m, mL (bR R_103 25) ac ac_37 (mA (bR R_103 25) pn nd_37 cc_37 ac_37 RS rc d0) m (R_103 33 k9) (p_blkS K Wd pN pn rN rc RS d0 (p_cmps K Wd pN pn 400 u))) ∧ (∃ m, mL (bR R_103 25) ac ac_37 (mA (bR R_103 25) pn nd_37 cc_37 ac_37 RS rc d0) m (R_103 34 k9) (if (p_blk K Wd pN pn rN rc d0 (p_cmps K Wd pN pn 400 u)).2.1 = 18 then p_blkS K Wd pN pn rN rc RS d0 (p_take K 18 (p_blk K Wd pN pn rN rc d0 (p_cmps K Wd pN pn 400 u))) else k_nil)) := by
            intro h0 h1 h2
            rw [k_else] at h1 h2
            have k5 := h1
            have o5 := h2
            obtain ⟨m4, l4⟩ := ex_37 k5 o5
            obtain ⟨mc, b1, b2⟩ := hc9 (le_37 k5) (er_37 o5)
            have y31 := (y31_103 h0)
            have y32 := (y32_103 h0)
            have y33 := (y33_103 h0)
            have y34 := (y34_103 h0)
            refine ⟨mc, y31, by rw [y32, b1], by omega, mC_G b2 Gm9_103 (by omega) (by omega), ⟨m4, ?_⟩, ?_⟩
            · rw [y33]; exact mL_lo (mL_E l4 (EE_103 _ _ _ _ (by omega)) (Nat.le_refl _) (Nat.le_refl _) (Nat.le_refl _)) (by omega)
            · exact ⟨0, y34, if_neg e18⟩
          exact q_vret hx hb hr hlocks hW hS ⟨_, _, _, _, _, (by rw [k_else]; exact Q_103), (show R_103 107 0 = r 107 0 from by rw [hR_103]; exact (e7_37.trans e7_9)), (fun h1 => by rw [k_else] at h1; exact (fun z => (show R_103 108 0 = r 108 0 from by rw [hR_103]; exact (fun z => (e8_37 z).trans (e8_9 (le_37 z))) z)) h1), (by omega), ⟨(fun h0 => ⟨(y35_103 h0), (y28_103 h0)⟩), EX⟩, rfl, rfl⟩ (Nat.le_of_ble_eq_true rfl) (Nat.le_of_ble_eq_true rfl) dX14_choice_103
  exact K12 _ R_9 (p_cmp K Wd pN pn u) 399 tk_9 nd_9 cc_9 ac_9 (p_cmpC K Wd pN pn u (fun _ _ => true)) Q_9 ok_9 (ec_9.trans rfl) (e7_9.trans rfl) (fun z => (e8_9 z).trans rfl) h8_9 y35_9 y28_9 (fun h9 => by have := cmp_tk hKT hok h9; omega) rfl rfl GG_9.2 (fun h1 h2 => by obtain ⟨z1, z2, kd, x, y, D1, D2, a1, a2, a3, a4, a5, a6, a7, a8⟩ := ex_9 h1 h2; exact ⟨1, z1, kd, x, y, D1, D2, _, a1, a2, a3, a4, a5, a6, a7, rfl, a8 _⟩) (Nat.lt_succ_self _) _ _ _ hW hS (lv_sub hl [1, 2, 0] rfl)
