/-! a block of the reference -/
def r_F (r G : q_R) (nd cc lo hi x : Nat) : Prop := (∀ j q, 39 ≤ j → j ≤ 41 → q < nd → G j q = r j q) ∧ (∀ j q, 36 ≤ j → j ≤ 38 → q < cc → G j q = r j q) ∧ (∀ j q, 28 ≤ j → j ≤ 34 → lo ≤ q → q < hi → G j q = r j q) ∧ (∀ q, lo ≤ q → q < hi → q ≠ x → G 35 q = r 35 q)
theorem r_G.F {r r1 : q_R} {nd cc ac lo x : Nat} (h : r_G r r1 nd cc ac) : r_F r r1 nd cc lo ac x := ⟨h.2.1, h.2.2.1, fun j q a b _ d => h.2.2.2 j q a (by omega) d, fun q _ d _ => h.2.2.2 35 q (by decide) (by decide) d⟩
theorem r_F.trans {r r1 r2 : q_R} {nd cc lo hi x nd1 cc1 lo1 hi1 x1 : Nat} (h : r_F r r1 nd cc lo hi x) (h2 : r_F r1 r2 nd1 cc1 lo1 hi1 x1) (e1 : nd ≤ nd1) (e2 : cc ≤ cc1) (e3 : hi ≤ hi1) (e4 : lo1 ≤ lo) (e5 : hi ≤ x1 ∨ x1 < lo ∨ x1 = x) : r_F r r2 nd cc lo hi x :=
  ⟨fun j q a b c => (h2.1 j q a b (by omega)).trans (h.1 j q a b c), fun j q a b c => (h2.2.1 j q a b (by omega)).trans (h.2.1 j q a b c), fun j q a b c d => (h2.2.2.1 j q a b (by omega) (by omega)).trans (h.2.2.1 j q a b c d), fun q c d e => (h2.2.2.2 q (by omega) (by omega) (by omega)).trans (h.2.2.2 q c d e)⟩
theorem r_F.at {r : q_R} {nd cc lo hi x : Nat} {v : Int32} : r_F r (rp r 35 (upd (r 35) x v)) nd cc lo hi x := by
  refine ⟨fun i q a b c => by rw [rp_n (by omega)], fun i q a b c => by rw [rp_n (by omega)], fun i q a b c d => by rw [rp_n (by omega)], fun q c d e => ?_⟩
  rw [rp_s, z_un (by omega)]
theorem r_F.out {r G : q_R} {nd cc lo hi x y : Nat} (h : r_F r G nd cc lo hi x) (hx : x < lo ∨ hi ≤ x) : r_F r G nd cc lo hi y := ⟨h.1, h.2.1, h.2.2.1, fun q a b _ => h.2.2.2 q a b (by omega)⟩
theorem mA_F {r G : q_R} {pn nd cc hi nd1 cc1 hi1 R d a : Nat} {RS : Nat → q_S} {S : q_S} (h : mA (bR r 25) pn nd cc hi RS R d a S) (hF : r_F r G nd cc a hi a) (h1 : nd ≤ nd1) (h2 : cc ≤ cc1) (h3 : hi ≤ hi1) : mA (bR G 25) pn nd1 cc1 hi1 RS R d a S :=
  mA_frame (B := bR r 25) (G := bR G 25) (fun q hq => hF.1 39 q (by decide) (by decide) hq) (fun q hq => hF.1 40 q (by decide) (by decide) hq) (fun q hq => hF.1 41 q (by decide) (by decide) hq) h1 (fun q hq => ⟨hF.2.1 36 q (by decide) (by decide) hq, hF.2.1 37 q (by decide) (by decide) hq, hF.2.1 38 q (by decide) (by decide) hq⟩) h2 h3 (Nat.le_refl _) (fun _ _ => rfl) d a S (fun q q1 q2 j j3 j9 => by show (if j ≤ 16 then G (25 + j) else fun _ => 0) q = (if j ≤ 16 then r (25 + j) else fun _ => 0) q; rw [if_pos (by omega), if_pos (by omega)]; exact hF.2.2.1 (25 + j) q (by omega) (by omega) (by omega) q2) (fun q q1 q2 => hF.2.2.2 q (by omega) q2 (by omega)) h
theorem mL_more {G : q_R} {pn nd cc hi R d a lo m : Nat} {RS : Nat → q_S} {o : Int32} {S1 S2 : q_S} (hA : mA (bR G 25) pn nd cc hi RS R d a S1) (ho : G 35 a = o) (ha : a < hi) (hlo : a ≤ lo) (hL : mL (bR G 25) lo hi (mA (bR G 25) pn nd cc hi RS R d) m o S2) : mL (bR G 25) a hi (mA (bR G 25) pn nd cc hi RS R d) (m + 1) (nI a) (k_cons S1 S2) :=
  ⟨a, S1, S2, rfl, Nat.le_refl _, ha, hA, by rw [show bR G 25 10 a = o from ho]; exact mL_lo hL hlo, rfl⟩
theorem acts_stop {A : p_S → p_S} {s : p_S} (h : ¬ b_act s.2.1 = true) : ∀ m, p_acts A m s = s
  | 0 => rfl
  | m + 1 => if_neg h
theorem actsS_stop {A : p_S → p_S} {M : p_S → q_S} {s : p_S} (h : ¬ b_act s.2.1 = true) : ∀ m, p_actsS A M m s = k_nil
  | 0 => rfl
  | m + 1 => if_neg h
theorem take_stop {K : Nat → Nat} {s : p_S} (h : ¬ s.2.1 = 28) : p_take K 28 (p_step K false s) = p_take K 28 s := by
  unfold p_take
  rw [decide_eq_false h]
  rfl
theorem beg_act {K : Nat → Nat} {T : Nat} {Wd pN rN : Nat → Int64} {pn rc : Nat} {B : p_S → p_S} {s : p_S} (hKT : 39 ≤ K T) (hB : ∀ s, p_go K T s (B s)) : p_go K T (p_beg K s) (p_act K Wd pN pn rN rc B s) := by
  have t29 := fun s : p_S => go_take (K := K) (T := T) (s := s) (w := 29) hKT (by decide)
  unfold p_act
  split
  · exact (go_val0 hKT 4 _).trans (hB _)
  · split
    · exact ((go_cmps hKT 400 _).trans (hB _)).trans (go_else hKT hB)
    · split
      · exact (((go_val0 hKT 4 _).trans (go_what hKT)).trans (go_known hKT)).trans (t29 _)
      · split
        · exact (((go_known hKT).trans (go_take (w := 8) hKT (by decide))).trans (go_val0 hKT 4 _)).trans (t29 _)
        · split
          · exact (((go_known hKT).trans (go_take (w := 10) hKT (by decide))).trans (go_val0 hKT 4 _)).trans (t29 _)
          · split
            · exact (go_known hKT).trans (t29 _)
            · split
              · exact (go_known hKT).trans (t29 _)
              · exact (go_val0 hKT 4 _).trans (t29 _)
theorem act_tk {K : Nat → Nat} {T : Nat} {Wd pN rN : Nat → Int64} {pn rc : Nat} {B : p_S → p_S} {s : p_S} (hKT : 39 ≤ K T) (hB : ∀ s, p_go K T s (B s)) (hs : p_ok K T s) (h : b_act s.2.1 = true) : s.1 + 1 ≤ (p_act K Wd pN pn rN rc B s).1 :=
  (beg_act hKT hB ((go_beg hKT (b_act_lt h)) hs).1).2.1
theorem nI_m1 {a : Nat} (h : a < 2 ^ 31) : ¬ nI a = -1 := fun h9 => absurd (show nI a < 0 from by rw [h9]; decide) (nI_pos h)

set_option maxHeartbeats 4000000 in
set_option maxRecDepth 100000 in
theorem kX14_block_0 (l : Launch) (E : q_E) (f : q_H) (n : Nat) (M : Nat) (r : q_R) (K : Nat → Nat) (Wd : Nat → Int64) (T : Nat) (u : p_S) (tk nd cc ac : Nat) (pN : Nat → Int64) (pn : Nat) (rN : Nat → Int64) (rc : Nat) (RS : Nat → q_S) (d0 : Nat)  (hm : RM E f M r) (hTK : r_T r K Wd T) (hT : T ≤ 400) (hKT : 39 ≤ K T) (hK41 : ∀ j, K j < 41) (hP : r_P r K T u tk nd cc ac) (hok : p_ok K T u) (hnm : r_nm r K Wd T 6 pn pN) (hpn : pn ≤ 8) (hpn9 : r 130 0 = nI pn) (hnr : r_nm r K Wd T 7 rc rN) (hrc : rc ≤ 6) (hrc9 : r 109 0 = nI rc) (hv7 : r 107 0 = nI (6 - 0)) (hv8 : u.2.1 ≠ 40 → r 108 0 = nI (4 - 4)) : Met l yX14_block wsX14_block ({ frames := 4 * 0 + 40, cells := 0, slots := 0, locals := 100 * 0 + 1000 }) (q_P E [.ref M] f n) (q_Qi E (fun r0 f1 n1 => ∃ (r1 : q_R) (tk1 nd1 cc1 ac1 : Nat), r_Q r r1 K T (p_blk K Wd pN pn rN rc 0 u) tk nd cc ac tk1 nd1 cc1 ac1 ∧ r1 107 0 = r 107 0 ∧ ((p_blk K Wd pN pn rN rc 0 u).2.1 ≠ 40 → r1 108 0 = r 108 0) ∧ (True) ∧ ((p_blk K Wd pN pn rN rc 0 u).2.1 ≠ 40 → (p_blk K Wd pN pn rN rc 0 u).2.2.1 = 0 → ∃ m, mL (bR r1 25) ac ac1 (mA (bR r1 25) pn nd1 cc1 ac1 RS rc 0) m r0 (p_blkS K Wd pN pn rN rc RS 0 u)) ∧ rO E f M r1 = f1 ∧ n = n1)) 0 0 (q_ge E) := by
  refine Met.ofW (cc := cX14_block) (maxL := 4) (ret := (some .int)) (by decide) rfl ?_
  intro p e s m args below meth c s₁ B hml hv
  obtain ⟨rfl, hA, hW⟩ := hv
  have hx := B.exec
  have hb := B.bytes
  have hr := B.returns
  have hts := atoms_spec (ws := wsX14_block) B.pre
  have hown : s.vm.findClass RX14 = some m.cls := findClass_of_methodNamed B.named
  have hlocks := B.notSynchronized
  have hS : va_S (q_ge E) s.heap s.heap [] := va_S.rf
  have iX14 : ∀ w ∈ wsX140, w ∈ wsX14_block := by decide +kernel
  have hl := lv_entry ([.ref M]) (n := 4) (Nat.le_of_ble_eq_true rfl)
  rw [lg_entry_eq]
  generalize (lg_sl ([.ref M]) ++ List.replicate (4 - (lg_sl ([.ref M])).length) Slot.unset).toArray = ls at hl ⊢
  have hl : lv_has ls 4 [(0, .ref M)] := hl
  have hmE := hm.eq
  rw [hm.eq] at hW
  have Q0 := r_Q.rf hP
  have htk := hP.1.2.1
  have hnd := hP.1.2.2.2.1
  have hcc := hP.1.2.2.2.2.2.1
  have hac := hP.1.2.2.2.2.2.2.2
  refine lv_aload_n hx hb dX14_block_0 rfl (lv_at hl 0 rfl) ?_
  refine q_get hx hb hts hown hA hW iX14 rO_0 rfl 12 (by decide) (hts (.fieldLink RX14 206 "HighRecipesModel" "blocksOpen" "I") (by decide +kernel)) (fun _ h9 => h9) (v := .int (nI (6 - 0))) (congrArg (fun z => some (Value.int z)) hv7) dX14_block_1 ?_
  refine lv_bipush (v := 6) hx hb dX14_block_4 (by decide) ?_
  refine lv_icmp_ne (tgt := 13) hx hb dX14_block_6 (by decide) (fun c_6 => False.elim ((fun h9 => h9 rfl) c_6)) (fun c_6 => ?_)
  refine lv_aload_n hx hb dX14_block_9 rfl (lv_at hl 0 rfl) ?_
  refine q_cv (va_runV (As := []) (rest := []) ⟨hx, hb, hml, hown, hts⟩ (kX14_wrong l E (rO E f M r) n M r K Wd T u tk nd cc ac rO_K hTK hT hKT hK41 Q0.1 hok) (cwV 0 hts gX14_block_X14_wrong rfl rfl rfl (by decide +kernel) ⟨(by show 0 + 1 ≤ 4 * 0 + 40; omega), (by show 8 + (1 + 11) + 0 ≤ 100 * 0 + 1000; omega)⟩) (q_pV hA hW hS (ci := 12) rfl rO_0) rfl rfl hl.1 rfl (lv_room (Nat.le_of_ble_eq_true rfl)) dX14_block_10 ⟨Nat.le_of_ble_eq_true rfl, Nat.le_of_ble_eq_true rfl⟩) hS (fun f_10 n_10 H locs hp hW hS => ?_)
  obtain ⟨R_10, tk_10, nd_10, cc_10, ac_10, q_10, e7_10, e8_10, ec_10, ex_10, rfl, rfl⟩ := hp
  have G_10 : p_go K T u (p_step K false u) := (go_step hKT (fun h9 => by cases h9))
  have GG_10 := G_10 hok
  have ok_10 := GG_10.1
  have le_10 := GG_10.2.2.2.1
  have er_10 := GG_10.2.2.2.2
  have Q_10 := Q0.trans q_10
  have T_10 := Q_10.tok hTK
  have num_10 := Q_10.2.2
  unfold r_num at num_10
  have bt_10 := Q_10.1.1.2.1
  have bn_10 := Q_10.1.1.2.2.2.1
  have bc_10 := Q_10.1.1.2.2.2.2.2.1
  have ba_10 := Q_10.1.1.2.2.2.2.2.2.2
  have qn_10 := q_10.2.2
  unfold r_num at qn_10
  have h8_10 : (p_step K false u).2.1 ≠ 40 → R_10 108 0 = nI (4 - 4) := fun z => (e8_10).trans (hv8 (le_10 z))
  rw [rO_rO] at hW
  have hW : q_W E (rO E f M R_10) n H := hW
  refine lv_aload_n hx hb dX14_block_13 rfl (lv_at hl 0 rfl) ?_
  refine lv_bipush (v := 50) hx hb dX14_block_14 (by decide) ?_
  refine q_cv (va_runV (As := [.int 50]) (rest := []) ⟨hx, hb, hml, hown, hts⟩ (kX14_take l E (rO E f M R_10) n M R_10 K Wd T (p_step K false u) tk_10 nd_10 cc_10 ac_10 27 50 rO_K T_10 hT hKT hK41 Q_10.1 ok_10 rfl (by decide)) (cwV 1 hts gX14_block_X14_take rfl rfl rfl (by decide +kernel) ⟨(by show 1 + 1 ≤ 4 * 0 + 40; omega), (by show 8 + (2 + 11) + 21 ≤ 100 * 0 + 1000; omega)⟩) (q_pV hA hW hS (ci := 12) rfl rO_0) rfl rfl hl.1 rfl (lv_room (Nat.le_of_ble_eq_true rfl)) dX14_block_16 ⟨Nat.le_of_ble_eq_true rfl, Nat.le_of_ble_eq_true rfl⟩) hS (fun f_16 n_16 H locs hp hW hS => ?_)
  obtain ⟨R_16, tk_16, nd_16, cc_16, ac_16, q_16, e7_16, e8_16, ec_16, ex_16, rfl, rfl⟩ := hp
  have G_16 : p_go K T (p_step K false u) (p_take K 27 (p_step K false u)) := (go_take hKT (by decide))
  have GG_16 := G_16 ok_10
  have ok_16 := GG_16.1
  have le_16 := GG_16.2.2.2.1
  have er_16 := GG_16.2.2.2.2
  have Q_16 := Q_10.trans q_16
  have T_16 := Q_16.tok hTK
  have num_16 := Q_16.2.2
  unfold r_num at num_16
  have bt_16 := Q_16.1.1.2.1
  have bn_16 := Q_16.1.1.2.2.2.1
  have bc_16 := Q_16.1.1.2.2.2.2.2.1
  have ba_16 := Q_16.1.1.2.2.2.2.2.2.2
  have qn_16 := q_16.2.2
  unfold r_num at qn_16
  have h8_16 : (p_take K 27 (p_step K false u)).2.1 ≠ 40 → R_16 108 0 = nI (4 - 4) := fun z => (e8_16).trans (h8_10 (le_16 z))
  rw [rO_rO] at hW
  have hW : q_W E (rO E f M R_16) n H := hW
  refine lv_aload_n hx hb dX14_block_19 rfl (lv_at hl 0 rfl) ?_
  refine lv_dup hx hb dX14_block_20 rfl ?_
  refine q_get hx hb hts hown hA hW iX14 rO_0 rfl 12 (by decide) (hts (.fieldLink RX14 206 "HighRecipesModel" "blocksOpen" "I") (by decide +kernel)) (fun _ h9 => h9) (v := .int (nI (6 - 0))) (congrArg (fun z => some (Value.int z)) (e7_16.trans (e7_10.trans hv7))) dX14_block_21 ?_
  refine lv_iconst (v := 1) hx hb dX14_block_24 (by decide) ?_
  refine lv_iadd hx hb dX14_block_25 ?_
  refine q_put hx hb hts hown hA hW hS iX14 tyX14 tyX14_ok nmX14 rO_0 rfl 12 (by decide) (hts (.fieldLink RX14 206 "HighRecipesModel" "blocksOpen" "I") (by decide +kernel)) (fun _ h9 => h9) rfl rfl rfl (Nat.le_of_ble_eq_true rfl) dX14_block_26 (fun H locs hW hS => ?_)
  have hW := q_s0 107 ((nI (6 - 0)) + 1) hW rfl (by decide)
  obtain ⟨R_29, hR_29⟩ : ∃ z, z = rp R_16 107 (fun _ => (nI (6 - 0)) + 1) := ⟨_, rfl⟩
  rw [← hR_29] at hW
  have Q_29 : r_Q r R_29 K T (p_take K 27 (p_step K false u)) tk nd cc ac tk_16 nd_16 cc_16 ac_16 := by rw [hR_29]; exact Q_16.u7
  have T_29 := Q_29.tok hTK
  have num_29 := Q_29.2.2
  unfold r_num at num_29
  have bt_29 := Q_29.1.1.2.1
  have bn_29 := Q_29.1.1.2.2.2.1
  have bc_29 := Q_29.1.1.2.2.2.2.2.1
  have ba_29 := Q_29.1.1.2.2.2.2.2.2.2
  have h8_29 : (p_take K 27 (p_step K false u)).2.1 ≠ 40 → R_29 108 0 = nI (4 - 4) := fun z => by rw [hR_29]; exact h8_16 z
  refine lv_iconst (v := (-1)) hx hb dX14_block_29 (by decide) ?_
  refine lv_istore_n (lv' := [(1, .int (-1)), (0, .ref M)]) hx hb dX14_block_30 rfl hl (by decide) rfl (fun ls hl => ?_)
  refine lv_iconst (v := (-1)) hx hb dX14_block_31 (by decide) ?_
  refine lv_istore_n (lv' := [(2, .int (-1)), (1, .int (-1)), (0, .ref M)]) hx hb dX14_block_32 rfl hl (by decide) rfl (fun ls hl => ?_)
  refine lv_aload_n hx hb dX14_block_33 rfl (lv_at hl 2 rfl) ?_
  refine q_get hx hb hts hown hA hW iX14 rO_0 rfl 9 (by decide) (hts (.fieldLink RX14 116 "HighRecipesModel" "isWrong" "Z") (by decide +kernel)) (fun _ h9 => h9) (v := .int 1) (congrArg (fun z => some (Value.int z)) (show R_29 104 0 = 1 from by rw [hR_29]; exact ex_16 ex_10)) dX14_block_34 ?_
  refine lv_if_ne (tgt := 86) hx hb dX14_block_37 (by decide) (fun c_37 => ?_) (fun c_37 => False.elim ((fun h9 => absurd h9 (by decide)) c_37))
  refine lv_aload_n hx hb dX14_block_86 rfl (lv_at hl 2 rfl) ?_
  refine lv_bipush (v := 51) hx hb dX14_block_87 (by decide) ?_
  refine q_cv (va_runV (As := [.int 51]) (rest := []) ⟨hx, hb, hml, hown, hts⟩ (kX14_take l E (rO E f M R_29) n M R_29 K Wd T (p_take K 27 (p_step K false u)) tk_16 nd_16 cc_16 ac_16 28 51 rO_K T_29 hT hKT hK41 Q_29.1 ok_16 rfl (by decide)) (cwV 1 hts gX14_block_X14_take rfl rfl rfl (by decide +kernel) ⟨(by show 1 + 1 ≤ 4 * 0 + 40; omega), (by show 8 + (2 + 11) + 21 ≤ 100 * 0 + 1000; omega)⟩) (q_pV hA hW hS (ci := 12) rfl rO_0) rfl rfl hl.1 rfl (lv_room (Nat.le_of_ble_eq_true rfl)) dX14_block_89 ⟨Nat.le_of_ble_eq_true rfl, Nat.le_of_ble_eq_true rfl⟩) hS (fun f_89 n_89 H locs hp hW hS => ?_)
  obtain ⟨R_89, tk_89, nd_89, cc_89, ac_89, q_89, e7_89, e8_89, ec_89, ex_89, rfl, rfl⟩ := hp
  have G_89 : p_go K T (p_take K 27 (p_step K false u)) (p_take K 28 (p_take K 27 (p_step K false u))) := (go_take hKT (by decide))
  have GG_89 := G_89 ok_16
  have ok_89 := GG_89.1
  have le_89 := GG_89.2.2.2.1
  have er_89 := GG_89.2.2.2.2
  have Q_89 := Q_29.trans q_89
  have T_89 := Q_89.tok hTK
  have num_89 := Q_89.2.2
  unfold r_num at num_89
  have bt_89 := Q_89.1.1.2.1
  have bn_89 := Q_89.1.1.2.2.2.1
  have bc_89 := Q_89.1.1.2.2.2.2.2.1
  have ba_89 := Q_89.1.1.2.2.2.2.2.2.2
  have qn_89 := q_89.2.2
  unfold r_num at qn_89
  have h8_89 : (p_take K 28 (p_take K 27 (p_step K false u))).2.1 ≠ 40 → R_89 108 0 = nI (4 - 4) := fun z => (e8_89).trans (h8_29 (le_89 z))
  rw [rO_rO] at hW
  have hW : q_W E (rO E f M R_89) n H := hW
  refine lv_aload_n hx hb dX14_block_92 rfl (lv_at hl 2 rfl) ?_
  refine lv_dup hx hb dX14_block_93 rfl ?_
  refine q_get hx hb hts hown hA hW iX14 rO_0 rfl 12 (by decide) (hts (.fieldLink RX14 206 "HighRecipesModel" "blocksOpen" "I") (by decide +kernel)) (fun _ h9 => h9) (v := .int ((nI (6 - 0)) + 1)) (congrArg (fun z => some (Value.int z)) (e7_89.trans (show R_29 107 0 = (nI (6 - 0)) + 1 from by rw [hR_29]; rfl))) dX14_block_94 ?_
  refine lv_iconst (v := 1) hx hb dX14_block_97 (by decide) ?_
  refine lv_isub hx hb dX14_block_98 ?_
  refine q_put hx hb hts hown hA hW hS iX14 tyX14 tyX14_ok nmX14 rO_0 rfl 12 (by decide) (hts (.fieldLink RX14 206 "HighRecipesModel" "blocksOpen" "I") (by decide +kernel)) (fun _ h9 => h9) rfl rfl rfl (Nat.le_of_ble_eq_true rfl) dX14_block_99 (fun H locs hW hS => ?_)
  have hW := q_s0 107 (((nI (6 - 0)) + 1) - 1) hW rfl (by decide)
  obtain ⟨R_102, hR_102⟩ : ∃ z, z = rp R_89 107 (fun _ => ((nI (6 - 0)) + 1) - 1) := ⟨_, rfl⟩
  rw [← hR_102] at hW
  have Q_102 : r_Q r R_102 K T (p_take K 28 (p_take K 27 (p_step K false u))) tk nd cc ac tk_89 nd_89 cc_89 ac_89 := by rw [hR_102]; exact Q_89.u7
  have T_102 := Q_102.tok hTK
  have num_102 := Q_102.2.2
  unfold r_num at num_102
  have bt_102 := Q_102.1.1.2.1
  have bn_102 := Q_102.1.1.2.2.2.1
  have bc_102 := Q_102.1.1.2.2.2.2.2.1
  have ba_102 := Q_102.1.1.2.2.2.2.2.2.2
  have h8_102 : (p_take K 28 (p_take K 27 (p_step K false u))).2.1 ≠ 40 → R_102 108 0 = nI (4 - 4) := fun z => by rw [hR_102]; exact h8_89 z
  refine lv_iload_n hx hb dX14_block_102 rfl (lv_at hl 1 rfl) ?_
  exact q_iret hx hb hr hlocks hW hS ⟨_, _, _, _, _, (Q_102.cg (show R_102 104 0 = 1 from by rw [hR_102]; exact ex_89 (show R_29 104 0 = 1 from by rw [hR_29]; exact ex_16 ex_10)) rfl blk_w0), ((show R_102 107 0 = ((nI (6 - 0)) + 1) - 1 from by rw [hR_102]; rfl).trans (by rw [hv7]; rfl)), (fun h1 => absurd blk_w0 h1), trivial, (fun h1 h2 => absurd blk_w0 h1), rfl, rfl⟩ (Nat.le_of_ble_eq_true rfl) (Nat.le_of_ble_eq_true rfl) dX14_block_103

set_option maxHeartbeats 4000000 in
set_option maxRecDepth 100000 in
theorem kX14_block_S (l : Launch) (E : q_E) (f : q_H) (n : Nat) (M : Nat) (r : q_R) (K : Nat → Nat) (Wd : Nat → Int64) (T : Nat) (u : p_S) (tk nd cc ac : Nat) (pN : Nat → Int64) (pn : Nat) (rN : Nat → Int64) (rc : Nat) (RS : Nat → q_S) (d0 : Nat)  (hm : RM E f M r) (hTK : r_T r K Wd T) (hT : T ≤ 400) (hKT : 39 ≤ K T) (hK41 : ∀ j, K j < 41) (hP : r_P r K T u tk nd cc ac) (hok : p_ok K T u) (hnm : r_nm r K Wd T 6 pn pN) (hpn : pn ≤ 8) (hpn9 : r 130 0 = nI pn) (hnr : r_nm r K Wd T 7 rc rN) (hrc : rc ≤ 6) (hrc9 : r 109 0 = nI rc) (hv7 : r 107 0 = nI (6 - (d0 + 1))) (hv8 : u.2.1 ≠ 40 → r 108 0 = nI (4 - 4)) (ihB : RBLK l E RS d0) (hd6 : d0 + 1 ≤ 6) : Met l yX14_block wsX14_block ({ frames := 4 * (d0 + 1) + 40, cells := 0, slots := 0, locals := 100 * (d0 + 1) + 1000 }) (q_P E [.ref M] f n) (q_Qi E (fun r0 f1 n1 => ∃ (r1 : q_R) (tk1 nd1 cc1 ac1 : Nat), r_Q r r1 K T (p_blk K Wd pN pn rN rc (d0 + 1) u) tk nd cc ac tk1 nd1 cc1 ac1 ∧ r1 107 0 = r 107 0 ∧ ((p_blk K Wd pN pn rN rc (d0 + 1) u).2.1 ≠ 40 → r1 108 0 = r 108 0) ∧ (True) ∧ ((p_blk K Wd pN pn rN rc (d0 + 1) u).2.1 ≠ 40 → (p_blk K Wd pN pn rN rc (d0 + 1) u).2.2.1 = 0 → ∃ m, mL (bR r1 25) ac ac1 (mA (bR r1 25) pn nd1 cc1 ac1 RS rc (d0 + 1)) m r0 (p_blkS K Wd pN pn rN rc RS (d0 + 1) u)) ∧ rO E f M r1 = f1 ∧ n = n1)) 0 0 (q_ge E) := by
  refine Met.ofW (cc := cX14_block) (maxL := 4) (ret := (some .int)) (by decide) rfl ?_
  intro p e s m args below meth c s₁ B hml hv
  obtain ⟨rfl, hA, hW⟩ := hv
  have hx := B.exec
  have hb := B.bytes
  have hr := B.returns
  have hts := atoms_spec (ws := wsX14_block) B.pre
  have hown : s.vm.findClass RX14 = some m.cls := findClass_of_methodNamed B.named
  have hlocks := B.notSynchronized
  have hS : va_S (q_ge E) s.heap s.heap [] := va_S.rf
  have iX13 : ∀ w ∈ wsX130, w ∈ wsX14_block := by decide +kernel
  have iX14 : ∀ w ∈ wsX140, w ∈ wsX14_block := by decide +kernel
  have hl := lv_entry ([.ref M]) (n := 4) (Nat.le_of_ble_eq_true rfl)
  rw [lg_entry_eq]
  generalize (lg_sl ([.ref M]) ++ List.replicate (4 - (lg_sl ([.ref M])).length) Slot.unset).toArray = ls at hl ⊢
  have hl : lv_has ls 4 [(0, .ref M)] := hl
  have hmE := hm.eq
  rw [hm.eq] at hW
  have Q0 := r_Q.rf hP
  have htk := hP.1.2.1
  have hnd := hP.1.2.2.2.1
  have hcc := hP.1.2.2.2.2.2.1
  have hac := hP.1.2.2.2.2.2.2.2
  refine lv_aload_n hx hb dX14_block_0 rfl (lv_at hl 0 rfl) ?_
  refine q_get hx hb hts hown hA hW iX14 rO_0 rfl 12 (by decide) (hts (.fieldLink RX14 206 "HighRecipesModel" "blocksOpen" "I") (by decide +kernel)) (fun _ h9 => h9) (v := .int (nI (6 - (d0 + 1)))) (congrArg (fun z => some (Value.int z)) hv7) dX14_block_1 ?_
  refine lv_bipush (v := 6) hx hb dX14_block_4 (by decide) ?_
  refine lv_icmp_ne (tgt := 13) hx hb dX14_block_6 (by decide) (fun c_6 => ?_) (fun c_6 => False.elim ((fun h9 => absurd ((nI_eq (by omega) (by decide)).1 (show nI (6 - (d0 + 1)) = nI 6 from h9)) (by omega)) c_6))
  refine lv_aload_n hx hb dX14_block_13 rfl (lv_at hl 0 rfl) ?_
  refine lv_bipush (v := 50) hx hb dX14_block_14 (by decide) ?_
  refine q_cv (va_runV (As := [.int 50]) (rest := []) ⟨hx, hb, hml, hown, hts⟩ (kX14_take l E (rO E f M r) n M r K Wd T u tk nd cc ac 27 50 rO_K hTK hT hKT hK41 Q0.1 hok rfl (by decide)) (cwV 1 hts gX14_block_X14_take rfl rfl rfl (by decide +kernel) ⟨(by show 1 + 1 ≤ 4 * (d0 + 1) + 40; omega), (by show 8 + (2 + 11) + 21 ≤ 100 * (d0 + 1) + 1000; omega)⟩) (q_pV hA hW hS (ci := 12) rfl rO_0) rfl rfl hl.1 rfl (lv_room (Nat.le_of_ble_eq_true rfl)) dX14_block_16 ⟨Nat.le_of_ble_eq_true rfl, Nat.le_of_ble_eq_true rfl⟩) hS (fun f_16 n_16 H locs hp hW hS => ?_)
  obtain ⟨R_16, tk_16, nd_16, cc_16, ac_16, q_16, e7_16, e8_16, ec_16, ex_16, rfl, rfl⟩ := hp
  have G_16 : p_go K T u (p_take K 27 u) := (go_take hKT (by decide))
  have GG_16 := G_16 hok
  have ok_16 := GG_16.1
  have le_16 := GG_16.2.2.2.1
  have er_16 := GG_16.2.2.2.2
  have Q_16 := Q0.trans q_16
  have T_16 := Q_16.tok hTK
  have num_16 := Q_16.2.2
  unfold r_num at num_16
  have bt_16 := Q_16.1.1.2.1
  have bn_16 := Q_16.1.1.2.2.2.1
  have bc_16 := Q_16.1.1.2.2.2.2.2.1
  have ba_16 := Q_16.1.1.2.2.2.2.2.2.2
  have qn_16 := q_16.2.2
  unfold r_num at qn_16
  have h8_16 : (p_take K 27 u).2.1 ≠ 40 → R_16 108 0 = nI (4 - 4) := fun z => (e8_16).trans (hv8 (le_16 z))
  rw [rO_rO] at hW
  have hW : q_W E (rO E f M R_16) n H := hW
  refine lv_aload_n hx hb dX14_block_19 rfl (lv_at hl 0 rfl) ?_
  refine lv_dup hx hb dX14_block_20 rfl ?_
  refine q_get hx hb hts hown hA hW iX14 rO_0 rfl 12 (by decide) (hts (.fieldLink RX14 206 "HighRecipesModel" "blocksOpen" "I") (by decide +kernel)) (fun _ h9 => h9) (v := .int (nI (6 - (d0 + 1)))) (congrArg (fun z => some (Value.int z)) (e7_16.trans hv7)) dX14_block_21 ?_
  refine lv_iconst (v := 1) hx hb dX14_block_24 (by decide) ?_
  refine lv_iadd hx hb dX14_block_25 ?_
  refine q_put hx hb hts hown hA hW hS iX14 tyX14 tyX14_ok nmX14 rO_0 rfl 12 (by decide) (hts (.fieldLink RX14 206 "HighRecipesModel" "blocksOpen" "I") (by decide +kernel)) (fun _ h9 => h9) rfl rfl rfl (Nat.le_of_ble_eq_true rfl) dX14_block_26 (fun H locs hW hS => ?_)
  rw [show (nI (6 - (d0 + 1))) + 1 = nI (6 - d0) from (by rw [nI_1]; congr 1; omega)] at hW
  have hW := q_s0 107 (nI (6 - d0)) hW rfl (by decide)
  obtain ⟨R_29, hR_29⟩ : ∃ z, z = rp R_16 107 (fun _ => nI (6 - d0)) := ⟨_, rfl⟩
  rw [← hR_29] at hW
  have Q_29 : r_Q r R_29 K T (p_take K 27 u) tk nd cc ac tk_16 nd_16 cc_16 ac_16 := by rw [hR_29]; exact Q_16.u7
  have T_29 := Q_29.tok hTK
  have num_29 := Q_29.2.2
  unfold r_num at num_29
  have bt_29 := Q_29.1.1.2.1
  have bn_29 := Q_29.1.1.2.2.2.1
  have bc_29 := Q_29.1.1.2.2.2.2.2.1
  have ba_29 := Q_29.1.1.2.2.2.2.2.2.2
  have h8_29 : (p_take K 27 u).2.1 ≠ 40 → R_29 108 0 = nI (4 - 4) := fun z => by rw [hR_29]; exact h8_16 z
  refine lv_iconst (v := (-1)) hx hb dX14_block_29 (by decide) ?_
  refine lv_istore_n (lv' := [(1, .int (-1)), (0, .ref M)]) hx hb dX14_block_30 rfl hl (by decide) rfl (fun ls hl => ?_)
  refine lv_iconst (v := (-1)) hx hb dX14_block_31 (by decide) ?_
  refine lv_istore_n (lv' := [(2, .int (-1)), (1, .int (-1)), (0, .ref M)]) hx hb dX14_block_32 rfl hl (by decide) rfl (fun ls hl => ?_)
  have K33 : ∀ (fu : Nat) (R_9 : q_R) (s9 : p_S) (m9 : Nat) (tk_9 : Nat) (nd_9 : Nat) (cc_9 : Nat) (ac_9 : Nat) (x9 : Nat) (o1 : Int32) (o2 : Int32) (w9 : Nat) (Q_9 : r_Q r R_9 K T s9 tk nd cc ac tk_9 nd_9 cc_9 ac_9) (ok_9 : p_ok K T s9) (k7_9 : R_9 107 0 = nI (6 - d0)) (e8_9 : s9.2.1 ≠ 40 → R_9 108 0 = r 108 0) (h8_9 : s9.2.1 ≠ 40 → R_9 108 0 = nI (4 - 4)) (hm9 : s9.2.1 ≠ 40 → 400 ≤ m9 + s9.1) (hU9 : (p_blk K Wd pN pn rN rc (d0 + 1) u) = p_take K 28 (p_acts (p_act K Wd pN pn rN rc (p_blk K Wd pN pn rN rc d0)) m9 s9)) (hw9 : R_9 104 0 = 0 → 1 ≤ w9) (hl9 : (o2 = -1 ∧ o1 = -1 ∧ x9 = ac_9) ∨ (o2 = nI x9 ∧ ¬ o1 = -1 ∧ x9 ≤ 80 ∧ ac ≤ x9)) (hx9 : (p_blk K Wd pN pn rN rc (d0 + 1) u).2.1 ≠ 40 → (p_blk K Wd pN pn rN rc (d0 + 1) u).2.2.1 = 0 → o2 = nI x9 → x9 < ac_9 ∧ R_9 35 x9 = -1) (hc9 : (p_blk K Wd pN pn rN rc (d0 + 1) u).2.1 ≠ 40 → (p_blk K Wd pN pn rN rc (d0 + 1) u).2.2.1 = 0 → ∀ (G : q_R) (o : Int32) (nd1 cc1 ac1 : Nat), r_F R_9 G nd_9 cc_9 ac ac_9 x9 → nd_9 ≤ nd1 → cc_9 ≤ cc1 → ac_9 ≤ ac1 → (o2 = nI x9 → G 35 x9 = o) → (∃ m, mL (bR G 25) ac_9 ac1 (mA (bR G 25) pn nd1 cc1 ac1 RS rc (d0 + 1)) m o (p_actsS (p_act K Wd pN pn rN rc (p_blk K Wd pN pn rN rc d0)) (p_actS K Wd pN pn rN rc RS (p_blk K Wd pN pn rN rc d0) (p_blkS K Wd pN pn rN rc RS d0)) m9 s9)) → ∃ m, mL (bR G 25) ac ac1 (mA (bR G 25) pn nd1 cc1 ac1 RS rc (d0 + 1)) m (if o2 = -1 then o else o1) (p_blkS K Wd pN pn rN rc RS (d0 + 1) u)) (hm : m9 + w9 < fu) (H : Heap) (locs : List Loc) (ls : Array Slot), q_W E (rO E f M R_9) n H → va_S (q_ge E) s.heap H locs → lv_has ls 4 [(0, .ref M), (1, .int o1), (2, .int o2)] → W p l e (headSpec wsX14_block ({ frames := 4 * (d0 + 1) + 40, cells := 0, slots := 0, locals := 100 * (d0 + 1) + 1000 })).room s m ([.ref M] : List Value).toArray below meth c H locs 0 0 (MQ below (q_Qi E (fun r0 f1 n1 => ∃ (r1 : q_R) (tk1 nd1 cc1 ac1 : Nat), r_Q r r1 K T (p_blk K Wd pN pn rN rc (d0 + 1) u) tk nd cc ac tk1 nd1 cc1 ac1 ∧ r1 107 0 = r 107 0 ∧ ((p_blk K Wd pN pn rN rc (d0 + 1) u).2.1 ≠ 40 → r1 108 0 = r 108 0) ∧ (True) ∧ ((p_blk K Wd pN pn rN rc (d0 + 1) u).2.1 ≠ 40 → (p_blk K Wd pN pn rN rc (d0 + 1) u).2.2.1 = 0 → ∃ m, mL (bR r1 25) ac ac1 (mA (bR r1 25) pn nd1 cc1 ac1 RS rc (d0 + 1)) m r0 (p_blkS K Wd pN pn rN rc RS (d0 + 1) u)) ∧ rO E f M r1 = f1 ∧ n = n1)) ([.ref M] : List Value).toArray s 0 0 (q_ge E)) (F0 m 33 ls []) := by
    intro fu
    induction fu with
    | zero =>
      intro R_9 s9 m9 tk_9 nd_9 cc_9 ac_9 x9 o1 o2 w9 Q_9 ok_9 k7_9 e8_9 h8_9 hm9 hU9 hw9 hl9 hx9 hc9 hm
      exact absurd hm (Nat.not_lt_zero _)
    | succ fu ih =>
      intro R_9 s9 m9 tk_9 nd_9 cc_9 ac_9 x9 o1 o2 w9 Q_9 ok_9 k7_9 e8_9 h8_9 hm9 hU9 hw9 hl9 hx9 hc9 hm H locs ls hW hS hl
      have T_9 := Q_9.tok hTK
      have num_9 := Q_9.2.2
      unfold r_num at num_9
      have bt_9 := Q_9.1.1.2.1
      have bn_9 := Q_9.1.1.2.2.2.1
      have bc_9 := Q_9.1.1.2.2.2.2.2.1
      have ba_9 := Q_9.1.1.2.2.2.2.2.2.2
      have k109_9 := (congrFun (Q_9.2.1.1 109 (by decide) (by decide) (by decide)) 0).trans hrc9
      have k130_9 := (congrFun (Q_9.2.1.1 130 (by decide) (by decide) (by decide)) 0).trans hpn9
      refine lv_aload_n hx hb dX14_block_33 rfl (lv_at hl 0 rfl) ?_
      refine q_get hx hb hts hown hA hW iX14 rO_0 rfl 9 (by decide) (hts (.fieldLink RX14 116 "HighRecipesModel" "isWrong" "Z") (by decide +kernel)) (fun _ h9 => h9) (v := .int (R_9 104 0)) rfl dX14_block_34 ?_
      refine lv_if_ne (tgt := 86) hx hb dX14_block_37 (by decide) (fun c_37 => ?_) (fun c_37 => ?_)
      · have hb9 : ¬ b_act s9.2.1 = true := by rw [(Q_9.1.w1 c_37).2.1]; decide
        have eU : (p_blk K Wd pN pn rN rc (d0 + 1) u) = p_take K 28 s9 := by rw [hU9, acts_stop hb9]
        refine lv_aload_n hx hb dX14_block_86 rfl (lv_at hl 0 rfl) ?_
        refine lv_bipush (v := 51) hx hb dX14_block_87 (by decide) ?_
        refine q_cv (va_runV (As := [.int 51]) (rest := []) ⟨hx, hb, hml, hown, hts⟩ (kX14_take l E (rO E f M R_9) n M R_9 K Wd T s9 tk_9 nd_9 cc_9 ac_9 28 51 rO_K T_9 hT hKT hK41 Q_9.1 ok_9 rfl (by decide)) (cwV 1 hts gX14_block_X14_take rfl rfl rfl (by decide +kernel) ⟨(by show 1 + 1 ≤ 4 * (d0 + 1) + 40; omega), (by show 8 + (2 + 11) + 21 ≤ 100 * (d0 + 1) + 1000; omega)⟩) (q_pV hA hW hS (ci := 12) rfl rO_0) rfl rfl hl.1 rfl (lv_room (Nat.le_of_ble_eq_true rfl)) dX14_block_89 ⟨Nat.le_of_ble_eq_true rfl, Nat.le_of_ble_eq_true rfl⟩) hS (fun f_89 n_89 H locs hp hW hS => ?_)
        obtain ⟨R_89, tk_89, nd_89, cc_89, ac_89, q_89, e7_89, e8_89, ec_89, ex_89, rfl, rfl⟩ := hp
        have G_89 : p_go K T s9 (p_take K 28 s9) := (go_take hKT (by decide))
        have GG_89 := G_89 ok_9
        have ok_89 := GG_89.1
        have le_89 := GG_89.2.2.2.1
        have er_89 := GG_89.2.2.2.2
        have Q_89 := Q_9.trans q_89
        have T_89 := Q_89.tok hTK
        have num_89 := Q_89.2.2
        unfold r_num at num_89
        have bt_89 := Q_89.1.1.2.1
        have bn_89 := Q_89.1.1.2.2.2.1
        have bc_89 := Q_89.1.1.2.2.2.2.2.1
        have ba_89 := Q_89.1.1.2.2.2.2.2.2.2
        have qn_89 := q_89.2.2
        unfold r_num at qn_89
        have h8_89 : (p_take K 28 s9).2.1 ≠ 40 → R_89 108 0 = nI (4 - 4) := fun z => (e8_89).trans (h8_9 (le_89 z))
        rw [rO_rO] at hW
        have hW : q_W E (rO E f M R_89) n H := hW
        refine lv_aload_n hx hb dX14_block_92 rfl (lv_at hl 0 rfl) ?_
        refine lv_dup hx hb dX14_block_93 rfl ?_
        refine q_get hx hb hts hown hA hW iX14 rO_0 rfl 12 (by decide) (hts (.fieldLink RX14 206 "HighRecipesModel" "blocksOpen" "I") (by decide +kernel)) (fun _ h9 => h9) (v := .int (nI (6 - d0))) (congrArg (fun z => some (Value.int z)) (e7_89.trans k7_9)) dX14_block_94 ?_
        refine lv_iconst (v := 1) hx hb dX14_block_97 (by decide) ?_
        refine lv_isub hx hb dX14_block_98 ?_
        refine q_put hx hb hts hown hA hW hS iX14 tyX14 tyX14_ok nmX14 rO_0 rfl 12 (by decide) (hts (.fieldLink RX14 206 "HighRecipesModel" "blocksOpen" "I") (by decide +kernel)) (fun _ h9 => h9) rfl rfl rfl (Nat.le_of_ble_eq_true rfl) dX14_block_99 (fun H locs hW hS => ?_)
        rw [show (nI (6 - d0)) - 1 = nI (6 - (d0 + 1)) from (by rw [show 6 - d0 = (6 - (d0 + 1)) + 1 by omega]; exact nI_pred _)] at hW
        have hW := q_s0 107 (nI (6 - (d0 + 1))) hW rfl (by decide)
        obtain ⟨R_102, hR_102⟩ : ∃ z, z = rp R_89 107 (fun _ => nI (6 - (d0 + 1))) := ⟨_, rfl⟩
        rw [← hR_102] at hW
        have Q_102 : r_Q r R_102 K T (p_take K 28 s9) tk nd cc ac tk_89 nd_89 cc_89 ac_89 := by rw [hR_102]; exact Q_89.u7
        have T_102 := Q_102.tok hTK
        have num_102 := Q_102.2.2
        unfold r_num at num_102
        have bt_102 := Q_102.1.1.2.1
        have bn_102 := Q_102.1.1.2.2.2.1
        have bc_102 := Q_102.1.1.2.2.2.2.2.1
        have ba_102 := Q_102.1.1.2.2.2.2.2.2.2
        have h8_102 : (p_take K 28 s9).2.1 ≠ 40 → R_102 108 0 = nI (4 - 4) := fun z => by rw [hR_102]; exact h8_89 z
        have G9 : r_G R_9 R_102 nd_9 cc_9 ac_9 := by rw [hR_102]; exact q_89.2.1.up7
        have EX : (p_blk K Wd pN pn rN rc (d0 + 1) u).2.1 ≠ 40 → (p_blk K Wd pN pn rN rc (d0 + 1) u).2.2.1 = 0 → ∃ m, mL (bR R_102 25) ac ac_89 (mA (bR R_102 25) pn nd_89 cc_89 ac_89 RS rc (d0 + 1)) m o1 (p_blkS K Wd pN pn rN rc RS (d0 + 1) u) := by
          intro h1 h2
          have z := hc9 h1 h2 R_102 (-1) nd_89 cc_89 ac_89 G9.F (by omega) (by omega) (by omega) (fun h9 => by have hx := hx9 h1 h2 h9; rw [G9.2.2.2 35 x9 (by decide) (by decide) hx.1]; exact hx.2) ⟨0, rfl, actsS_stop hb9 m9⟩
          rcases hl9 with ⟨g1, g2, g3⟩ | ⟨g1, g2, g3, g4⟩
          · rw [if_pos g1, ← g2] at z; exact z
          · rw [if_neg (by rw [g1]; exact nI_m1 (by omega))] at z; exact z
        refine lv_iload_n hx hb dX14_block_102 rfl (lv_at hl 1 rfl) ?_
        exact q_iret hx hb hr hlocks hW hS ⟨_, _, _, _, _, (by rw [eU]; exact Q_102), ((show R_102 107 0 = nI (6 - (d0 + 1)) from by rw [hR_102]; rfl).trans hv7.symm), (fun h1 => by rw [eU] at h1; exact (fun z => (show R_102 108 0 = r 108 0 from by rw [hR_102]; exact (fun z => e8_89.trans (e8_9 (le_89 z))) z)) h1), trivial, EX, rfl, rfl⟩ (Nat.le_of_ble_eq_true rfl) (Nat.le_of_ble_eq_true rfl) dX14_block_103
      · have hw8 := Q_9.1.nw0 c_37
        have hw1 := hw9 c_37
        refine lv_aload_n hx hb dX14_block_40 rfl (lv_at hl 0 rfl) ?_
        refine q_get hx hb hts hown hA hW iX14 rO_0 rfl 4 (by decide) (hts (.fieldLink RX14 17 "HighRecipesModel" "kind" "[I") (by decide +kernel)) (fun _ h9 => h9) (v := .ref (M + 2)) rfl dX14_block_41 ?_
        refine lv_aload_n hx hb dX14_block_44 rfl (lv_at hl 0 rfl) ?_
        refine q_get hx hb hts hown hA hW iX14 rO_0 rfl 8 (by decide) (hts (.fieldLink RX14 120 "HighRecipesModel" "token" "I") (by decide +kernel)) (fun _ h9 => h9) (v := .int (nI tk_9)) (congrArg (fun z => some (Value.int z)) Q_9.1.1.1) dX14_block_45 ?_
        refine q_ald hx hb hA hW (rO_2 (g := R_9 2) rfl) tk_9 rfl (by omega) (by decide) (x := nI (m_kd (K tk_9))) (T_9.1 tk_9 bt_9) dX14_block_48 ?_
        refine lv_bipush (v := 51) hx hb dX14_block_49 (by decide) ?_
        refine lv_icmp_eq (tgt := 86) hx hb dX14_block_51 (by decide) (fun c_51 => ?_) (fun c_51 => ?_)
        · have e28 : s9.2.1 = 28 := by rw [hw8.2.1, ← hw8.1]; exact (m_kd_eq (hK41 _) (by decide)).1 c_51
          have hb9 : ¬ b_act s9.2.1 = true := by rw [e28]; decide
          have eU : (p_blk K Wd pN pn rN rc (d0 + 1) u) = p_take K 28 s9 := by rw [hU9, acts_stop hb9]
          refine lv_aload_n hx hb dX14_block_86 rfl (lv_at hl 0 rfl) ?_
          refine lv_bipush (v := 51) hx hb dX14_block_87 (by decide) ?_
          refine q_cv (va_runV (As := [.int 51]) (rest := []) ⟨hx, hb, hml, hown, hts⟩ (kX14_take l E (rO E f M R_9) n M R_9 K Wd T s9 tk_9 nd_9 cc_9 ac_9 28 51 rO_K T_9 hT hKT hK41 Q_9.1 ok_9 rfl (by decide)) (cwV 1 hts gX14_block_X14_take rfl rfl rfl (by decide +kernel) ⟨(by show 1 + 1 ≤ 4 * (d0 + 1) + 40; omega), (by show 8 + (2 + 11) + 21 ≤ 100 * (d0 + 1) + 1000; omega)⟩) (q_pV hA hW hS (ci := 12) rfl rO_0) rfl rfl hl.1 rfl (lv_room (Nat.le_of_ble_eq_true rfl)) dX14_block_89 ⟨Nat.le_of_ble_eq_true rfl, Nat.le_of_ble_eq_true rfl⟩) hS (fun f_89 n_89 H locs hp hW hS => ?_)
          obtain ⟨R_89, tk_89, nd_89, cc_89, ac_89, q_89, e7_89, e8_89, ec_89, ex_89, rfl, rfl⟩ := hp
          have G_89 : p_go K T s9 (p_take K 28 s9) := (go_take hKT (by decide))
          have GG_89 := G_89 ok_9
          have ok_89 := GG_89.1
          have le_89 := GG_89.2.2.2.1
          have er_89 := GG_89.2.2.2.2
          have Q_89 := Q_9.trans q_89
          have T_89 := Q_89.tok hTK
          have num_89 := Q_89.2.2
          unfold r_num at num_89
          have bt_89 := Q_89.1.1.2.1
          have bn_89 := Q_89.1.1.2.2.2.1
          have bc_89 := Q_89.1.1.2.2.2.2.2.1
          have ba_89 := Q_89.1.1.2.2.2.2.2.2.2
          have qn_89 := q_89.2.2
          unfold r_num at qn_89
          have h8_89 : (p_take K 28 s9).2.1 ≠ 40 → R_89 108 0 = nI (4 - 4) := fun z => (e8_89).trans (h8_9 (le_89 z))
          rw [rO_rO] at hW
          have hW : q_W E (rO E f M R_89) n H := hW
          refine lv_aload_n hx hb dX14_block_92 rfl (lv_at hl 0 rfl) ?_
          refine lv_dup hx hb dX14_block_93 rfl ?_
          refine q_get hx hb hts hown hA hW iX14 rO_0 rfl 12 (by decide) (hts (.fieldLink RX14 206 "HighRecipesModel" "blocksOpen" "I") (by decide +kernel)) (fun _ h9 => h9) (v := .int (nI (6 - d0))) (congrArg (fun z => some (Value.int z)) (e7_89.trans k7_9)) dX14_block_94 ?_
          refine lv_iconst (v := 1) hx hb dX14_block_97 (by decide) ?_
          refine lv_isub hx hb dX14_block_98 ?_
          refine q_put hx hb hts hown hA hW hS iX14 tyX14 tyX14_ok nmX14 rO_0 rfl 12 (by decide) (hts (.fieldLink RX14 206 "HighRecipesModel" "blocksOpen" "I") (by decide +kernel)) (fun _ h9 => h9) rfl rfl rfl (Nat.le_of_ble_eq_true rfl) dX14_block_99 (fun H locs hW hS => ?_)
          rw [show (nI (6 - d0)) - 1 = nI (6 - (d0 + 1)) from (by rw [show 6 - d0 = (6 - (d0 + 1)) + 1 by omega]; exact nI_pred _)] at hW
          have hW := q_s0 107 (nI (6 - (d0 + 1))) hW rfl (by decide)
          obtain ⟨R_102, hR_102⟩ : ∃ z, z = rp R_89 107 (fun _ => nI (6 - (d0 + 1))) := ⟨_, rfl⟩
          rw [← hR_102] at hW
          have Q_102 : r_Q r R_102 K T (p_take K 28 s9) tk nd cc ac tk_89 nd_89 cc_89 ac_89 := by rw [hR_102]; exact Q_89.u7
          have T_102 := Q_102.tok hTK
          have num_102 := Q_102.2.2
          unfold r_num at num_102
          have bt_102 := Q_102.1.1.2.1
          have bn_102 := Q_102.1.1.2.2.2.1
          have bc_102 := Q_102.1.1.2.2.2.2.2.1
          have ba_102 := Q_102.1.1.2.2.2.2.2.2.2
          have h8_102 : (p_take K 28 s9).2.1 ≠ 40 → R_102 108 0 = nI (4 - 4) := fun z => by rw [hR_102]; exact h8_89 z
          have G9 : r_G R_9 R_102 nd_9 cc_9 ac_9 := by rw [hR_102]; exact q_89.2.1.up7
          have EX : (p_blk K Wd pN pn rN rc (d0 + 1) u).2.1 ≠ 40 → (p_blk K Wd pN pn rN rc (d0 + 1) u).2.2.1 = 0 → ∃ m, mL (bR R_102 25) ac ac_89 (mA (bR R_102 25) pn nd_89 cc_89 ac_89 RS rc (d0 + 1)) m o1 (p_blkS K Wd pN pn rN rc RS (d0 + 1) u) := by
            intro h1 h2
            have z := hc9 h1 h2 R_102 (-1) nd_89 cc_89 ac_89 G9.F (by omega) (by omega) (by omega) (fun h9 => by have hx := hx9 h1 h2 h9; rw [G9.2.2.2 35 x9 (by decide) (by decide) hx.1]; exact hx.2) ⟨0, rfl, actsS_stop hb9 m9⟩
            rcases hl9 with ⟨g1, g2, g3⟩ | ⟨g1, g2, g3, g4⟩
            · rw [if_pos g1, ← g2] at z; exact z
            · rw [if_neg (by rw [g1]; exact nI_m1 (by omega))] at z; exact z
          refine lv_iload_n hx hb dX14_block_102 rfl (lv_at hl 1 rfl) ?_
          exact q_iret hx hb hr hlocks hW hS ⟨_, _, _, _, _, (by rw [eU]; exact Q_102), ((show R_102 107 0 = nI (6 - (d0 + 1)) from by rw [hR_102]; rfl).trans hv7.symm), (fun h1 => by rw [eU] at h1; exact (fun z => (show R_102 108 0 = r 108 0 from by rw [hR_102]; exact (fun z => e8_89.trans (e8_9 (le_89 z))) z)) h1), trivial, EX, rfl, rfl⟩ (Nat.le_of_ble_eq_true rfl) (Nat.le_of_ble_eq_true rfl) dX14_block_103
        · have e28 : ¬ s9.2.1 = 28 := fun h9 => c_51 (by rw [hw8.1, ← hw8.2.1, h9]; rfl)
          refine lv_aload_n hx hb dX14_block_54 rfl (lv_at hl 0 rfl) ?_
          rcases Decidable.em (b_act s9.2.1 = true) with hb9 | hb9
          · refine q_ci (va_runV (As := []) (rest := []) ⟨hx, hb, hml, hown, hts⟩ (kX14_act_A l E (rO E f M R_9) n M R_9 K Wd T s9 tk_9 nd_9 cc_9 ac_9 pN pn rN rc RS d0 rO_K T_9 hT hKT hK41 Q_9.1 ok_9 (hnm.mv (Q_9.2.1.1 6 (by decide) (by decide) (by decide))) hpn k130_9 (hnr.mv (Q_9.2.1.1 7 (by decide) (by decide) (by decide))) hrc k109_9 (h8_9 (by have h39 := b_act_lt hb9; omega)) ihB hd6 k7_9 hb9) (cwV 0 hts gX14_block_X14_act rfl rfl rfl (by decide +kernel) ⟨(by show (4 * d0 + 42) + 1 ≤ 4 * (d0 + 1) + 40; omega), (by show 8 + (3 + 11) + (100 * d0 + 1060) ≤ 100 * (d0 + 1) + 1000; omega)⟩) (q_pV hA hW hS (ci := 12) rfl rO_0) rfl rfl hl.1 rfl (lv_room (Nat.le_of_ble_eq_true rfl)) dX14_block_55 ⟨Nat.le_of_ble_eq_true rfl, Nat.le_of_ble_eq_true rfl⟩) hS (fun r_55 f_55 n_55 H locs hp hW hS => ?_)
            obtain ⟨R_55, tk_55, nd_55, cc_55, ac_55, q_55, e7_55, e8_55, ec_55, ex_55, rfl, rfl⟩ := hp
            have G_55 : p_go K T s9 (p_act K Wd pN pn rN rc (p_blk K Wd pN pn rN rc d0) s9) := (go_act hKT (go_blk hKT d0) hb9)
            have GG_55 := G_55 ok_9
            have ok_55 := GG_55.1
            have le_55 := GG_55.2.2.2.1
            have er_55 := GG_55.2.2.2.2
            have Q_55 := Q_9.trans q_55
            have T_55 := Q_55.tok hTK
            have num_55 := Q_55.2.2
            unfold r_num at num_55
            have bt_55 := Q_55.1.1.2.1
            have bn_55 := Q_55.1.1.2.2.2.1
            have bc_55 := Q_55.1.1.2.2.2.2.2.1
            have ba_55 := Q_55.1.1.2.2.2.2.2.2.2
            have qn_55 := q_55.2.2
            unfold r_num at qn_55
            have h8_55 : (p_act K Wd pN pn rN rc (p_blk K Wd pN pn rN rc d0) s9).2.1 ≠ 40 → R_55 108 0 = nI (4 - 4) := fun z => (e8_55 z).trans (h8_9 (le_55 z))
            rw [rO_rO] at hW
            have hW : q_W E (rO E f M R_55) n H := hW
            obtain ⟨ey_55, ex_55⟩ := ex_55
            subst ey_55
            have hm8 : 1 ≤ m9 := by have h39 := b_act_lt hb9; have h6 := hm9 (by omega); rcases Nat.lt_or_ge s9.1 400 with h4 | h4; omega; exact absurd (show K T < 39 from by rw [show T = s9.1 by omega, ← hw8.2.1]; exact h39) (by omega)
            obtain ⟨m8, rfl⟩ : ∃ m8, m9 = m8 + 1 := ⟨m9 - 1, by omega⟩
            have goM := ((go_acts (A := (p_act K Wd pN pn rN rc (p_blk K Wd pN pn rN rc d0))) (fun s h => go_act (Wd := Wd) (pN := pN) (pn := pn) (rN := rN) (rc := rc) hKT (go_blk hKT d0) h) m8 ((p_act K Wd pN pn rN rc (p_blk K Wd pN pn rN rc d0)) s9)).trans (go_take (w := 28) hKT (by decide)) ok_55).2
            rw [← show (p_blk K Wd pN pn rN rc (d0 + 1) u) = p_take K 28 (p_acts (p_act K Wd pN pn rN rc (p_blk K Wd pN pn rN rc d0)) m8 ((p_act K Wd pN pn rN rc (p_blk K Wd pN pn rN rc d0)) s9)) from hU9.trans (by show p_take K 28 (if b_act s9.2.1 = true then p_acts (p_act K Wd pN pn rN rc (p_blk K Wd pN pn rN rc d0)) m8 ((p_act K Wd pN pn rN rc (p_blk K Wd pN pn rN rc d0)) s9) else s9) = _; rw [if_pos hb9])] at goM
            refine lv_istore_n (lv' := [(3, .int (nI ac_9)), (0, .ref M), (1, .int o1), (2, .int o2)]) hx hb dX14_block_58 rfl hl (by decide) rfl (fun ls hl => ?_)
            rcases hl9 with ⟨rfl, rfl, hx8⟩ | ⟨rfl, hno1, hx80, hxac⟩
            · refine lv_iload_n hx hb dX14_block_59 rfl (lv_at hl 2 rfl) ?_
              refine lv_iconst (v := (-1)) hx hb dX14_block_60 (by decide) ?_
              refine lv_icmp_ne (tgt := 66) hx hb dX14_block_61 (by decide) (fun c_61 => False.elim ((fun h9 => h9 rfl) c_61)) (fun c_61 => ?_)
              refine lv_iload_n hx hb dX14_block_64 rfl (lv_at hl 0 rfl) ?_
              refine lv_istore_n (lv' := [(1, .int (nI ac_9)), (3, .int (nI ac_9)), (0, .ref M), (2, .int (-1))]) hx hb dX14_block_65 rfl hl (by decide) rfl (fun ls hl => ?_)
              refine lv_iload_n hx hb dX14_block_66 rfl (lv_at hl 3 rfl) ?_
              refine lv_iconst (v := (-1)) hx hb dX14_block_67 (by decide) ?_
              refine lv_icmp_eq (tgt := 81) hx hb dX14_block_68 (by decide) (fun c_68 => ?_) (fun c_68 => False.elim ((fun h9 => h9 rfl) c_68))
              refine lv_iload_n hx hb dX14_block_81 rfl (lv_at hl 1 rfl) ?_
              refine lv_istore_n (lv' := [(2, .int (nI ac_9)), (1, .int (nI ac_9)), (3, .int (nI ac_9)), (0, .ref M)]) hx hb dX14_block_82 rfl hl (by decide) rfl (fun ls hl => ?_)
              refine lv_goto (tgt := 33) hx hb dX14_block_83 (by decide) ?_
              have HC : (p_blk K Wd pN pn rN rc (d0 + 1) u).2.1 ≠ 40 → (p_blk K Wd pN pn rN rc (d0 + 1) u).2.2.1 = 0 → ∀ (G : q_R) (o : Int32) (nd1 cc1 ac1 : Nat), r_F R_55 G nd_55 cc_55 ac ac_55 ac_9 → nd_55 ≤ nd1 → cc_55 ≤ cc1 → ac_55 ≤ ac1 → ((nI ac_9) = nI ac_9 → G 35 ac_9 = o) → (∃ m, mL (bR G 25) ac_55 ac1 (mA (bR G 25) pn nd1 cc1 ac1 RS rc (d0 + 1)) m o (p_actsS (p_act K Wd pN pn rN rc (p_blk K Wd pN pn rN rc d0)) (p_actS K Wd pN pn rN rc RS (p_blk K Wd pN pn rN rc d0) (p_blkS K Wd pN pn rN rc RS d0)) m8 ((p_act K Wd pN pn rN rc (p_blk K Wd pN pn rN rc d0)) s9))) → ∃ m, mL (bR G 25) ac ac1 (mA (bR G 25) pn nd1 cc1 ac1 RS rc (d0 + 1)) m (if (nI ac_9) = -1 then o else nI ac_9) (p_blkS K Wd pN pn rN rc RS (d0 + 1) u) := by
                intro k1 k2 G o nd1 cc1 ac1 hF h1 h2 h3 hlast hlist
                obtain ⟨m, hL⟩ := hlist
                obtain ⟨z1, z2, z3, z4⟩ := ex_55 (goM.2.2.1 k1) (goM.2.2.2 k2)
                have hF5 : r_F R_55 G nd_55 cc_55 ac_9 ac_55 ac_9 := ⟨hF.1, hF.2.1, fun j q a b c d => hF.2.2.1 j q a b (by omega) d, fun q c d e => hF.2.2.2 q (by omega) d e⟩
                have hA9 := mA_F z4 hF5 h1 h2 h3
                have hM9 := mL_more hA9 (hlast rfl) (by omega) (by omega) hL
                have e9 : p_actsS (p_act K Wd pN pn rN rc (p_blk K Wd pN pn rN rc d0)) (p_actS K Wd pN pn rN rc RS (p_blk K Wd pN pn rN rc d0) (p_blkS K Wd pN pn rN rc RS d0)) (m8 + 1) s9 = k_cons ((p_actS K Wd pN pn rN rc RS (p_blk K Wd pN pn rN rc d0) (p_blkS K Wd pN pn rN rc RS d0)) s9) (p_actsS (p_act K Wd pN pn rN rc (p_blk K Wd pN pn rN rc d0)) (p_actS K Wd pN pn rN rc RS (p_blk K Wd pN pn rN rc d0) (p_blkS K Wd pN pn rN rc RS d0)) m8 ((p_act K Wd pN pn rN rc (p_blk K Wd pN pn rN rc d0)) s9)) := if_pos hb9
                have hF9 : r_F R_9 G nd_9 cc_9 ac ac_9 x9 := (q_55.2.1.F.trans hF (by omega) (by omega) (by omega) (Nat.le_refl _) (Or.inl (Nat.le_refl _)))
                have z := hc9 k1 k2 G (nI ac_9) nd1 cc1 ac1 hF9 (by omega) (by omega) (by omega) (fun h9 => absurd h9.symm (nI_m1 (by omega))) ⟨m + 1, by rw [e9]; exact hM9⟩
                rw [if_neg (nI_m1 (by omega))]
                rw [if_pos rfl] at z
                exact z
              exact ih R_55 ((p_act K Wd pN pn rN rc (p_blk K Wd pN pn rN rc d0)) s9) m8 tk_55 nd_55 cc_55 ac_55 ac_9 (nI ac_9) (nI ac_9) w9 Q_55 ok_55 (e7_55.trans k7_9) (fun z => (e8_55 z).trans (e8_9 (le_55 z))) h8_55 (fun h9 => by have h7 := act_tk (Wd := Wd) (pN := pN) (pn := pn) (rN := rN) (rc := rc) hKT (go_blk (Wd := Wd) (pN := pN) (pn := pn) (rN := rN) (rc := rc) hKT d0) ok_9 hb9; have h6 := hm9 (by omega); omega) (hU9.trans (by show p_take K 28 (if b_act s9.2.1 = true then p_acts (p_act K Wd pN pn rN rc (p_blk K Wd pN pn rN rc d0)) m8 ((p_act K Wd pN pn rN rc (p_blk K Wd pN pn rN rc d0)) s9) else s9) = _; rw [if_pos hb9])) (fun _ => hw9 c_37) (Or.inr ⟨rfl, nI_m1 (by omega), by omega, by omega⟩) (fun k1 k2 _ => by obtain ⟨z1, z2, z3, z4⟩ := ex_55 (goM.2.2.1 k1) (goM.2.2.2 k2); exact ⟨by omega, z3⟩) HC (by omega) _ _ _ hW hS (lv_sub hl [3, 1, 0] rfl)
            · refine lv_iload_n hx hb dX14_block_59 rfl (lv_at hl 2 rfl) ?_
              refine lv_iconst (v := (-1)) hx hb dX14_block_60 (by decide) ?_
              refine lv_icmp_ne (tgt := 66) hx hb dX14_block_61 (by decide) (fun c_61 => ?_) (fun c_61 => False.elim ((fun h9 => hno1 h9) c_61))
              refine lv_iload_n hx hb dX14_block_66 rfl (lv_at hl 3 rfl) ?_
              refine lv_iconst (v := (-1)) hx hb dX14_block_67 (by decide) ?_
              refine lv_icmp_eq (tgt := 81) hx hb dX14_block_68 (by decide) (fun c_68 => False.elim ((fun h9 => nI_m1 (by omega) h9) c_68)) (fun c_68 => ?_)
              refine lv_aload_n hx hb dX14_block_71 rfl (lv_at hl 1 rfl) ?_
              refine q_get hx hb hts hown hA hW iX14 rO_0 rfl 18 (by decide) (hts (.fieldLink RX14 42 "HighRecipesModel" "fresh" "LHighRecipesModel$Book;") (by decide +kernel)) (fun _ h9 => h9) (v := .ref (M + 25)) rfl dX14_block_72 ?_
              refine q_getN hx hb hts hown hA hW iX13 rO_25 rfl 12 (by decide) (va_Nw.use rfl (hA.2.2.2.1 ("HighRecipesModel", 212, "HighRecipesModel$Book", "next", "[I", "HighRecipesModel") (by decide +kernel))) (fun _ h9 => h9) (v := .ref (M + 35)) rfl dX14_block_75 ?_
              refine lv_iload_n hx hb dX14_block_78 rfl (lv_at hl 3 rfl) ?_
              refine lv_iload_n hx hb dX14_block_79 rfl (lv_at hl 0 rfl) ?_
              refine q_ast hx hb hA hW hS (rO_35 (g := R_55 35) rfl) x9 rfl (by omega) (by decide) dX14_block_80 (fun H locs hW hS => ?_)
              have hW := q_sa 35 hW rfl rfl
              refine lv_iload_n hx hb dX14_block_81 rfl (lv_at hl 0 rfl) ?_
              refine lv_istore_n (lv' := [(2, .int (nI ac_9)), (3, .int (nI ac_9)), (0, .ref M), (1, .int o1)]) hx hb dX14_block_82 rfl hl (by decide) rfl (fun ls hl => ?_)
              obtain ⟨R_85, hR_85⟩ : ∃ z, z = rp R_55 35 (upd (R_55 35) x9 (nI ac_9)) := ⟨_, rfl⟩
              rw [← hR_85] at hW
              have Q_85 : r_Q r R_85 K T (p_act K Wd pN pn rN rc (p_blk K Wd pN pn rN rc d0) s9) tk nd cc ac tk_55 nd_55 cc_55 ac_55 := by rw [hR_85]; exact (Q_55.st (by decide) (by omega))
              have T_85 := Q_85.tok hTK
              have num_85 := Q_85.2.2
              unfold r_num at num_85
              have bt_85 := Q_85.1.1.2.1
              have bn_85 := Q_85.1.1.2.2.2.1
              have bc_85 := Q_85.1.1.2.2.2.2.2.1
              have ba_85 := Q_85.1.1.2.2.2.2.2.2.2
              have h8_85 : (p_act K Wd pN pn rN rc (p_blk K Wd pN pn rN rc d0) s9).2.1 ≠ 40 → R_85 108 0 = nI (4 - 4) := fun z => by rw [hR_85]; exact h8_55 z
              refine lv_goto (tgt := 33) hx hb dX14_block_83 (by decide) ?_
              have HC : (p_blk K Wd pN pn rN rc (d0 + 1) u).2.1 ≠ 40 → (p_blk K Wd pN pn rN rc (d0 + 1) u).2.2.1 = 0 → ∀ (G : q_R) (o : Int32) (nd1 cc1 ac1 : Nat), r_F R_85 G nd_55 cc_55 ac ac_55 ac_9 → nd_55 ≤ nd1 → cc_55 ≤ cc1 → ac_55 ≤ ac1 → ((nI ac_9) = nI ac_9 → G 35 ac_9 = o) → (∃ m, mL (bR G 25) ac_55 ac1 (mA (bR G 25) pn nd1 cc1 ac1 RS rc (d0 + 1)) m o (p_actsS (p_act K Wd pN pn rN rc (p_blk K Wd pN pn rN rc d0)) (p_actS K Wd pN pn rN rc RS (p_blk K Wd pN pn rN rc d0) (p_blkS K Wd pN pn rN rc RS d0)) m8 ((p_act K Wd pN pn rN rc (p_blk K Wd pN pn rN rc d0)) s9))) → ∃ m, mL (bR G 25) ac ac1 (mA (bR G 25) pn nd1 cc1 ac1 RS rc (d0 + 1)) m (if (nI ac_9) = -1 then o else o1) (p_blkS K Wd pN pn rN rc RS (d0 + 1) u) := by
                intro k1 k2 G o nd1 cc1 ac1 hF h1 h2 h3 hlast hlist
                obtain ⟨m, hL⟩ := hlist
                obtain ⟨z1, z2, z3, z4⟩ := ex_55 (goM.2.2.1 k1) (goM.2.2.2 k2)
                have hF5 : r_F R_55 G nd_55 cc_55 ac_9 ac_55 ac_9 := (by have hx := hx9 k1 k2 rfl; have h9 : r_F R_55 R_85 nd_55 cc_55 ac_9 ac_55 x9 := (by rw [hR_85]; exact r_F.at); exact (h9.out (Or.inl hx.1)).trans hF (Nat.le_refl _) (Nat.le_refl _) (Nat.le_refl _) (by omega) (Or.inr (Or.inr rfl)))
                have hA9 := mA_F z4 hF5 h1 h2 h3
                have hM9 := mL_more hA9 (hlast rfl) (by omega) (by omega) hL
                have e9 : p_actsS (p_act K Wd pN pn rN rc (p_blk K Wd pN pn rN rc d0)) (p_actS K Wd pN pn rN rc RS (p_blk K Wd pN pn rN rc d0) (p_blkS K Wd pN pn rN rc RS d0)) (m8 + 1) s9 = k_cons ((p_actS K Wd pN pn rN rc RS (p_blk K Wd pN pn rN rc d0) (p_blkS K Wd pN pn rN rc RS d0)) s9) (p_actsS (p_act K Wd pN pn rN rc (p_blk K Wd pN pn rN rc d0)) (p_actS K Wd pN pn rN rc RS (p_blk K Wd pN pn rN rc d0) (p_blkS K Wd pN pn rN rc RS d0)) m8 ((p_act K Wd pN pn rN rc (p_blk K Wd pN pn rN rc d0)) s9)) := if_pos hb9
                have hF9 : r_F R_9 G nd_9 cc_9 ac ac_9 x9 := (by have h9 : r_F R_55 R_85 nd_55 cc_55 ac ac_9 x9 := (by rw [hR_85]; exact r_F.at); exact ((q_55.2.1.F (x := x9)).trans h9 (by omega) (by omega) (Nat.le_refl _) (Nat.le_refl _) (Or.inr (Or.inr rfl))).trans hF (by omega) (by omega) (by omega) (Nat.le_refl _) (Or.inl (Nat.le_refl _)))
                have z := hc9 k1 k2 G (nI ac_9) nd1 cc1 ac1 hF9 (by omega) (by omega) (by omega) (fun h9 => by have hx := hx9 k1 k2 rfl; rw [hF.2.2.2 x9 hxac (by omega) (by omega), hR_85, rp_s, z_us]) ⟨m + 1, by rw [e9]; exact hM9⟩
                rw [if_neg (nI_m1 (by omega))]
                rw [if_neg (nI_m1 (by omega))] at z
                exact z
              exact ih R_85 ((p_act K Wd pN pn rN rc (p_blk K Wd pN pn rN rc d0)) s9) m8 tk_55 nd_55 cc_55 ac_55 ac_9 o1 (nI ac_9) w9 Q_85 ok_55 (show R_85 107 0 = nI (6 - d0) from by rw [hR_85]; exact (e7_55.trans k7_9)) (fun z => (show R_85 108 0 = r 108 0 from by rw [hR_85]; exact (fun z => (e8_55 z).trans (e8_9 (le_55 z))) z)) h8_85 (fun h9 => by have h7 := act_tk (Wd := Wd) (pN := pN) (pn := pn) (rN := rN) (rc := rc) hKT (go_blk (Wd := Wd) (pN := pN) (pn := pn) (rN := rN) (rc := rc) hKT d0) ok_9 hb9; have h6 := hm9 (by omega); omega) (hU9.trans (by show p_take K 28 (if b_act s9.2.1 = true then p_acts (p_act K Wd pN pn rN rc (p_blk K Wd pN pn rN rc d0)) m8 ((p_act K Wd pN pn rN rc (p_blk K Wd pN pn rN rc d0)) s9) else s9) = _; rw [if_pos hb9])) (fun _ => hw9 c_37) (Or.inr ⟨rfl, hno1, by omega, by omega⟩) (fun k1 k2 _ => by obtain ⟨z1, z2, z3, z4⟩ := ex_55 (goM.2.2.1 k1) (goM.2.2.2 k2); exact ⟨by omega, by have hx := hx9 k1 k2 rfl; rw [hR_85, rp_s, z_un (by omega)]; exact z3⟩) HC (by omega) _ _ _ hW hS (lv_sub hl [2, 3, 0] rfl)
          · refine q_ci (va_runV (As := []) (rest := []) ⟨hx, hb, hml, hown, hts⟩ (kX14_act_W l E (rO E f M R_9) n M R_9 K Wd T s9 tk_9 nd_9 cc_9 ac_9 pN pn rN rc RS d0 rO_K T_9 hT hKT hK41 Q_9.1 ok_9 (hnm.mv (Q_9.2.1.1 6 (by decide) (by decide) (by decide))) hpn k130_9 (hnr.mv (Q_9.2.1.1 7 (by decide) (by decide) (by decide))) hrc k109_9 ihB hd6 k7_9 hb9 c_37) (cwV 0 hts gX14_block_X14_act rfl rfl rfl (by decide +kernel) ⟨(by show (4 * d0 + 42) + 1 ≤ 4 * (d0 + 1) + 40; omega), (by show 8 + (3 + 11) + (100 * d0 + 1060) ≤ 100 * (d0 + 1) + 1000; omega)⟩) (q_pV hA hW hS (ci := 12) rfl rO_0) rfl rfl hl.1 rfl (lv_room (Nat.le_of_ble_eq_true rfl)) dX14_block_55 ⟨Nat.le_of_ble_eq_true rfl, Nat.le_of_ble_eq_true rfl⟩) hS (fun r_55 f_55 n_55 H locs hp hW hS => ?_)
            obtain ⟨R_55, tk_55, nd_55, cc_55, ac_55, q_55, e7_55, e8_55, ec_55, ex_55, rfl, rfl⟩ := hp
            have G_55 : p_go K T s9 (p_step K false s9) := (go_step hKT (fun h9 => by cases h9))
            have GG_55 := G_55 ok_9
            have ok_55 := GG_55.1
            have le_55 := GG_55.2.2.2.1
            have er_55 := GG_55.2.2.2.2
            have Q_55 := Q_9.trans q_55
            have T_55 := Q_55.tok hTK
            have num_55 := Q_55.2.2
            unfold r_num at num_55
            have bt_55 := Q_55.1.1.2.1
            have bn_55 := Q_55.1.1.2.2.2.1
            have bc_55 := Q_55.1.1.2.2.2.2.2.1
            have ba_55 := Q_55.1.1.2.2.2.2.2.2.2
            have qn_55 := q_55.2.2
            unfold r_num at qn_55
            have h8_55 : (p_step K false s9).2.1 ≠ 40 → R_55 108 0 = nI (4 - 4) := fun z => (e8_55 z).trans (h8_9 (le_55 z))
            rw [rO_rO] at hW
            have hW : q_W E (rO E f M R_55) n H := hW
            obtain ⟨ex_55, ey_55⟩ := ex_55
            subst ey_55
            have hUb : (p_blk K Wd pN pn rN rc (d0 + 1) u).2.1 = 40 := by rw [hU9, acts_stop hb9]; exact (step_bad (decide_eq_false e28)).2
            refine lv_istore_n (lv' := [(3, .int (nI ac_9)), (0, .ref M), (1, .int o1), (2, .int o2)]) hx hb dX14_block_58 rfl hl (by decide) rfl (fun ls hl => ?_)
            rcases hl9 with ⟨rfl, rfl, hx8⟩ | ⟨rfl, hno1, hx80, hxac⟩
            · refine lv_iload_n hx hb dX14_block_59 rfl (lv_at hl 2 rfl) ?_
              refine lv_iconst (v := (-1)) hx hb dX14_block_60 (by decide) ?_
              refine lv_icmp_ne (tgt := 66) hx hb dX14_block_61 (by decide) (fun c_61 => False.elim ((fun h9 => h9 rfl) c_61)) (fun c_61 => ?_)
              refine lv_iload_n hx hb dX14_block_64 rfl (lv_at hl 0 rfl) ?_
              refine lv_istore_n (lv' := [(1, .int (nI ac_9)), (3, .int (nI ac_9)), (0, .ref M), (2, .int (-1))]) hx hb dX14_block_65 rfl hl (by decide) rfl (fun ls hl => ?_)
              refine lv_iload_n hx hb dX14_block_66 rfl (lv_at hl 3 rfl) ?_
              refine lv_iconst (v := (-1)) hx hb dX14_block_67 (by decide) ?_
              refine lv_icmp_eq (tgt := 81) hx hb dX14_block_68 (by decide) (fun c_68 => ?_) (fun c_68 => False.elim ((fun h9 => h9 rfl) c_68))
              refine lv_iload_n hx hb dX14_block_81 rfl (lv_at hl 1 rfl) ?_
              refine lv_istore_n (lv' := [(2, .int (nI ac_9)), (1, .int (nI ac_9)), (3, .int (nI ac_9)), (0, .ref M)]) hx hb dX14_block_82 rfl hl (by decide) rfl (fun ls hl => ?_)
              refine lv_goto (tgt := 33) hx hb dX14_block_83 (by decide) ?_
              exact ih R_55 (p_step K false s9) m9 tk_55 nd_55 cc_55 ac_55 ac_9 (nI ac_9) (nI ac_9) 0 Q_55 ok_55 (e7_55.trans k7_9) (fun z => (e8_55 z).trans (e8_9 (le_55 z))) h8_55 (fun h9 => absurd (step_bad rfl).2 h9) (hU9.trans (by rw [acts_stop hb9, acts_stop (by rw [(step_bad rfl).2]; decide)]; exact (take_stop e28).symm)) (fun h9 => absurd (ex_55.symm.trans h9) (by decide)) (Or.inr ⟨rfl, nI_m1 (by omega), by omega, by omega⟩) (fun k1 => absurd hUb k1) (fun k1 => absurd hUb k1) (by omega) _ _ _ hW hS (lv_sub hl [3, 1, 0] rfl)
            · refine lv_iload_n hx hb dX14_block_59 rfl (lv_at hl 2 rfl) ?_
              refine lv_iconst (v := (-1)) hx hb dX14_block_60 (by decide) ?_
              refine lv_icmp_ne (tgt := 66) hx hb dX14_block_61 (by decide) (fun c_61 => ?_) (fun c_61 => False.elim ((fun h9 => hno1 h9) c_61))
              refine lv_iload_n hx hb dX14_block_66 rfl (lv_at hl 3 rfl) ?_
              refine lv_iconst (v := (-1)) hx hb dX14_block_67 (by decide) ?_
              refine lv_icmp_eq (tgt := 81) hx hb dX14_block_68 (by decide) (fun c_68 => False.elim ((fun h9 => nI_m1 (by omega) h9) c_68)) (fun c_68 => ?_)
              refine lv_aload_n hx hb dX14_block_71 rfl (lv_at hl 1 rfl) ?_
              refine q_get hx hb hts hown hA hW iX14 rO_0 rfl 18 (by decide) (hts (.fieldLink RX14 42 "HighRecipesModel" "fresh" "LHighRecipesModel$Book;") (by decide +kernel)) (fun _ h9 => h9) (v := .ref (M + 25)) rfl dX14_block_72 ?_
              refine q_getN hx hb hts hown hA hW iX13 rO_25 rfl 12 (by decide) (va_Nw.use rfl (hA.2.2.2.1 ("HighRecipesModel", 212, "HighRecipesModel$Book", "next", "[I", "HighRecipesModel") (by decide +kernel))) (fun _ h9 => h9) (v := .ref (M + 35)) rfl dX14_block_75 ?_
              refine lv_iload_n hx hb dX14_block_78 rfl (lv_at hl 3 rfl) ?_
              refine lv_iload_n hx hb dX14_block_79 rfl (lv_at hl 0 rfl) ?_
              refine q_ast hx hb hA hW hS (rO_35 (g := R_55 35) rfl) x9 rfl (by omega) (by decide) dX14_block_80 (fun H locs hW hS => ?_)
              have hW := q_sa 35 hW rfl rfl
              refine lv_iload_n hx hb dX14_block_81 rfl (lv_at hl 0 rfl) ?_
              refine lv_istore_n (lv' := [(2, .int (nI ac_9)), (3, .int (nI ac_9)), (0, .ref M), (1, .int o1)]) hx hb dX14_block_82 rfl hl (by decide) rfl (fun ls hl => ?_)
              obtain ⟨R_85, hR_85⟩ : ∃ z, z = rp R_55 35 (upd (R_55 35) x9 (nI ac_9)) := ⟨_, rfl⟩
              rw [← hR_85] at hW
              have Q_85 : r_Q r R_85 K T (p_step K false s9) tk nd cc ac tk_55 nd_55 cc_55 ac_55 := by rw [hR_85]; exact (Q_55.st (by decide) (by omega))
              have T_85 := Q_85.tok hTK
              have num_85 := Q_85.2.2
              unfold r_num at num_85
              have bt_85 := Q_85.1.1.2.1
              have bn_85 := Q_85.1.1.2.2.2.1
              have bc_85 := Q_85.1.1.2.2.2.2.2.1
              have ba_85 := Q_85.1.1.2.2.2.2.2.2.2
              have h8_85 : (p_step K false s9).2.1 ≠ 40 → R_85 108 0 = nI (4 - 4) := fun z => by rw [hR_85]; exact h8_55 z
              refine lv_goto (tgt := 33) hx hb dX14_block_83 (by decide) ?_
              exact ih R_85 (p_step K false s9) m9 tk_55 nd_55 cc_55 ac_55 ac_9 o1 (nI ac_9) 0 Q_85 ok_55 (show R_85 107 0 = nI (6 - d0) from by rw [hR_85]; exact (e7_55.trans k7_9)) (fun z => (show R_85 108 0 = r 108 0 from by rw [hR_85]; exact (fun z => (e8_55 z).trans (e8_9 (le_55 z))) z)) h8_85 (fun h9 => absurd (step_bad rfl).2 h9) (hU9.trans (by rw [acts_stop hb9, acts_stop (by rw [(step_bad rfl).2]; decide)]; exact (take_stop e28).symm)) (fun h9 => absurd ((show R_85 104 0 = 1 from by rw [hR_85]; exact ex_55).symm.trans h9) (by decide)) (Or.inr ⟨rfl, hno1, by omega, by omega⟩) (fun k1 => absurd hUb k1) (fun k1 => absurd hUb k1) (by omega) _ _ _ hW hS (lv_sub hl [2, 3, 0] rfl)
  exact K33 _ R_29 (p_take K 27 u) 400 tk_16 nd_16 cc_16 ac_16 ac_16 (-1) (-1) 1 Q_29 ok_16 (show R_29 107 0 = nI (6 - d0) from by rw [hR_29]; rfl) (fun _ => (show R_29 108 0 = r 108 0 from by rw [hR_29]; exact (e8_16.trans rfl))) h8_29 (fun _ => Nat.le_add_right _ _) rfl (fun _ => Nat.le_refl _) (Or.inl ⟨rfl, rfl, rfl⟩) (fun _ _ h9 => absurd h9.symm (nI_m1 (by omega))) (fun k1 k2 G o nd1 cc1 ac1 hF h1 h2 h3 _ hL => by rw [if_pos rfl]; obtain ⟨m, hM⟩ := hL; exact ⟨m, mL_lo hM (by omega)⟩) (Nat.lt_succ_self _) _ _ _ hW hS (lv_sub hl [2, 1, 0] rfl)

theorem rblk_all (l : Launch) (E : q_E) (RS : Nat → q_S) : ∀ d, RBLK l E RS d
  | 0 => fun f n M r K Wd T u tk nd cc ac pN pn rN rc hm hTK hT hKT hK41 hP hok hnm hpn hpn9 hnr hrc hrc9 hv7 hv8 hd => kX14_block_0 l E f n M r K Wd T u tk nd cc ac pN pn rN rc RS 0 hm hTK hT hKT hK41 hP hok hnm hpn hpn9 hnr hrc hrc9 hv7 hv8
  | d + 1 => fun f n M r K Wd T u tk nd cc ac pN pn rN rc hm hTK hT hKT hK41 hP hok hnm hpn hpn9 hnr hrc hrc9 hv7 hv8 hd => kX14_block_S l E f n M r K Wd T u tk nd cc ac pN pn rN rc RS d hm hTK hT hKT hK41 hP hok hnm hpn hpn9 hnr hrc hrc9 hv7 hv8 (rblk_all l E RS d) hd
