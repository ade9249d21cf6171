/-! the reference reads a book -/
def r_B (r r1 : q_R) : Prop := ∀ j, (j ≤ 5 ∨ (8 ≤ j ∧ j ≤ 25) ∨ (42 ≤ j ∧ j ≤ 102) ∨ (110 ≤ j ∧ j ≤ 129) ∨ 135 ≤ j) → r1 j = r j
def r_Y (r r1 : q_R) (K : Nat → Nat) (T : Nat) (u1 : p_S) (tk nd cc ac tk1 nd1 cc1 ac1 : Nat) : Prop := r_P r1 K T u1 tk1 nd1 cc1 ac1 ∧ r_B r r1 ∧ r_num tk nd cc ac tk1 nd1 cc1 ac1
section RY
variable {r r1 r2 : q_R} {K : Nat → Nat} {Wd : Nat → Int64} {T : Nat} {u u1 u2 : p_S} {tk nd cc ac tk1 nd1 cc1 ac1 tk2 nd2 cc2 ac2 : Nat}
theorem r_Y.rf (h : r_P r K T u tk nd cc ac) : r_Y r r K T u tk nd cc ac tk nd cc ac := ⟨h, fun _ _ => rfl, ⟨Nat.le_refl _, Nat.le_refl _, Nat.le_refl _, Nat.le_refl _, Nat.le_refl _, Nat.le_refl _⟩⟩
theorem r_Y.trans (h : r_Y r r1 K T u1 tk nd cc ac tk1 nd1 cc1 ac1) (h2 : r_Q r1 r2 K T u2 tk1 nd1 cc1 ac1 tk2 nd2 cc2 ac2) : r_Y r r2 K T u2 tk nd cc ac tk2 nd2 cc2 ac2 :=
  ⟨h2.1, fun j hj => (h2.2.1.1 j (by omega) (by omega) (by omega)).trans (h.2.1 j hj), h.2.2.trans h2.2.2⟩
theorem r_Y.tok (h : r_Y r r1 K T u1 tk nd cc ac tk1 nd1 cc1 ac1) (ht : r_T r K Wd T) : r_T r1 K Wd T := ht.mv (fun j h1 h5 => h.2.1 j (Or.inl h5))
theorem r_Y.up (h : r_Y r r1 K T u1 tk nd cc ac tk1 nd1 cc1 ac1) {j : Nat} {g : Nat → Int32} (hj : j = 6 ∨ j = 7 ∨ j = 26 ∨ j = 27 ∨ j = 109 ∨ j = 130 ∨ j = 131) : r_Y r (rp r1 j g) K T u1 tk nd cc ac tk1 nd1 cc1 ac1 :=
  ⟨h.1.nmu (by omega), fun i hi => (rp_n (by omega)).trans (h.2.1 i hi), h.2.2⟩
end RY
theorem r_nm.more {R R1 R2 : q_R} {K : Nat → Nat} {Wd : Nat → Int64} {T J cnt mx t u1 : Nat} {nm : Nat → Int64} {g : Nat → Int32} (h : r_nm R K Wd T J cnt nm) (hc : cnt ≤ mx) (e : R1 J = g) (hK : K u1 = 37) (hu : u1 = t) (ht : t ≤ T) (h1 : cnt < mx → g = upd (R2 J) cnt (nI t)) (h2 : ¬ cnt < mx → g = R2 J) (e2 : R2 J = R J) : r_nm R1 K Wd T J (min mx (cnt + 1)) (if cnt < mx then vp_updL nm cnt (Wd u1) else nm) := by
  intro i hi
  by_cases h8 : cnt < mx
  · rw [if_pos h8]
    have eg := h1 h8
    by_cases ei : i = cnt
    · subst ei
      exact ⟨t, by rw [e, eg, z_us], ht, by rw [← hu]; exact hK, by rw [← hu]; exact (if_pos rfl).symm⟩
    · obtain ⟨t', a1, a2, a3, a4⟩ := h i (by omega)
      exact ⟨t', by rw [e, eg, z_un ei, e2]; exact a1, a2, a3, a4.trans (if_neg ei).symm⟩
  · rw [if_neg h8]
    obtain ⟨t', a1, a2, a3, a4⟩ := h i (by omega)
    exact ⟨t', by rw [e, h2 h8, e2]; exact a1, a2, a3, a4⟩
theorem hd_more {R R1 hd : Nat → Int32} {cnt : Nat} {X : Int32} (h : ∀ i, i < cnt → R i = hd i) (hc : cnt ≤ 8) (e : R1 = upd R cnt X) : ∀ i, i < min 8 (cnt + 1) → R1 i = (if cnt < 8 then upd hd cnt X else hd) i := by
  intro i hi
  rw [e]
  by_cases h8 : cnt < 8
  · rw [if_pos h8]
    by_cases ei : i = cnt
    · rw [ei, z_us, z_us]
    · rw [z_un ei, z_un ei]; exact h i (by omega)
  · rw [if_neg h8, z_un (by omega)]; exact h i (by omega)
theorem r_E.trans {r r1 r2 : q_R} {nd cc lo hi nd1 cc1 hi1 : Nat} (h : r_E r r1 nd cc lo hi) (h2 : r_E r1 r2 nd1 cc1 lo hi1) (e1 : nd ≤ nd1) (e2 : cc ≤ cc1) (e3 : hi ≤ hi1) : r_E r r2 nd cc lo hi :=
  ⟨fun j q a b c => (h2.1 j q a b (by omega)).trans (h.1 j q a b c), fun j q a b c => (h2.2.1 j q a b (by omega)).trans (h.2.1 j q a b c), fun j q a b c d => (h2.2.2 j q a b c (by omega)).trans (h.2.2 j q a b c d)⟩
theorem rpl_E {r : q_R} {j nd cc lo hi : Nat} {g : Nat → Int32} (hj : j < 28) : r_E r (rp r j g) nd cc lo hi := ⟨fun i q a b c => by rw [rp_n (by omega)], fun i q a b c => by rw [rp_n (by omega)], fun i q a b c d => by rw [rp_n (by omega)]⟩
theorem mRS_E {r r1 : q_R} {pn nd cc hi nd1 cc1 hi1 R : Nat} {RS : Nat → q_S} (h : mRS (bR r 25) pn nd cc hi RS R) (hE : r_E r r1 nd cc 0 hi) (h27 : ∀ i, i < R → r1 27 i = r 27 i) (e1 : nd ≤ nd1) (e2 : cc ≤ cc1) (e3 : hi ≤ hi1) : mRS (bR r1 25) pn nd1 cc1 hi1 RS R := by
  intro i hi
  obtain ⟨h6, m, hL⟩ := h i hi
  refine ⟨h6, m, ?_⟩
  rw [show bR r1 25 2 i = bR r 25 2 i from h27 i hi]
  exact mL_E hL hE e1 e2 e3
theorem mL_RS {B : q_R} {pn hn hc lo hi R d m : Nat} {RS RS' : Nat → q_S} {o : Int32} {S : q_S} (h : mL B lo hi (mA B pn hn hc hi RS R d) m o S) (hRS : ∀ r, r < R → RS' r = RS r) : mL B lo hi (mA B pn hn hc hi RS' R d) m o S :=
  mL_frame (fun _ _ _ => rfl) (Nat.le_refl _) (Nat.le_refl _) (fun a S _ y => mA_frame (fun _ _ => rfl) (fun _ _ => rfl) (fun _ _ => rfl) (Nat.le_refl _) (fun _ _ => ⟨rfl, rfl, rfl⟩) (Nat.le_refl _) (Nat.le_refl _) (Nat.le_refl _) hRS d a S (fun _ _ _ _ _ _ => rfl) (fun _ _ _ => rfl) y) m o S h
theorem mRS_more {r1 : q_R} {pn nd cc hi rc m lo : Nat} {RS : Nat → q_S} {o : Int32} {S : q_S} (hrc : rc < 6) (h : mRS (bR r1 25) pn nd cc hi RS rc) (hL : mL (bR r1 25) lo hi (mA (bR r1 25) pn nd cc hi RS rc 6) m o S) (ho : r1 27 rc = o) : mRS (bR r1 25) pn nd cc hi (rs_up RS rc S) (rc + 1) := by
  have hRS : ∀ r', r' < rc → rs_up RS rc S r' = RS r' := fun r' hr' => if_neg (by omega)
  intro i hi
  by_cases e : i = rc
  · subst e
    refine ⟨hrc, m, ?_⟩
    rw [show bR r1 25 2 i = o from ho, show rs_up RS i S i = S from if_pos rfl]
    exact mL_RS (mL_lo hL (Nat.zero_le _)) hRS
  · obtain ⟨h6, m1, hL1⟩ := h i (by omega)
    refine ⟨h6, m1, ?_⟩
    rw [hRS i (by omega)]
    exact mL_RS hL1 (fun r' hr' => hRS r' (by omega))
section BS
variable {K : Nat → Nat} {Wd : Nat → Int64}
theorem pans_stop {s : p_S} {pn : Nat} {pN : Nat → Int64} {hd : Nat → Int32} (h : ¬ s.2.1 = 0) : ∀ m, b_pans K Wd m s pn pN hd = (s, pn, pN, hd)
  | 0 => rfl
  | m + 1 => if_neg h
theorem pans_step {s : p_S} {pn m : Nat} {pN : Nat → Int64} {hd : Nat → Int32} (h : s.2.1 = 0) (hp : pn ≤ 8) : b_pans K Wd (m + 1) s pn pN hd = b_pans K Wd m (p_panS K Wd pn pN s) (min 8 (pn + 1)) (if pn < 8 then vp_updL pN pn (Wd (p_take K 0 s).1) else pN) (if pn < 8 then upd hd pn (p_panX K Wd pn pN s) else hd) := by
  refine (if_pos h).trans ?_
  by_cases h8 : pn < 8
  · rw [if_pos h8, if_pos h8, if_pos h8, Nat.min_eq_right (by omega)]
  · rw [if_neg h8, if_neg h8, if_neg h8, Nat.min_eq_left (by omega), show 8 = pn by omega]
theorem recs_stop {s : p_S} {pn rc : Nat} {pN rN : Nat → Int64} {RS : Nat → q_S} (h : ¬ s.2.1 = 2) : ∀ m, b_recs K Wd pn pN m s rc rN RS = (s, rc, rN, RS)
  | 0 => rfl
  | m + 1 => if_neg h
theorem recs_step {s : p_S} {pn rc m : Nat} {pN rN : Nat → Int64} {RS : Nat → q_S} (h : s.2.1 = 2) (hp : rc ≤ 6) : b_recs K Wd pn pN (m + 1) s rc rN RS = b_recs K Wd pn pN m (p_blk K Wd pN pn rN rc 6 (p_recS K Wd pn pN rc rN s)) (min 6 (rc + 1)) (if rc < 6 then vp_updL rN rc (Wd (p_take K 2 s).1) else rN) (if rc < 6 then rs_up RS rc (p_blkS K Wd pN pn rN rc RS 6 (p_recS K Wd pn pN rc rN s)) else RS) := by
  refine (if_pos h).trans ?_
  by_cases h8 : rc < 6
  · rw [if_pos h8, if_pos h8, if_pos h8, Nat.min_eq_right (by omega)]; rfl
  · rw [if_neg h8, if_neg h8, if_neg h8, Nat.min_eq_left (by omega), show 6 = rc by omega]
theorem newn_full {s : p_S} {pn rc : Nat} {pN rN : Nat → Int64} (h : (p_newn K Wd pN pn rN rc true s).2.1 ≠ 40) : (p_newn K Wd pN pn rN rc true s).2.2.1 ≠ 0 := by
  have ci : ∀ e, e ≠ 0 → (p_ci true e s).2.2.1 ≠ 0 := by
    intro e he
    show ¬ (if true = true ∧ s.2.2.1 = 0 then e else s.2.2.1) = 0
    by_cases h9 : s.2.2.1 = 0
    · rw [if_pos ⟨rfl, h9⟩]; exact he
    · rw [if_neg (fun z => h9 z.2)]; exact h9
  by_cases e : s.2.1 = 37
  · unfold p_newn
    rw [if_pos e]
    split
    · exact ci 2 (by decide)
    · exact ci 4 (by decide)
  · refine absurd ?_ h
    unfold p_newn
    rw [if_neg e]
    exact (step_bad (decide_eq_false e)).2
end BS

set_option maxHeartbeats 4000000 in
set_option maxRecDepth 100000 in
theorem kX14_book (l : Launch) (E : q_E) (f : q_H) (n : Nat) (M : Nat) (r : q_R) (K : Nat → Nat) (Wd : Nat → Int64) (T : Nat) (u : p_S) (tk nd cc ac : Nat) (et n0 : Nat)  (hm : RM E f M r) (hTK : r_T r K Wd T) (hT : T ≤ 400) (hKT : 39 ≤ K T) (hK41 : ∀ j, K j < 41) (hP : r_P r K T u tk nd cc ac) (hok : p_ok K T u) (hu : u = (0, K 0, 0, et, 0, n0)) (h109 : r 109 0 = 0) (h130 : r 130 0 = 0) (h131 : r 131 0 = 0) (hv7 : r 107 0 = nI (6 - 6)) (hv8 : r 108 0 = nI (4 - 4)) : Met l yX14_book wsX14_book ({ frames := 65, cells := 0, slots := 0, locals := 1623 }) (q_P E [.ref M] f n) (q_Qv E (fun f1 n1 => ∃ (r1 : q_R), r_B r r1 ∧ r1 105 0 = nI (BKp K Wd et n0).2.2.1 ∧ ((BKp K Wd et n0).2.2.1 ≠ 0 → r1 106 0 = nI (BKp K Wd et n0).2.2.2.1) ∧ p_ok K T (BKp K Wd et n0) ∧ ((BKp K Wd et n0).2.2.1 = 0 → r1 130 0 = nI (b_P K Wd et n0).2.1 ∧ (b_P K Wd et n0).2.1 ≤ 8 ∧ r1 131 0 = nI (b_R K Wd et n0).2.1 ∧ (b_R K Wd et n0).2.1 ≤ 6 ∧ r1 132 0 = nI (min 80 (BKp K Wd et n0).2.2.2.2.1) ∧ (∀ i, i < (b_P K Wd et n0).2.1 → r1 26 i = (b_P K Wd et n0).2.2.2 i) ∧ mRS (bR r1 25) (b_P K Wd et n0).2.1 400 400 80 (b_R K Wd et n0).2.2.2 (b_R K Wd et n0).2.1) ∧ rO E f M r1 = f1 ∧ n = n1)) 0 0 (q_ge E) := by
  refine Met.ofW (cc := cX14_book) (maxL := 2) (ret := none) (by decide) rfl ?_
  intro p e s m args below meth c s₁ B hml hv
  obtain ⟨rfl, hA, hW⟩ := hv
  have hx := B.exec
  have hb := B.bytes
  have hr := B.returns
  have hts := atoms_spec (ws := wsX14_book) B.pre
  have hown : s.vm.findClass RX14 = some m.cls := findClass_of_methodNamed B.named
  have hlocks := B.notSynchronized
  have hS : va_S (q_ge E) s.heap s.heap [] := va_S.rf
  have iX13 : ∀ w ∈ wsX130, w ∈ wsX14_book := by decide +kernel
  have iX14 : ∀ w ∈ wsX140, w ∈ wsX14_book := by decide +kernel
  have hl := lv_entry ([.ref M]) (n := 2) (Nat.le_of_ble_eq_true rfl)
  rw [lg_entry_eq]
  generalize (lg_sl ([.ref M]) ++ List.replicate (2 - (lg_sl ([.ref M])).length) Slot.unset).toArray = ls at hl ⊢
  have hl : lv_has ls 2 [(0, .ref M)] := hl
  have hmE := hm.eq
  rw [hm.eq] at hW
  have Q0 := r_Q.rf hP
  have htk := hP.1.2.1
  have hnd := hP.1.2.2.2.1
  have hcc := hP.1.2.2.2.2.2.1
  have hac := hP.1.2.2.2.2.2.2.2
  have Y0 := r_Y.rf hP
  have K0 : ∀ (fu : Nat) (R_9 : q_R) (s9 : p_S) (m9 : Nat) (tk_9 : Nat) (nd_9 : Nat) (cc_9 : Nat) (ac_9 : Nat) (pn9 : Nat) (pN9 : Nat → Int64) (hd9 : Nat → Int32) (Q_9 : r_Y r R_9 K T s9 tk nd cc ac tk_9 nd_9 cc_9 ac_9) (ok_9 : p_ok K T s9) (k7_9 : R_9 107 0 = nI (6 - 6)) (h8_9 : s9.2.1 ≠ 40 → R_9 108 0 = nI (4 - 4)) (h109_9 : R_9 109 0 = nI 0) (h130_9 : R_9 130 0 = nI pn9) (h131_9 : R_9 131 0 = nI 0) (hpn_9 : pn9 ≤ 8) (hm9 : s9.2.1 ≠ 40 → 400 ≤ m9 + s9.1) (hnm9 : s9.2.1 ≠ 40 → r_nm R_9 K Wd T 6 pn9 pN9) (hhd9 : s9.2.1 ≠ 40 → ∀ i, i < pn9 → R_9 26 i = hd9 i) (hinv9 : b_P K Wd et n0 = b_pans K Wd m9 s9 pn9 pN9 hd9) (hm : m9 < fu) (H : Heap) (locs : List Loc) (ls : Array Slot), q_W E (rO E f M R_9) n H → va_S (q_ge E) s.heap H locs → lv_has ls 2 [(0, .ref M)] → W p l e (headSpec wsX14_book ({ frames := 65, cells := 0, slots := 0, locals := 1623 })).room s m ([.ref M] : List Value).toArray below meth c H locs 0 0 (MQ below (q_Qv E (fun f1 n1 => ∃ (r1 : q_R), r_B r r1 ∧ r1 105 0 = nI (BKp K Wd et n0).2.2.1 ∧ ((BKp K Wd et n0).2.2.1 ≠ 0 → r1 106 0 = nI (BKp K Wd et n0).2.2.2.1) ∧ p_ok K T (BKp K Wd et n0) ∧ ((BKp K Wd et n0).2.2.1 = 0 → r1 130 0 = nI (b_P K Wd et n0).2.1 ∧ (b_P K Wd et n0).2.1 ≤ 8 ∧ r1 131 0 = nI (b_R K Wd et n0).2.1 ∧ (b_R K Wd et n0).2.1 ≤ 6 ∧ r1 132 0 = nI (min 80 (BKp K Wd et n0).2.2.2.2.1) ∧ (∀ i, i < (b_P K Wd et n0).2.1 → r1 26 i = (b_P K Wd et n0).2.2.2 i) ∧ mRS (bR r1 25) (b_P K Wd et n0).2.1 400 400 80 (b_R K Wd et n0).2.2.2 (b_R K Wd et n0).2.1) ∧ rO E f M r1 = f1 ∧ n = n1)) ([.ref M] : List Value).toArray s 0 0 (q_ge E)) (F0 m 0 ls []) := by
    intro fu
    induction fu with
    | zero =>
      intro R_9 s9 m9 tk_9 nd_9 cc_9 ac_9 pn9 pN9 hd9 Q_9 ok_9 k7_9 h8_9 h109_9 h130_9 h131_9 hpn_9 hm9 hnm9 hhd9 hinv9 hm
      exact absurd hm (Nat.not_lt_zero _)
    | succ fu ih =>
      intro R_9 s9 m9 tk_9 nd_9 cc_9 ac_9 pn9 pN9 hd9 Q_9 ok_9 k7_9 h8_9 h109_9 h130_9 h131_9 hpn_9 hm9 hnm9 hhd9 hinv9 hm H locs ls hW hS hl
      have T_9 := Q_9.tok hTK
      have num_9 := Q_9.2.2
      unfold r_num at num_9
      have bt_9 := Q_9.1.1.2.1
      have bn_9 := Q_9.1.1.2.2.2.1
      have bc_9 := Q_9.1.1.2.2.2.2.2.1
      have ba_9 := Q_9.1.1.2.2.2.2.2.2.2
      refine lv_aload_n hx hb dX14_book_0 rfl (lv_at hl 0 rfl) ?_
      refine lv_iconst (v := 0) hx hb dX14_book_1 (by decide) ?_
      rcases Decidable.em (s9.2.1 = 0) with e0 | e0
      · refine q_ci (va_runV (As := [.int 0]) (rest := []) ⟨hx, hb, hml, hown, hts⟩ (kX14_takesT l E (rO E f M R_9) n M R_9 K Wd T s9 tk_9 nd_9 cc_9 ac_9 0 0 rO_K T_9 hT hKT hK41 Q_9.1 ok_9 rfl (by decide) e0) (cwV 1 hts gX14_book_X14_takes rfl rfl rfl (by decide +kernel) ⟨(Nat.le_of_ble_eq_true rfl), (Nat.le_of_ble_eq_true rfl)⟩) (q_pV hA hW hS (ci := 12) rfl rO_0) rfl rfl hl.1 rfl (lv_room (Nat.le_of_ble_eq_true rfl)) dX14_book_2 ⟨Nat.le_of_ble_eq_true rfl, Nat.le_of_ble_eq_true rfl⟩) hS (fun r_2 f_2 n_2 H locs hp hW hS => ?_)
        obtain ⟨R_2, tk_2, nd_2, cc_2, ac_2, q_2, e7_2, e8_2, ec_2, ex_2, rfl, rfl⟩ := hp
        have G_2 : p_go K T s9 (p_step K true s9) := (go_step hKT (fun _ => by show s9.2.1 < 39; omega))
        have GG_2 := G_2 ok_9
        have ok_2 := GG_2.1
        have le_2 := GG_2.2.2.2.1
        have er_2 := GG_2.2.2.2.2
        have Q_2 := Q_9.trans q_2
        have T_2 := Q_2.tok hTK
        have num_2 := Q_2.2.2
        unfold r_num at num_2
        have bt_2 := Q_2.1.1.2.1
        have bn_2 := Q_2.1.1.2.2.2.1
        have bc_2 := Q_2.1.1.2.2.2.2.2.1
        have ba_2 := Q_2.1.1.2.2.2.2.2.2.2
        have qn_2 := q_2.2.2
        unfold r_num at qn_2
        have h8_2 : (p_step K true s9).2.1 ≠ 40 → R_2 108 0 = nI (4 - 4) := fun z => (e8_2).trans (h8_9 (le_2 z))
        have w6_2 : R_2 6 = R_9 6 := (q_2.2.1.1 6 (by decide) (by decide) (by decide)).trans (rfl : R_9 6 = R_9 6)
        have w7_2 : R_2 7 = R_9 7 := (q_2.2.1.1 7 (by decide) (by decide) (by decide)).trans (rfl : R_9 7 = R_9 7)
        have w26_2 : R_2 26 = R_9 26 := (q_2.2.1.1 26 (by decide) (by decide) (by decide)).trans (rfl : R_9 26 = R_9 26)
        have w27_2 : R_2 27 = R_9 27 := (q_2.2.1.1 27 (by decide) (by decide) (by decide)).trans (rfl : R_9 27 = R_9 27)
        obtain ⟨ex_2, ey_2⟩ := ex_2
        subst ey_2
        rw [rO_rO] at hW
        have hW : q_W E (rO E f M R_2) n H := hW
        have eT : p_take K 0 s9 = p_step K true s9 := by unfold p_take; rw [decide_eq_true e0]
        rw [← eT] at Q_2 ok_2 GG_2 le_2 er_2 h8_2
        have h5 : (p_take K 0 s9).1 = s9.1 + 1 := by rw [eT]; rfl
        have hm8 : 1 ≤ m9 := by have h6 := hm9 (by omega); have h5 := Q_9.1.nw (by omega); rcases Nat.lt_or_ge s9.1 400 with h4 | h4; omega; exact absurd (show K T = 0 from by rw [show T = s9.1 by omega, ← h5.2.2.1]; exact e0) (by omega)
        obtain ⟨m8, rfl⟩ : ∃ z, m9 = z + 1 := ⟨m9 - 1, by omega⟩
        refine lv_if_eq (tgt := 118) hx hb dX14_book_5 (by decide) (fun c_5 => False.elim ((fun h9 => absurd h9 (by decide)) c_5)) (fun c_5 => ?_)
        refine lv_bipush (v := 8) hx hb dX14_book_8 (by decide) ?_
        refine lv_aload_n hx hb dX14_book_10 rfl (lv_at hl 0 rfl) ?_
        refine q_get hx hb hts hown hA hW iX14 rO_0 rfl 18 (by decide) (hts (.fieldLink RX14 42 "HighRecipesModel" "fresh" "LHighRecipesModel$Book;") (by decide +kernel)) (fun _ h9 => h9) (v := .ref (M + 25)) rfl dX14_book_11 ?_
        refine q_getN hx hb hts hown hA hW iX13 rO_25 rfl 0 (by decide) (va_Nw.use rfl (hA.2.2.2.1 ("HighRecipesModel", 150, "HighRecipesModel$Book", "pans", "I", "HighRecipesModel") (by decide +kernel))) (fun _ h9 => h9) (v := .int (nI pn9)) (congrArg (fun z => some (Value.int z)) ((congrFun (q_2.2.1.1 130 (by decide) (by decide) (by decide)) 0).trans h130_9)) dX14_book_14 ?_
        refine va_mmin hx hb (hml.trans hl.1.symm) hown (hts (.methodLink RX14 57 Lib.Math.min.name) (by decide +kernel)) (hts (.static Lib.Math.min.name) (by decide +kernel)) (hts (.initialized "java/lang/Math") (by decide +kernel)) (hts (.code Lib.Math.min.name Lib.Math.min.code 2 (some .int)) (by decide +kernel)) (Nat.le_of_ble_eq_true rfl) (Nat.le_of_ble_eq_true rfl) (Nat.le_of_ble_eq_true rfl) (Nat.le_of_ble_eq_true rfl) dX14_book_17 ?_
        rw [show (if nI pn9 < 8 then nI pn9 else 8) = nI pn9 from (q_min_n (a := 8) (b := pn9) (by decide) (by omega)).trans (by rw [Nat.min_eq_right (by omega)])]
        refine lv_istore_n (lv' := [(1, .int (nI pn9)), (0, .ref M)]) hx hb dX14_book_20 rfl hl (by decide) rfl (fun ls hl => ?_)
        refine lv_aload_n hx hb dX14_book_21 rfl (lv_at hl 1 rfl) ?_
        refine lv_aload_n hx hb dX14_book_22 rfl (lv_at hl 1 rfl) ?_
        refine q_get hx hb hts hown hA hW iX14 rO_0 rfl 14 (by decide) (hts (.fieldLink RX14 29 "HighRecipesModel" "panName" "[I") (by decide +kernel)) (fun _ h9 => h9) (v := .ref (M + 6)) rfl dX14_book_23 ?_
        refine lv_iload_n hx hb dX14_book_26 rfl (lv_at hl 0 rfl) ?_
        refine lv_bipush (v := 8) hx hb dX14_book_27 (by decide) ?_
        refine q_cv (va_runV (As := [.ref (M + 6), .int (nI pn9), .int 8]) (rest := []) ⟨hx, hb, hml, hown, hts⟩ (kX14_newName_6 l E (rO E f M R_2) n M R_2 K Wd T (p_take K 0 s9) tk_2 nd_2 cc_2 ac_2 pN9 pn9 (fun _ => 0) 0 rO_K T_2 hT hKT hK41 Q_2.1 ok_2 (fun _ => (hnm9 (by omega)).mv w6_2) (fun _ i hi => absurd hi (Nat.not_lt_zero _)) hpn_9 (Nat.zero_le _) ((congrFun (q_2.2.1.1 130 (by decide) (by decide) (by decide)) 0).trans h130_9) ((congrFun (q_2.2.1.1 131 (by decide) (by decide) (by decide)) 0).trans h131_9)) (cwV 3 hts gX14_book_X14_newName rfl rfl rfl (by decide +kernel) ⟨(Nat.le_of_ble_eq_true rfl), (Nat.le_of_ble_eq_true rfl)⟩) (q_pV hA hW hS (ci := 12) rfl rO_0) rfl rfl hl.1 rfl (lv_room (Nat.le_of_ble_eq_true rfl)) dX14_book_29 ⟨Nat.le_of_ble_eq_true rfl, Nat.le_of_ble_eq_true rfl⟩) hS (fun f_29 n_29 H locs hp hW hS => ?_)
        obtain ⟨g_29, R_29, tk_29, nd_29, cc_29, ac_29, q_29, e7_29, e8_29, ec_29, ex_29, gx_29, rfl, rfl⟩ := hp
        have G_29 : p_go K T (p_take K 0 s9) (p_newn K Wd pN9 pn9 (fun _ => 0) 0 (decide (8 ≤ pn9)) (p_take K 0 s9)) := (go_newn hKT)
        have GG_29 := G_29 ok_2
        have ok_29 := GG_29.1
        have le_29 := GG_29.2.2.2.1
        have er_29 := GG_29.2.2.2.2
        have Q_29 := (Q_2.up (j := 6) (g := g_29) (by decide)).trans q_29
        have T_29 := Q_29.tok hTK
        have num_29 := Q_29.2.2
        unfold r_num at num_29
        have bt_29 := Q_29.1.1.2.1
        have bn_29 := Q_29.1.1.2.2.2.1
        have bc_29 := Q_29.1.1.2.2.2.2.2.1
        have ba_29 := Q_29.1.1.2.2.2.2.2.2.2
        have qn_29 := q_29.2.2
        unfold r_num at qn_29
        have w6_29 : R_29 6 = g_29 := (q_29.2.1.1 6 (by decide) (by decide) (by decide)).trans rp_s
        have w7_29 : R_29 7 = R_9 7 := (q_29.2.1.1 7 (by decide) (by decide) (by decide)).trans ((rp_n (by decide)).trans w7_2)
        have w26_29 : R_29 26 = R_9 26 := (q_29.2.1.1 26 (by decide) (by decide) (by decide)).trans ((rp_n (by decide)).trans w26_2)
        have w27_29 : R_29 27 = R_9 27 := (q_29.2.1.1 27 (by decide) (by decide) (by decide)).trans ((rp_n (by decide)).trans w27_2)
        have h8_29 : (p_newn K Wd pN9 pn9 (fun _ => 0) 0 (decide (8 ≤ pn9)) (p_take K 0 s9)).2.1 ≠ 40 → R_29 108 0 = nI (4 - 4) := fun z => (e8_29).trans (h8_2 (le_29 z))
        rw [rO_rO] at hW
        have hW : q_W E (rO E f M R_29) n H := hW
        refine lv_aload_n hx hb dX14_book_32 rfl (lv_at hl 1 rfl) ?_
        refine q_get hx hb hts hown hA hW iX14 rO_0 rfl 18 (by decide) (hts (.fieldLink RX14 42 "HighRecipesModel" "fresh" "LHighRecipesModel$Book;") (by decide +kernel)) (fun _ h9 => h9) (v := .ref (M + 25)) rfl dX14_book_33 ?_
        refine lv_bipush (v := 8) hx hb dX14_book_36 (by decide) ?_
        refine lv_iload_n hx hb dX14_book_38 rfl (lv_at hl 0 rfl) ?_
        refine lv_iconst (v := 1) hx hb dX14_book_39 (by decide) ?_
        refine lv_iadd hx hb dX14_book_40 ?_
        rw [nI_1]
        refine va_mmin hx hb (hml.trans hl.1.symm) hown (hts (.methodLink RX14 57 Lib.Math.min.name) (by decide +kernel)) (hts (.static Lib.Math.min.name) (by decide +kernel)) (hts (.initialized "java/lang/Math") (by decide +kernel)) (hts (.code Lib.Math.min.name Lib.Math.min.code 2 (some .int)) (by decide +kernel)) (Nat.le_of_ble_eq_true rfl) (Nat.le_of_ble_eq_true rfl) (Nat.le_of_ble_eq_true rfl) (Nat.le_of_ble_eq_true rfl) dX14_book_41 ?_
        rw [show (if nI (pn9 + 1) < 8 then nI (pn9 + 1) else 8) = nI (min 8 (pn9 + 1)) from q_min_n (a := 8) (b := pn9 + 1) (by decide) (by omega)]
        refine q_putN hx hb hts hown hA hW hS iX13 tyX13 tyX13_ok nmX13 rO_25 rfl 0 (by decide) (va_Nw.use rfl (hA.2.2.2.1 ("HighRecipesModel", 150, "HighRecipesModel$Book", "pans", "I", "HighRecipesModel") (by decide +kernel))) (fun _ h9 => h9) rfl rfl rfl (Nat.le_of_ble_eq_true rfl) dX14_book_44 (fun H locs hW hS => ?_)
        have hW := q_s25 130 (nI (min 8 (pn9 + 1))) hW rfl (by decide)
        obtain ⟨R_47, hR_47⟩ : ∃ z, z = rp R_29 130 (fun _ => nI (min 8 (pn9 + 1))) := ⟨_, rfl⟩
        rw [← hR_47] at hW
        have Q_47 : r_Y r R_47 K T (p_newn K Wd pN9 pn9 (fun _ => 0) 0 (decide (8 ≤ pn9)) (p_take K 0 s9)) tk nd cc ac tk_29 nd_29 cc_29 ac_29 := by rw [hR_47]; exact (Q_29.up (by decide))
        have T_47 := Q_47.tok hTK
        have num_47 := Q_47.2.2
        unfold r_num at num_47
        have bt_47 := Q_47.1.1.2.1
        have bn_47 := Q_47.1.1.2.2.2.1
        have bc_47 := Q_47.1.1.2.2.2.2.2.1
        have ba_47 := Q_47.1.1.2.2.2.2.2.2.2
        have w6_47 : R_47 6 = g_29 := by rw [hR_47]; exact w6_29
        have w7_47 : R_47 7 = R_9 7 := by rw [hR_47]; exact w7_29
        have w26_47 : R_47 26 = R_9 26 := by rw [hR_47]; exact w26_29
        have w27_47 : R_47 27 = R_9 27 := by rw [hR_47]; exact w27_29
        have h8_47 : (p_newn K Wd pN9 pn9 (fun _ => 0) 0 (decide (8 ≤ pn9)) (p_take K 0 s9)).2.1 ≠ 40 → R_47 108 0 = nI (4 - 4) := fun z => by rw [hR_47]; exact h8_29 z
        refine lv_aload_n hx hb dX14_book_47 rfl (lv_at hl 1 rfl) ?_
        refine lv_iconst (v := 1) hx hb dX14_book_48 (by decide) ?_
        refine q_cv (va_runV (As := [.int 1]) (rest := []) ⟨hx, hb, hml, hown, hts⟩ (kX14_take l E (rO E f M R_47) n M R_47 K Wd T (p_newn K Wd pN9 pn9 (fun _ => 0) 0 (decide (8 ≤ pn9)) (p_take K 0 s9)) tk_29 nd_29 cc_29 ac_29 1 1 rO_K T_47 hT hKT hK41 Q_47.1 ok_29 rfl (by decide)) (cwV 1 hts gX14_book_X14_take rfl rfl rfl (by decide +kernel) ⟨(Nat.le_of_ble_eq_true rfl), (Nat.le_of_ble_eq_true rfl)⟩) (q_pV hA hW hS (ci := 12) rfl rO_0) rfl rfl hl.1 rfl (lv_room (Nat.le_of_ble_eq_true rfl)) dX14_book_49 ⟨Nat.le_of_ble_eq_true rfl, Nat.le_of_ble_eq_true rfl⟩) hS (fun f_49 n_49 H locs hp hW hS => ?_)
        obtain ⟨R_49, tk_49, nd_49, cc_49, ac_49, q_49, e7_49, e8_49, ec_49, ex_49, rfl, rfl⟩ := hp
        have G_49 : p_go K T (p_newn K Wd pN9 pn9 (fun _ => 0) 0 (decide (8 ≤ pn9)) (p_take K 0 s9)) (p_take K 1 (p_newn K Wd pN9 pn9 (fun _ => 0) 0 (decide (8 ≤ pn9)) (p_take K 0 s9))) := (go_take hKT (by decide))
        have GG_49 := G_49 ok_29
        have ok_49 := GG_49.1
        have le_49 := GG_49.2.2.2.1
        have er_49 := GG_49.2.2.2.2
        have Q_49 := Q_47.trans q_49
        have T_49 := Q_49.tok hTK
        have num_49 := Q_49.2.2
        unfold r_num at num_49
        have bt_49 := Q_49.1.1.2.1
        have bn_49 := Q_49.1.1.2.2.2.1
        have bc_49 := Q_49.1.1.2.2.2.2.2.1
        have ba_49 := Q_49.1.1.2.2.2.2.2.2.2
        have qn_49 := q_49.2.2
        unfold r_num at qn_49
        have h8_49 : (p_take K 1 (p_newn K Wd pN9 pn9 (fun _ => 0) 0 (decide (8 ≤ pn9)) (p_take K 0 s9))).2.1 ≠ 40 → R_49 108 0 = nI (4 - 4) := fun z => (e8_49).trans (h8_47 (le_49 z))
        have w6_49 : R_49 6 = g_29 := (q_49.2.1.1 6 (by decide) (by decide) (by decide)).trans w6_47
        have w7_49 : R_49 7 = R_9 7 := (q_49.2.1.1 7 (by decide) (by decide) (by decide)).trans w7_47
        have w26_49 : R_49 26 = R_9 26 := (q_49.2.1.1 26 (by decide) (by decide) (by decide)).trans w26_47
        have w27_49 : R_49 27 = R_9 27 := (q_49.2.1.1 27 (by decide) (by decide) (by decide)).trans w27_47
        rw [rO_rO] at hW
        have hW : q_W E (rO E f M R_49) n H := hW
        refine lv_aload_n hx hb dX14_book_52 rfl (lv_at hl 1 rfl) ?_
        refine lv_bipush (v := 41) hx hb dX14_book_53 (by decide) ?_
        refine q_ci (va_runV (As := [.int 41]) (rest := []) ⟨hx, hb, hml, hown, hts⟩ (kX14_is l E (rO E f M R_49) n M R_49 K Wd T (p_hold K Wd pn9 pN9 s9) tk_49 nd_49 cc_49 ac_49 38 41 rO_K T_49 hT hKT hK41 Q_49.1 ok_49 rfl (by decide)) (cwV 1 hts gX14_book_X14_is rfl rfl rfl (by decide +kernel) ⟨(Nat.le_of_ble_eq_true rfl), (Nat.le_of_ble_eq_true rfl)⟩) (q_pV hA hW hS (ci := 12) rfl rO_0) rfl rfl hl.1 rfl (lv_room (Nat.le_of_ble_eq_true rfl)) dX14_book_55 ⟨Nat.le_of_ble_eq_true rfl, Nat.le_of_ble_eq_true rfl⟩) hS (fun r_55 f_55 n_55 H locs hp hW hS => ?_)
        obtain ⟨rfl, rfl, rfl⟩ := hp
        have hW : q_W E (rO E f M R_49) n H := hW
        refine lv_if_eq (tgt := 85) hx hb dX14_book_58 (by decide) (fun c_58 => ?_) (fun c_58 => ?_)
        · have e38 : ¬ (p_hold K Wd pn9 pN9 s9).2.1 = 38 := of_decide_eq_false (b01_0 c_58)
          have eS : p_ci (decide ((p_hold K Wd pn9 pN9 s9).2.1 = 38) && (decide ((p_panX K Wd pn9 pN9 s9) < 1) || decide (200 < (p_panX K Wd pn9 pN9 s9)))) 5 (p_hold K Wd pn9 pN9 s9) = (p_hold K Wd pn9 pN9 s9) := by rw [decide_eq_false e38]; rfl
          refine lv_aload_n hx hb dX14_book_85 rfl (lv_at hl 1 rfl) ?_
          refine q_get hx hb hts hown hA hW iX14 rO_0 rfl 18 (by decide) (hts (.fieldLink RX14 42 "HighRecipesModel" "fresh" "LHighRecipesModel$Book;") (by decide +kernel)) (fun _ h9 => h9) (v := .ref (M + 25)) rfl dX14_book_86 ?_
          refine q_getN hx hb hts hown hA hW iX13 rO_25 rfl 1 (by decide) (va_Nw.use rfl (hA.2.2.2.1 ("HighRecipesModel", 260, "HighRecipesModel$Book", "holds", "[I", "HighRecipesModel") (by decide +kernel))) (fun _ h9 => h9) (v := .ref (M + 26)) rfl dX14_book_89 ?_
          refine lv_iload_n hx hb dX14_book_92 rfl (lv_at hl 0 rfl) ?_
          refine lv_aload_n hx hb dX14_book_93 rfl (lv_at hl 1 rfl) ?_
          refine q_get hx hb hts hown hA hW iX14 rO_0 rfl 5 (by decide) (hts (.fieldLink RX14 20 "HighRecipesModel" "number" "[I") (by decide +kernel)) (fun _ h9 => h9) (v := .ref (M + 3)) rfl dX14_book_94 ?_
          refine lv_aload_n hx hb dX14_book_97 rfl (lv_at hl 1 rfl) ?_
          refine q_get hx hb hts hown hA hW iX14 rO_0 rfl 8 (by decide) (hts (.fieldLink RX14 120 "HighRecipesModel" "token" "I") (by decide +kernel)) (fun _ h9 => h9) (v := .int (nI tk_49)) (congrArg (fun z => some (Value.int z)) Q_49.1.1.1) dX14_book_98 ?_
          refine q_ald hx hb hA hW (rO_3 (g := R_49 3) rfl) tk_49 rfl (by omega) (by decide) (x := (R_49 3) tk_49) rfl dX14_book_101 ?_
          refine q_ast hx hb hA hW hS (rO_26 (g := R_49 26) rfl) pn9 rfl (by omega) (by decide) dX14_book_102 (fun H locs hW hS => ?_)
          have hW := q_sa 26 hW rfl rfl
          obtain ⟨R_103, hR_103⟩ : ∃ z, z = rp R_49 26 (upd (R_49 26) pn9 ((R_49 3) tk_49)) := ⟨_, rfl⟩
          rw [← hR_103] at hW
          have Q_103 : r_Y r R_103 K T (p_hold K Wd pn9 pN9 s9) tk nd cc ac tk_49 nd_49 cc_49 ac_49 := by rw [hR_103]; exact (Q_49.up (by decide))
          have T_103 := Q_103.tok hTK
          have num_103 := Q_103.2.2
          unfold r_num at num_103
          have bt_103 := Q_103.1.1.2.1
          have bn_103 := Q_103.1.1.2.2.2.1
          have bc_103 := Q_103.1.1.2.2.2.2.2.1
          have ba_103 := Q_103.1.1.2.2.2.2.2.2.2
          have w6_103 : R_103 6 = g_29 := by rw [hR_103]; exact w6_49
          have w7_103 : R_103 7 = R_9 7 := by rw [hR_103]; exact w7_49
          have w26_103 : R_103 26 = upd (R_49 26) pn9 ((R_49 3) tk_49) := by rw [hR_103]; rfl
          have w27_103 : R_103 27 = R_9 27 := by rw [hR_103]; exact w27_49
          have h8_103 : (p_hold K Wd pn9 pN9 s9).2.1 ≠ 40 → R_103 108 0 = nI (4 - 4) := fun z => by rw [hR_103]; exact h8_49 z
          refine lv_aload_n hx hb dX14_book_103 rfl (lv_at hl 1 rfl) ?_
          refine lv_bipush (v := 41) hx hb dX14_book_104 (by decide) ?_
          refine q_cv (va_runV (As := [.int 41]) (rest := []) ⟨hx, hb, hml, hown, hts⟩ (kX14_take l E (rO E f M R_103) n M R_103 K Wd T (p_hold K Wd pn9 pN9 s9) tk_49 nd_49 cc_49 ac_49 38 41 rO_K T_103 hT hKT hK41 Q_103.1 ok_49 rfl (by decide)) (cwV 1 hts gX14_book_X14_take rfl rfl rfl (by decide +kernel) ⟨(Nat.le_of_ble_eq_true rfl), (Nat.le_of_ble_eq_true rfl)⟩) (q_pV hA hW hS (ci := 12) rfl rO_0) rfl rfl hl.1 rfl (lv_room (Nat.le_of_ble_eq_true rfl)) dX14_book_106 ⟨Nat.le_of_ble_eq_true rfl, Nat.le_of_ble_eq_true rfl⟩) hS (fun f_106 n_106 H locs hp hW hS => ?_)
          obtain ⟨R_106, tk_106, nd_106, cc_106, ac_106, q_106, e7_106, e8_106, ec_106, ex_106, rfl, rfl⟩ := hp
          have G_106 : p_go K T (p_hold K Wd pn9 pN9 s9) (p_take K 38 (p_hold K Wd pn9 pN9 s9)) := (go_take hKT (by decide))
          have GG_106 := G_106 ok_49
          have ok_106 := GG_106.1
          have le_106 := GG_106.2.2.2.1
          have er_106 := GG_106.2.2.2.2
          have Q_106 := Q_103.trans q_106
          have T_106 := Q_106.tok hTK
          have num_106 := Q_106.2.2
          unfold r_num at num_106
          have bt_106 := Q_106.1.1.2.1
          have bn_106 := Q_106.1.1.2.2.2.1
          have bc_106 := Q_106.1.1.2.2.2.2.2.1
          have ba_106 := Q_106.1.1.2.2.2.2.2.2.2
          have qn_106 := q_106.2.2
          unfold r_num at qn_106
          have h8_106 : (p_take K 38 (p_hold K Wd pn9 pN9 s9)).2.1 ≠ 40 → R_106 108 0 = nI (4 - 4) := fun z => (e8_106).trans (h8_103 (le_106 z))
          have w6_106 : R_106 6 = g_29 := (q_106.2.1.1 6 (by decide) (by decide) (by decide)).trans w6_103
          have w7_106 : R_106 7 = R_9 7 := (q_106.2.1.1 7 (by decide) (by decide) (by decide)).trans w7_103
          have w26_106 : R_106 26 = upd (R_49 26) pn9 ((R_49 3) tk_49) := (q_106.2.1.1 26 (by decide) (by decide) (by decide)).trans w26_103
          have w27_106 : R_106 27 = R_9 27 := (q_106.2.1.1 27 (by decide) (by decide) (by decide)).trans w27_103
          rw [rO_rO] at hW
          have hW : q_W E (rO E f M R_106) n H := hW
          refine lv_aload_n hx hb dX14_book_109 rfl (lv_at hl 1 rfl) ?_
          refine lv_bipush (v := 52) hx hb dX14_book_110 (by decide) ?_
          refine q_cv (va_runV (As := [.int 52]) (rest := []) ⟨hx, hb, hml, hown, hts⟩ (kX14_take l E (rO E f M R_106) n M R_106 K Wd T (p_take K 38 (p_hold K Wd pn9 pN9 s9)) tk_106 nd_106 cc_106 ac_106 29 52 rO_K T_106 hT hKT hK41 Q_106.1 ok_106 rfl (by decide)) (cwV 1 hts gX14_book_X14_take rfl rfl rfl (by decide +kernel) ⟨(Nat.le_of_ble_eq_true rfl), (Nat.le_of_ble_eq_true rfl)⟩) (q_pV hA hW hS (ci := 12) rfl rO_0) rfl rfl hl.1 rfl (lv_room (Nat.le_of_ble_eq_true rfl)) dX14_book_112 ⟨Nat.le_of_ble_eq_true rfl, Nat.le_of_ble_eq_true rfl⟩) hS (fun f_112 n_112 H locs hp hW hS => ?_)
          obtain ⟨R_112, tk_112, nd_112, cc_112, ac_112, q_112, e7_112, e8_112, ec_112, ex_112, rfl, rfl⟩ := hp
          have G_112 : p_go K T (p_take K 38 (p_hold K Wd pn9 pN9 s9)) (p_take K 29 (p_take K 38 (p_hold K Wd pn9 pN9 s9))) := (go_take hKT (by decide))
          have GG_112 := G_112 ok_106
          have ok_112 := GG_112.1
          have le_112 := GG_112.2.2.2.1
          have er_112 := GG_112.2.2.2.2
          have Q_112 := Q_106.trans q_112
          have T_112 := Q_112.tok hTK
          have num_112 := Q_112.2.2
          unfold r_num at num_112
          have bt_112 := Q_112.1.1.2.1
          have bn_112 := Q_112.1.1.2.2.2.1
          have bc_112 := Q_112.1.1.2.2.2.2.2.1
          have ba_112 := Q_112.1.1.2.2.2.2.2.2.2
          have qn_112 := q_112.2.2
          unfold r_num at qn_112
          have h8_112 : (p_take K 29 (p_take K 38 (p_hold K Wd pn9 pN9 s9))).2.1 ≠ 40 → R_112 108 0 = nI (4 - 4) := fun z => (e8_112).trans (h8_106 (le_112 z))
          have w6_112 : R_112 6 = g_29 := (q_112.2.1.1 6 (by decide) (by decide) (by decide)).trans w6_106
          have w7_112 : R_112 7 = R_9 7 := (q_112.2.1.1 7 (by decide) (by decide) (by decide)).trans w7_106
          have w26_112 : R_112 26 = upd (R_49 26) pn9 ((R_49 3) tk_49) := (q_112.2.1.1 26 (by decide) (by decide) (by decide)).trans w26_106
          have w27_112 : R_112 27 = R_9 27 := (q_112.2.1.1 27 (by decide) (by decide) (by decide)).trans w27_106
          rw [rO_rO] at hW
          have hW : q_W E (rO E f M R_112) n H := hW
          refine lv_goto (tgt := 0) hx hb dX14_book_115 (by decide) ?_
          have eSS : (p_panS K Wd pn9 pN9 s9) = p_take K 29 (p_take K 38 (p_hold K Wd pn9 pN9 s9)) := by unfold p_panS; rw [eS]
          have hle9 : s9.1 + 1 ≤ (p_panS K Wd pn9 pN9 s9).1 := by have a1 := GG_29.2.1; have a2 := GG_49.2.1; have a3 := GG_106.2.1; have a4 := GG_112.2.1; rw [eSS]; exact Nat.le_trans (Nat.le_of_eq h5.symm) (Nat.le_trans a1 (Nat.le_trans a2 ((Nat.le_trans a3 a4))))
          exact ih R_112 (p_panS K Wd pn9 pN9 s9) m8 tk_112 nd_112 cc_112 ac_112 (min 8 (pn9 + 1)) (if pn9 < 8 then vp_updL pN9 pn9 (Wd (p_take K 0 s9).1) else pN9) (if pn9 < 8 then upd hd9 pn9 (p_panX K Wd pn9 pN9 s9) else hd9) (by rw [eSS]; exact Q_112) (by rw [eSS]; exact ok_112) (e7_112.trans (e7_106.trans (show R_103 107 0 = nI (6 - 6) from by rw [hR_103]; exact (e7_49.trans (show R_47 107 0 = nI (6 - 6) from by rw [hR_47]; exact (e7_29.trans (e7_2.trans k7_9))))))) (by rw [eSS]; exact h8_112) ((congrFun (q_112.2.1.1 109 (by decide) (by decide) (by decide)) 0).trans ((congrFun (q_106.2.1.1 109 (by decide) (by decide) (by decide)) 0).trans (show R_103 109 0 = nI 0 from by rw [hR_103]; exact ((congrFun (q_49.2.1.1 109 (by decide) (by decide) (by decide)) 0).trans (show R_47 109 0 = nI 0 from by rw [hR_47]; exact (((congrFun (q_29.2.1.1 109 (by decide) (by decide) (by decide)) 0).trans (congrFun (rp_n (by decide)) 0)).trans ((congrFun (q_2.2.1.1 109 (by decide) (by decide) (by decide)) 0).trans h109_9))))))) ((congrFun (q_112.2.1.1 130 (by decide) (by decide) (by decide)) 0).trans ((congrFun (q_106.2.1.1 130 (by decide) (by decide) (by decide)) 0).trans (show R_103 130 0 = nI (min 8 (pn9 + 1)) from by rw [hR_103]; exact ((congrFun (q_49.2.1.1 130 (by decide) (by decide) (by decide)) 0).trans (show R_47 130 0 = nI (min 8 (pn9 + 1)) from by rw [hR_47]; rfl))))) ((congrFun (q_112.2.1.1 131 (by decide) (by decide) (by decide)) 0).trans ((congrFun (q_106.2.1.1 131 (by decide) (by decide) (by decide)) 0).trans (show R_103 131 0 = nI 0 from by rw [hR_103]; exact ((congrFun (q_49.2.1.1 131 (by decide) (by decide) (by decide)) 0).trans (show R_47 131 0 = nI 0 from by rw [hR_47]; exact (((congrFun (q_29.2.1.1 131 (by decide) (by decide) (by decide)) 0).trans (congrFun (rp_n (by decide)) 0)).trans ((congrFun (q_2.2.1.1 131 (by decide) (by decide) (by decide)) 0).trans h131_9))))))) (by omega) (fun z => by have h6 := hm9 (by omega); omega) (fun z => by rw [eSS] at z; obtain ⟨x1, x2, x3, x4⟩ := ex_29 (le_49 ((le_106 (le_112 z)))); exact (hnm9 (by omega)).more hpn_9 w6_112 x1 x2 bt_2 x3 x4 w6_2) (fun z => absurd (by rw [eSS]; exact (take_bad (step_bad (decide_eq_false e38)).2 (by decide)).2) z) (hinv9.trans (pans_step e0 hpn_9)) (by omega) _ _ _ hW hS (lv_sub hl [1] rfl)
        · have e38 : (p_hold K Wd pn9 pN9 s9).2.1 = 38 := of_decide_eq_true (b01_1 c_58)
          have nw49 := Q_49.1.nw (show (p_hold K Wd pn9 pN9 s9).2.1 ≠ 40 by omega)
          refine lv_aload_n hx hb dX14_book_61 rfl (lv_at hl 1 rfl) ?_
          refine q_get hx hb hts hown hA hW iX14 rO_0 rfl 5 (by decide) (hts (.fieldLink RX14 20 "HighRecipesModel" "number" "[I") (by decide +kernel)) (fun _ h9 => h9) (v := .ref (M + 3)) rfl dX14_book_62 ?_
          refine lv_aload_n hx hb dX14_book_65 rfl (lv_at hl 1 rfl) ?_
          refine q_get hx hb hts hown hA hW iX14 rO_0 rfl 8 (by decide) (hts (.fieldLink RX14 120 "HighRecipesModel" "token" "I") (by decide +kernel)) (fun _ h9 => h9) (v := .int (nI tk_49)) (congrArg (fun z => some (Value.int z)) Q_49.1.1.1) dX14_book_66 ?_
          refine q_ald hx hb hA hW (rO_3 (g := R_49 3) rfl) tk_49 rfl (by omega) (by decide) (x := (p_panX K Wd pn9 pN9 s9)) (by rw [T_49.2.1 tk_49 bt_49 (by rw [nw49.2.1]; exact nw49.2.2.1.symm.trans e38), nw49.2.1]; rfl) dX14_book_69 ?_
          refine lv_iconst (v := 1) hx hb dX14_book_70 (by decide) ?_
          refine lv_sipush (v := 200) hx hb dX14_book_71 (by decide) ?_
          refine q_ci (va_runS (As := [.int (p_panX K Wd pn9 pN9 s9), .int 1, .int 200]) (rest := []) ⟨hx, hb, hml, hown, hts⟩ (kX14_isIn l E (rO E f M R_49) n (p_panX K Wd pn9 pN9 s9) 1 200) (va_cwS 3 hts gX14_book_X14_isIn rfl rfl rfl (by decide +kernel) ⟨(Nat.le_of_ble_eq_true rfl), (Nat.le_of_ble_eq_true rfl)⟩) (q_pS hA hW hS) rfl rfl hl.1 rfl (lv_room (Nat.le_of_ble_eq_true rfl)) dX14_book_74 ⟨Nat.le_of_ble_eq_true rfl, Nat.le_of_ble_eq_true rfl⟩) hS (fun r_74 f_74 n_74 H locs hp hW hS => ?_)
          obtain ⟨rfl, rfl, rfl⟩ := hp
          have hW : q_W E (rO E f M R_49) n H := hW
          refine lv_if_ne (tgt := 85) hx hb dX14_book_77 (by decide) (fun c_77 => ?_) (fun c_77 => ?_)
          · have ein : b_in (p_panX K Wd pn9 pN9 s9) 1 200 = true := by cases hb9 : b_in (p_panX K Wd pn9 pN9 s9) 1 200; exact absurd (by rw [hb9]; rfl) c_77; rfl
            have eS : p_ci (decide ((p_hold K Wd pn9 pN9 s9).2.1 = 38) && (decide ((p_panX K Wd pn9 pN9 s9) < 1) || decide (200 < (p_panX K Wd pn9 pN9 s9)))) 5 (p_hold K Wd pn9 pN9 s9) = (p_hold K Wd pn9 pN9 s9) := by have z := b_in_T ein; rw [decide_eq_false z.1, decide_eq_false z.2, decide_eq_true e38]; rfl
            refine lv_aload_n hx hb dX14_book_85 rfl (lv_at hl 1 rfl) ?_
            refine q_get hx hb hts hown hA hW iX14 rO_0 rfl 18 (by decide) (hts (.fieldLink RX14 42 "HighRecipesModel" "fresh" "LHighRecipesModel$Book;") (by decide +kernel)) (fun _ h9 => h9) (v := .ref (M + 25)) rfl dX14_book_86 ?_
            refine q_getN hx hb hts hown hA hW iX13 rO_25 rfl 1 (by decide) (va_Nw.use rfl (hA.2.2.2.1 ("HighRecipesModel", 260, "HighRecipesModel$Book", "holds", "[I", "HighRecipesModel") (by decide +kernel))) (fun _ h9 => h9) (v := .ref (M + 26)) rfl dX14_book_89 ?_
            refine lv_iload_n hx hb dX14_book_92 rfl (lv_at hl 0 rfl) ?_
            refine lv_aload_n hx hb dX14_book_93 rfl (lv_at hl 1 rfl) ?_
            refine q_get hx hb hts hown hA hW iX14 rO_0 rfl 5 (by decide) (hts (.fieldLink RX14 20 "HighRecipesModel" "number" "[I") (by decide +kernel)) (fun _ h9 => h9) (v := .ref (M + 3)) rfl dX14_book_94 ?_
            refine lv_aload_n hx hb dX14_book_97 rfl (lv_at hl 1 rfl) ?_
            refine q_get hx hb hts hown hA hW iX14 rO_0 rfl 8 (by decide) (hts (.fieldLink RX14 120 "HighRecipesModel" "token" "I") (by decide +kernel)) (fun _ h9 => h9) (v := .int (nI tk_49)) (congrArg (fun z => some (Value.int z)) Q_49.1.1.1) dX14_book_98 ?_
            refine q_ald hx hb hA hW (rO_3 (g := R_49 3) rfl) tk_49 rfl (by omega) (by decide) (x := (p_panX K Wd pn9 pN9 s9)) (by rw [T_49.2.1 tk_49 bt_49 (by rw [nw49.2.1]; exact nw49.2.2.1.symm.trans e38), nw49.2.1]; rfl) dX14_book_101 ?_
            refine q_ast hx hb hA hW hS (rO_26 (g := R_49 26) rfl) pn9 rfl (by omega) (by decide) dX14_book_102 (fun H locs hW hS => ?_)
            have hW := q_sa 26 hW rfl rfl
            obtain ⟨R_103, hR_103⟩ : ∃ z, z = rp R_49 26 (upd (R_49 26) pn9 (p_panX K Wd pn9 pN9 s9)) := ⟨_, rfl⟩
            rw [← hR_103] at hW
            have Q_103 : r_Y r R_103 K T (p_hold K Wd pn9 pN9 s9) tk nd cc ac tk_49 nd_49 cc_49 ac_49 := by rw [hR_103]; exact (Q_49.up (by decide))
            have T_103 := Q_103.tok hTK
            have num_103 := Q_103.2.2
            unfold r_num at num_103
            have bt_103 := Q_103.1.1.2.1
            have bn_103 := Q_103.1.1.2.2.2.1
            have bc_103 := Q_103.1.1.2.2.2.2.2.1
            have ba_103 := Q_103.1.1.2.2.2.2.2.2.2
            have w6_103 : R_103 6 = g_29 := by rw [hR_103]; exact w6_49
            have w7_103 : R_103 7 = R_9 7 := by rw [hR_103]; exact w7_49
            have w26_103 : R_103 26 = upd (R_49 26) pn9 (p_panX K Wd pn9 pN9 s9) := by rw [hR_103]; rfl
            have w27_103 : R_103 27 = R_9 27 := by rw [hR_103]; exact w27_49
            have h8_103 : (p_hold K Wd pn9 pN9 s9).2.1 ≠ 40 → R_103 108 0 = nI (4 - 4) := fun z => by rw [hR_103]; exact h8_49 z
            refine lv_aload_n hx hb dX14_book_103 rfl (lv_at hl 1 rfl) ?_
            refine lv_bipush (v := 41) hx hb dX14_book_104 (by decide) ?_
            refine q_cv (va_runV (As := [.int 41]) (rest := []) ⟨hx, hb, hml, hown, hts⟩ (kX14_take l E (rO E f M R_103) n M R_103 K Wd T (p_hold K Wd pn9 pN9 s9) tk_49 nd_49 cc_49 ac_49 38 41 rO_K T_103 hT hKT hK41 Q_103.1 ok_49 rfl (by decide)) (cwV 1 hts gX14_book_X14_take rfl rfl rfl (by decide +kernel) ⟨(Nat.le_of_ble_eq_true rfl), (Nat.le_of_ble_eq_true rfl)⟩) (q_pV hA hW hS (ci := 12) rfl rO_0) rfl rfl hl.1 rfl (lv_room (Nat.le_of_ble_eq_true rfl)) dX14_book_106 ⟨Nat.le_of_ble_eq_true rfl, Nat.le_of_ble_eq_true rfl⟩) hS (fun f_106 n_106 H locs hp hW hS => ?_)
            obtain ⟨R_106, tk_106, nd_106, cc_106, ac_106, q_106, e7_106, e8_106, ec_106, ex_106, rfl, rfl⟩ := hp
            have G_106 : p_go K T (p_hold K Wd pn9 pN9 s9) (p_take K 38 (p_hold K Wd pn9 pN9 s9)) := (go_take hKT (by decide))
            have GG_106 := G_106 ok_49
            have ok_106 := GG_106.1
            have le_106 := GG_106.2.2.2.1
            have er_106 := GG_106.2.2.2.2
            have Q_106 := Q_103.trans q_106
            have T_106 := Q_106.tok hTK
            have num_106 := Q_106.2.2
            unfold r_num at num_106
            have bt_106 := Q_106.1.1.2.1
            have bn_106 := Q_106.1.1.2.2.2.1
            have bc_106 := Q_106.1.1.2.2.2.2.2.1
            have ba_106 := Q_106.1.1.2.2.2.2.2.2.2
            have qn_106 := q_106.2.2
            unfold r_num at qn_106
            have h8_106 : (p_take K 38 (p_hold K Wd pn9 pN9 s9)).2.1 ≠ 40 → R_106 108 0 = nI (4 - 4) := fun z => (e8_106).trans (h8_103 (le_106 z))
            have w6_106 : R_106 6 = g_29 := (q_106.2.1.1 6 (by decide) (by decide) (by decide)).trans w6_103
            have w7_106 : R_106 7 = R_9 7 := (q_106.2.1.1 7 (by decide) (by decide) (by decide)).trans w7_103
            have w26_106 : R_106 26 = upd (R_49 26) pn9 (p_panX K Wd pn9 pN9 s9) := (q_106.2.1.1 26 (by decide) (by decide) (by decide)).trans w26_103
            have w27_106 : R_106 27 = R_9 27 := (q_106.2.1.1 27 (by decide) (by decide) (by decide)).trans w27_103
            rw [rO_rO] at hW
            have hW : q_W E (rO E f M R_106) n H := hW
            refine lv_aload_n hx hb dX14_book_109 rfl (lv_at hl 1 rfl) ?_
            refine lv_bipush (v := 52) hx hb dX14_book_110 (by decide) ?_
            refine q_cv (va_runV (As := [.int 52]) (rest := []) ⟨hx, hb, hml, hown, hts⟩ (kX14_take l E (rO E f M R_106) n M R_106 K Wd T (p_take K 38 (p_hold K Wd pn9 pN9 s9)) tk_106 nd_106 cc_106 ac_106 29 52 rO_K T_106 hT hKT hK41 Q_106.1 ok_106 rfl (by decide)) (cwV 1 hts gX14_book_X14_take rfl rfl rfl (by decide +kernel) ⟨(Nat.le_of_ble_eq_true rfl), (Nat.le_of_ble_eq_true rfl)⟩) (q_pV hA hW hS (ci := 12) rfl rO_0) rfl rfl hl.1 rfl (lv_room (Nat.le_of_ble_eq_true rfl)) dX14_book_112 ⟨Nat.le_of_ble_eq_true rfl, Nat.le_of_ble_eq_true rfl⟩) hS (fun f_112 n_112 H locs hp hW hS => ?_)
            obtain ⟨R_112, tk_112, nd_112, cc_112, ac_112, q_112, e7_112, e8_112, ec_112, ex_112, rfl, rfl⟩ := hp
            have G_112 : p_go K T (p_take K 38 (p_hold K Wd pn9 pN9 s9)) (p_take K 29 (p_take K 38 (p_hold K Wd pn9 pN9 s9))) := (go_take hKT (by decide))
            have GG_112 := G_112 ok_106
            have ok_112 := GG_112.1
            have le_112 := GG_112.2.2.2.1
            have er_112 := GG_112.2.2.2.2
            have Q_112 := Q_106.trans q_112
            have T_112 := Q_112.tok hTK
            have num_112 := Q_112.2.2
            unfold r_num at num_112
            have bt_112 := Q_112.1.1.2.1
            have bn_112 := Q_112.1.1.2.2.2.1
            have bc_112 := Q_112.1.1.2.2.2.2.2.1
            have ba_112 := Q_112.1.1.2.2.2.2.2.2.2
            have qn_112 := q_112.2.2
            unfold r_num at qn_112
            have h8_112 : (p_take K 29 (p_take K 38 (p_hold K Wd pn9 pN9 s9))).2.1 ≠ 40 → R_112 108 0 = nI (4 - 4) := fun z => (e8_112).trans (h8_106 (le_112 z))
            have w6_112 : R_112 6 = g_29 := (q_112.2.1.1 6 (by decide) (by decide) (by decide)).trans w6_106
            have w7_112 : R_112 7 = R_9 7 := (q_112.2.1.1 7 (by decide) (by decide) (by decide)).trans w7_106
            have w26_112 : R_112 26 = upd (R_49 26) pn9 (p_panX K Wd pn9 pN9 s9) := (q_112.2.1.1 26 (by decide) (by decide) (by decide)).trans w26_106
            have w27_112 : R_112 27 = R_9 27 := (q_112.2.1.1 27 (by decide) (by decide) (by decide)).trans w27_106
            rw [rO_rO] at hW
            have hW : q_W E (rO E f M R_112) n H := hW
            refine lv_goto (tgt := 0) hx hb dX14_book_115 (by decide) ?_
            have eSS : (p_panS K Wd pn9 pN9 s9) = p_take K 29 (p_take K 38 (p_hold K Wd pn9 pN9 s9)) := by unfold p_panS; rw [eS]
            have hle9 : s9.1 + 1 ≤ (p_panS K Wd pn9 pN9 s9).1 := by have a1 := GG_29.2.1; have a2 := GG_49.2.1; have a3 := GG_106.2.1; have a4 := GG_112.2.1; rw [eSS]; exact Nat.le_trans (Nat.le_of_eq h5.symm) (Nat.le_trans a1 (Nat.le_trans a2 ((Nat.le_trans a3 a4))))
            exact ih R_112 (p_panS K Wd pn9 pN9 s9) m8 tk_112 nd_112 cc_112 ac_112 (min 8 (pn9 + 1)) (if pn9 < 8 then vp_updL pN9 pn9 (Wd (p_take K 0 s9).1) else pN9) (if pn9 < 8 then upd hd9 pn9 (p_panX K Wd pn9 pN9 s9) else hd9) (by rw [eSS]; exact Q_112) (by rw [eSS]; exact ok_112) (e7_112.trans (e7_106.trans (show R_103 107 0 = nI (6 - 6) from by rw [hR_103]; exact (e7_49.trans (show R_47 107 0 = nI (6 - 6) from by rw [hR_47]; exact (e7_29.trans (e7_2.trans k7_9))))))) (by rw [eSS]; exact h8_112) ((congrFun (q_112.2.1.1 109 (by decide) (by decide) (by decide)) 0).trans ((congrFun (q_106.2.1.1 109 (by decide) (by decide) (by decide)) 0).trans (show R_103 109 0 = nI 0 from by rw [hR_103]; exact ((congrFun (q_49.2.1.1 109 (by decide) (by decide) (by decide)) 0).trans (show R_47 109 0 = nI 0 from by rw [hR_47]; exact (((congrFun (q_29.2.1.1 109 (by decide) (by decide) (by decide)) 0).trans (congrFun (rp_n (by decide)) 0)).trans ((congrFun (q_2.2.1.1 109 (by decide) (by decide) (by decide)) 0).trans h109_9))))))) ((congrFun (q_112.2.1.1 130 (by decide) (by decide) (by decide)) 0).trans ((congrFun (q_106.2.1.1 130 (by decide) (by decide) (by decide)) 0).trans (show R_103 130 0 = nI (min 8 (pn9 + 1)) from by rw [hR_103]; exact ((congrFun (q_49.2.1.1 130 (by decide) (by decide) (by decide)) 0).trans (show R_47 130 0 = nI (min 8 (pn9 + 1)) from by rw [hR_47]; rfl))))) ((congrFun (q_112.2.1.1 131 (by decide) (by decide) (by decide)) 0).trans ((congrFun (q_106.2.1.1 131 (by decide) (by decide) (by decide)) 0).trans (show R_103 131 0 = nI 0 from by rw [hR_103]; exact ((congrFun (q_49.2.1.1 131 (by decide) (by decide) (by decide)) 0).trans (show R_47 131 0 = nI 0 from by rw [hR_47]; exact (((congrFun (q_29.2.1.1 131 (by decide) (by decide) (by decide)) 0).trans (congrFun (rp_n (by decide)) 0)).trans ((congrFun (q_2.2.1.1 131 (by decide) (by decide) (by decide)) 0).trans h131_9))))))) (by omega) (fun z => by have h6 := hm9 (by omega); omega) (fun z => by rw [eSS] at z; obtain ⟨x1, x2, x3, x4⟩ := ex_29 (le_49 ((le_106 (le_112 z)))); exact (hnm9 (by omega)).more hpn_9 w6_112 x1 x2 bt_2 x3 x4 w6_2) (fun z => hd_more (R := R_9 26) (hhd9 (by omega)) hpn_9 (by rw [w26_112, w26_49])) (hinv9.trans (pans_step e0 hpn_9)) (by omega) _ _ _ hW hS (lv_sub hl [1] rfl)
          · have ein : b_in (p_panX K Wd pn9 pN9 s9) 1 200 = false := by cases hb9 : b_in (p_panX K Wd pn9 pN9 s9) 1 200; rfl; exact absurd (by rw [hb9] at c_77; exact c_77) (by decide)
            have eS : p_ci (decide ((p_hold K Wd pn9 pN9 s9).2.1 = 38) && (decide ((p_panX K Wd pn9 pN9 s9) < 1) || decide (200 < (p_panX K Wd pn9 pN9 s9)))) 5 (p_hold K Wd pn9 pN9 s9) = p_ci true 5 (p_hold K Wd pn9 pN9 s9) := by have z : (decide ((p_panX K Wd pn9 pN9 s9) < 1) || decide (200 < (p_panX K Wd pn9 pN9 s9))) = true := (by unfold b_in at ein; revert ein; cases decide ((p_panX K Wd pn9 pN9 s9) < 1) <;> cases decide (200 < (p_panX K Wd pn9 pN9 s9)) <;> decide); rw [z, decide_eq_true e38]; rfl
            refine lv_aload_n hx hb dX14_book_80 rfl (lv_at hl 1 rfl) ?_
            refine lv_iconst (v := 5) hx hb dX14_book_81 (by decide) ?_
            refine q_cv (va_runV (As := [.int 5]) (rest := []) ⟨hx, hb, hml, hown, hts⟩ (kX14_mark l E (rO E f M R_49) n M R_49 K Wd T (p_hold K Wd pn9 pN9 s9) tk_49 nd_49 cc_49 ac_49 5 rO_K T_49 hT hKT hK41 Q_49.1 ok_49) (cwV 1 hts gX14_book_X14_mark rfl rfl rfl (by decide +kernel) ⟨(Nat.le_of_ble_eq_true rfl), (Nat.le_of_ble_eq_true rfl)⟩) (q_pV hA hW hS (ci := 12) rfl rO_0) rfl rfl hl.1 rfl (lv_room (Nat.le_of_ble_eq_true rfl)) dX14_book_82 ⟨Nat.le_of_ble_eq_true rfl, Nat.le_of_ble_eq_true rfl⟩) hS (fun f_82 n_82 H locs hp hW hS => ?_)
            obtain ⟨R_82, tk_82, nd_82, cc_82, ac_82, q_82, e7_82, e8_82, ec_82, ex_82, rfl, rfl⟩ := hp
            have G_82 : p_go K T (p_hold K Wd pn9 pN9 s9) (p_ci true 5 (p_hold K Wd pn9 pN9 s9)) := (go_ci (by decide) (by decide))
            have GG_82 := G_82 ok_49
            have ok_82 := GG_82.1
            have le_82 := GG_82.2.2.2.1
            have er_82 := GG_82.2.2.2.2
            have Q_82 := Q_49.trans q_82
            have T_82 := Q_82.tok hTK
            have num_82 := Q_82.2.2
            unfold r_num at num_82
            have bt_82 := Q_82.1.1.2.1
            have bn_82 := Q_82.1.1.2.2.2.1
            have bc_82 := Q_82.1.1.2.2.2.2.2.1
            have ba_82 := Q_82.1.1.2.2.2.2.2.2.2
            have qn_82 := q_82.2.2
            unfold r_num at qn_82
            have h8_82 : (p_ci true 5 (p_hold K Wd pn9 pN9 s9)).2.1 ≠ 40 → R_82 108 0 = nI (4 - 4) := fun z => (e8_82).trans (h8_49 (le_82 z))
            have w6_82 : R_82 6 = g_29 := (q_82.2.1.1 6 (by decide) (by decide) (by decide)).trans w6_49
            have w7_82 : R_82 7 = R_9 7 := (q_82.2.1.1 7 (by decide) (by decide) (by decide)).trans w7_49
            have w26_82 : R_82 26 = R_9 26 := (q_82.2.1.1 26 (by decide) (by decide) (by decide)).trans w26_49
            have w27_82 : R_82 27 = R_9 27 := (q_82.2.1.1 27 (by decide) (by decide) (by decide)).trans w27_49
            rw [rO_rO] at hW
            have hW : q_W E (rO E f M R_82) n H := hW
            refine lv_aload_n hx hb dX14_book_85 rfl (lv_at hl 1 rfl) ?_
            refine q_get hx hb hts hown hA hW iX14 rO_0 rfl 18 (by decide) (hts (.fieldLink RX14 42 "HighRecipesModel" "fresh" "LHighRecipesModel$Book;") (by decide +kernel)) (fun _ h9 => h9) (v := .ref (M + 25)) rfl dX14_book_86 ?_
            refine q_getN hx hb hts hown hA hW iX13 rO_25 rfl 1 (by decide) (va_Nw.use rfl (hA.2.2.2.1 ("HighRecipesModel", 260, "HighRecipesModel$Book", "holds", "[I", "HighRecipesModel") (by decide +kernel))) (fun _ h9 => h9) (v := .ref (M + 26)) rfl dX14_book_89 ?_
            refine lv_iload_n hx hb dX14_book_92 rfl (lv_at hl 0 rfl) ?_
            refine lv_aload_n hx hb dX14_book_93 rfl (lv_at hl 1 rfl) ?_
            refine q_get hx hb hts hown hA hW iX14 rO_0 rfl 5 (by decide) (hts (.fieldLink RX14 20 "HighRecipesModel" "number" "[I") (by decide +kernel)) (fun _ h9 => h9) (v := .ref (M + 3)) rfl dX14_book_94 ?_
            refine lv_aload_n hx hb dX14_book_97 rfl (lv_at hl 1 rfl) ?_
            have nw82 := Q_82.1.nw (show (p_hold K Wd pn9 pN9 s9).2.1 ≠ 40 by omega)
            refine q_get hx hb hts hown hA hW iX14 rO_0 rfl 8 (by decide) (hts (.fieldLink RX14 120 "HighRecipesModel" "token" "I") (by decide +kernel)) (fun _ h9 => h9) (v := .int (nI tk_82)) (congrArg (fun z => some (Value.int z)) Q_82.1.1.1) dX14_book_98 ?_
            refine q_ald hx hb hA hW (rO_3 (g := R_82 3) rfl) tk_82 rfl (by omega) (by decide) (x := (p_panX K Wd pn9 pN9 s9)) (by rw [T_82.2.1 tk_82 bt_82 (by rw [nw82.2.1]; exact nw82.2.2.1.symm.trans e38), nw82.2.1]; rfl) dX14_book_101 ?_
            refine q_ast hx hb hA hW hS (rO_26 (g := R_82 26) rfl) pn9 rfl (by omega) (by decide) dX14_book_102 (fun H locs hW hS => ?_)
            have hW := q_sa 26 hW rfl rfl
            obtain ⟨R_103, hR_103⟩ : ∃ z, z = rp R_82 26 (upd (R_82 26) pn9 (p_panX K Wd pn9 pN9 s9)) := ⟨_, rfl⟩
            rw [← hR_103] at hW
            have Q_103 : r_Y r R_103 K T (p_ci true 5 (p_hold K Wd pn9 pN9 s9)) tk nd cc ac tk_82 nd_82 cc_82 ac_82 := by rw [hR_103]; exact (Q_82.up (by decide))
            have T_103 := Q_103.tok hTK
            have num_103 := Q_103.2.2
            unfold r_num at num_103
            have bt_103 := Q_103.1.1.2.1
            have bn_103 := Q_103.1.1.2.2.2.1
            have bc_103 := Q_103.1.1.2.2.2.2.2.1
            have ba_103 := Q_103.1.1.2.2.2.2.2.2.2
            have w6_103 : R_103 6 = g_29 := by rw [hR_103]; exact w6_82
            have w7_103 : R_103 7 = R_9 7 := by rw [hR_103]; exact w7_82
            have w26_103 : R_103 26 = upd (R_82 26) pn9 (p_panX K Wd pn9 pN9 s9) := by rw [hR_103]; rfl
            have w27_103 : R_103 27 = R_9 27 := by rw [hR_103]; exact w27_82
            have h8_103 : (p_ci true 5 (p_hold K Wd pn9 pN9 s9)).2.1 ≠ 40 → R_103 108 0 = nI (4 - 4) := fun z => by rw [hR_103]; exact h8_82 z
            refine lv_aload_n hx hb dX14_book_103 rfl (lv_at hl 1 rfl) ?_
            refine lv_bipush (v := 41) hx hb dX14_book_104 (by decide) ?_
            refine q_cv (va_runV (As := [.int 41]) (rest := []) ⟨hx, hb, hml, hown, hts⟩ (kX14_take l E (rO E f M R_103) n M R_103 K Wd T (p_ci true 5 (p_hold K Wd pn9 pN9 s9)) tk_82 nd_82 cc_82 ac_82 38 41 rO_K T_103 hT hKT hK41 Q_103.1 ok_82 rfl (by decide)) (cwV 1 hts gX14_book_X14_take rfl rfl rfl (by decide +kernel) ⟨(Nat.le_of_ble_eq_true rfl), (Nat.le_of_ble_eq_true rfl)⟩) (q_pV hA hW hS (ci := 12) rfl rO_0) rfl rfl hl.1 rfl (lv_room (Nat.le_of_ble_eq_true rfl)) dX14_book_106 ⟨Nat.le_of_ble_eq_true rfl, Nat.le_of_ble_eq_true rfl⟩) hS (fun f_106 n_106 H locs hp hW hS => ?_)
            obtain ⟨R_106, tk_106, nd_106, cc_106, ac_106, q_106, e7_106, e8_106, ec_106, ex_106, rfl, rfl⟩ := hp
            have G_106 : p_go K T (p_ci true 5 (p_hold K Wd pn9 pN9 s9)) (p_take K 38 (p_ci true 5 (p_hold K Wd pn9 pN9 s9))) := (go_take hKT (by decide))
            have GG_106 := G_106 ok_82
            have ok_106 := GG_106.1
            have le_106 := GG_106.2.2.2.1
            have er_106 := GG_106.2.2.2.2
            have Q_106 := Q_103.trans q_106
            have T_106 := Q_106.tok hTK
            have num_106 := Q_106.2.2
            unfold r_num at num_106
            have bt_106 := Q_106.1.1.2.1
            have bn_106 := Q_106.1.1.2.2.2.1
            have bc_106 := Q_106.1.1.2.2.2.2.2.1
            have ba_106 := Q_106.1.1.2.2.2.2.2.2.2
            have qn_106 := q_106.2.2
            unfold r_num at qn_106
            have h8_106 : (p_take K 38 (p_ci true 5 (p_hold K Wd pn9 pN9 s9))).2.1 ≠ 40 → R_106 108 0 = nI (4 - 4) := fun z => (e8_106).trans (h8_103 (le_106 z))
            have w6_106 : R_106 6 = g_29 := (q_106.2.1.1 6 (by decide) (by decide) (by decide)).trans w6_103
            have w7_106 : R_106 7 = R_9 7 := (q_106.2.1.1 7 (by decide) (by decide) (by decide)).trans w7_103
            have w26_106 : R_106 26 = upd (R_82 26) pn9 (p_panX K Wd pn9 pN9 s9) := (q_106.2.1.1 26 (by decide) (by decide) (by decide)).trans w26_103
            have w27_106 : R_106 27 = R_9 27 := (q_106.2.1.1 27 (by decide) (by decide) (by decide)).trans w27_103
            rw [rO_rO] at hW
            have hW : q_W E (rO E f M R_106) n H := hW
            refine lv_aload_n hx hb dX14_book_109 rfl (lv_at hl 1 rfl) ?_
            refine lv_bipush (v := 52) hx hb dX14_book_110 (by decide) ?_
            refine q_cv (va_runV (As := [.int 52]) (rest := []) ⟨hx, hb, hml, hown, hts⟩ (kX14_take l E (rO E f M R_106) n M R_106 K Wd T (p_take K 38 (p_ci true 5 (p_hold K Wd pn9 pN9 s9))) tk_106 nd_106 cc_106 ac_106 29 52 rO_K T_106 hT hKT hK41 Q_106.1 ok_106 rfl (by decide)) (cwV 1 hts gX14_book_X14_take rfl rfl rfl (by decide +kernel) ⟨(Nat.le_of_ble_eq_true rfl), (Nat.le_of_ble_eq_true rfl)⟩) (q_pV hA hW hS (ci := 12) rfl rO_0) rfl rfl hl.1 rfl (lv_room (Nat.le_of_ble_eq_true rfl)) dX14_book_112 ⟨Nat.le_of_ble_eq_true rfl, Nat.le_of_ble_eq_true rfl⟩) hS (fun f_112 n_112 H locs hp hW hS => ?_)
            obtain ⟨R_112, tk_112, nd_112, cc_112, ac_112, q_112, e7_112, e8_112, ec_112, ex_112, rfl, rfl⟩ := hp
            have G_112 : p_go K T (p_take K 38 (p_ci true 5 (p_hold K Wd pn9 pN9 s9))) (p_take K 29 (p_take K 38 (p_ci true 5 (p_hold K Wd pn9 pN9 s9)))) := (go_take hKT (by decide))
            have GG_112 := G_112 ok_106
            have ok_112 := GG_112.1
            have le_112 := GG_112.2.2.2.1
            have er_112 := GG_112.2.2.2.2
            have Q_112 := Q_106.trans q_112
            have T_112 := Q_112.tok hTK
            have num_112 := Q_112.2.2
            unfold r_num at num_112
            have bt_112 := Q_112.1.1.2.1
            have bn_112 := Q_112.1.1.2.2.2.1
            have bc_112 := Q_112.1.1.2.2.2.2.2.1
            have ba_112 := Q_112.1.1.2.2.2.2.2.2.2
            have qn_112 := q_112.2.2
            unfold r_num at qn_112
            have h8_112 : (p_take K 29 (p_take K 38 (p_ci true 5 (p_hold K Wd pn9 pN9 s9)))).2.1 ≠ 40 → R_112 108 0 = nI (4 - 4) := fun z => (e8_112).trans (h8_106 (le_112 z))
            have w6_112 : R_112 6 = g_29 := (q_112.2.1.1 6 (by decide) (by decide) (by decide)).trans w6_106
            have w7_112 : R_112 7 = R_9 7 := (q_112.2.1.1 7 (by decide) (by decide) (by decide)).trans w7_106
            have w26_112 : R_112 26 = upd (R_82 26) pn9 (p_panX K Wd pn9 pN9 s9) := (q_112.2.1.1 26 (by decide) (by decide) (by decide)).trans w26_106
            have w27_112 : R_112 27 = R_9 27 := (q_112.2.1.1 27 (by decide) (by decide) (by decide)).trans w27_106
            rw [rO_rO] at hW
            have hW : q_W E (rO E f M R_112) n H := hW
            refine lv_goto (tgt := 0) hx hb dX14_book_115 (by decide) ?_
            have eSS : (p_panS K Wd pn9 pN9 s9) = p_take K 29 (p_take K 38 (p_ci true 5 (p_hold K Wd pn9 pN9 s9))) := by unfold p_panS; rw [eS]
            have hle9 : s9.1 + 1 ≤ (p_panS K Wd pn9 pN9 s9).1 := by have a1 := GG_29.2.1; have a2 := GG_49.2.1; have a5 := GG_82.2.1; have a3 := GG_106.2.1; have a4 := GG_112.2.1; rw [eSS]; exact Nat.le_trans (Nat.le_of_eq h5.symm) (Nat.le_trans a1 (Nat.le_trans a2 (Nat.le_trans a5 (Nat.le_trans a3 a4))))
            exact ih R_112 (p_panS K Wd pn9 pN9 s9) m8 tk_112 nd_112 cc_112 ac_112 (min 8 (pn9 + 1)) (if pn9 < 8 then vp_updL pN9 pn9 (Wd (p_take K 0 s9).1) else pN9) (if pn9 < 8 then upd hd9 pn9 (p_panX K Wd pn9 pN9 s9) else hd9) (by rw [eSS]; exact Q_112) (by rw [eSS]; exact ok_112) (e7_112.trans (e7_106.trans (show R_103 107 0 = nI (6 - 6) from by rw [hR_103]; exact (e7_82.trans (e7_49.trans (show R_47 107 0 = nI (6 - 6) from by rw [hR_47]; exact (e7_29.trans (e7_2.trans k7_9)))))))) (by rw [eSS]; exact h8_112) ((congrFun (q_112.2.1.1 109 (by decide) (by decide) (by decide)) 0).trans ((congrFun (q_106.2.1.1 109 (by decide) (by decide) (by decide)) 0).trans (show R_103 109 0 = nI 0 from by rw [hR_103]; exact ((congrFun (q_82.2.1.1 109 (by decide) (by decide) (by decide)) 0).trans ((congrFun (q_49.2.1.1 109 (by decide) (by decide) (by decide)) 0).trans (show R_47 109 0 = nI 0 from by rw [hR_47]; exact (((congrFun (q_29.2.1.1 109 (by decide) (by decide) (by decide)) 0).trans (congrFun (rp_n (by decide)) 0)).trans ((congrFun (q_2.2.1.1 109 (by decide) (by decide) (by decide)) 0).trans h109_9)))))))) ((congrFun (q_112.2.1.1 130 (by decide) (by decide) (by decide)) 0).trans ((congrFun (q_106.2.1.1 130 (by decide) (by decide) (by decide)) 0).trans (show R_103 130 0 = nI (min 8 (pn9 + 1)) from by rw [hR_103]; exact ((congrFun (q_82.2.1.1 130 (by decide) (by decide) (by decide)) 0).trans ((congrFun (q_49.2.1.1 130 (by decide) (by decide) (by decide)) 0).trans (show R_47 130 0 = nI (min 8 (pn9 + 1)) from by rw [hR_47]; rfl)))))) ((congrFun (q_112.2.1.1 131 (by decide) (by decide) (by decide)) 0).trans ((congrFun (q_106.2.1.1 131 (by decide) (by decide) (by decide)) 0).trans (show R_103 131 0 = nI 0 from by rw [hR_103]; exact ((congrFun (q_82.2.1.1 131 (by decide) (by decide) (by decide)) 0).trans ((congrFun (q_49.2.1.1 131 (by decide) (by decide) (by decide)) 0).trans (show R_47 131 0 = nI 0 from by rw [hR_47]; exact (((congrFun (q_29.2.1.1 131 (by decide) (by decide) (by decide)) 0).trans (congrFun (rp_n (by decide)) 0)).trans ((congrFun (q_2.2.1.1 131 (by decide) (by decide) (by decide)) 0).trans h131_9)))))))) (by omega) (fun z => by have h6 := hm9 (by omega); omega) (fun z => by rw [eSS] at z; obtain ⟨x1, x2, x3, x4⟩ := ex_29 (le_49 (le_82 (le_106 (le_112 z)))); exact (hnm9 (by omega)).more hpn_9 w6_112 x1 x2 bt_2 x3 x4 w6_2) (fun z => hd_more (R := R_9 26) (hhd9 (by omega)) hpn_9 (by rw [w26_112, w26_82])) (hinv9.trans (pans_step e0 hpn_9)) (by omega) _ _ _ hW hS (lv_sub hl [1] rfl)
      · refine q_ci (va_runV (As := [.int 0]) (rest := []) ⟨hx, hb, hml, hown, hts⟩ (kX14_takesF l E (rO E f M R_9) n M R_9 K Wd T s9 tk_9 nd_9 cc_9 ac_9 0 0 rO_K T_9 hT hKT hK41 Q_9.1 ok_9 rfl (by decide) e0) (cwV 1 hts gX14_book_X14_takes rfl rfl rfl (by decide +kernel) ⟨(Nat.le_of_ble_eq_true rfl), (Nat.le_of_ble_eq_true rfl)⟩) (q_pV hA hW hS (ci := 12) rfl rO_0) rfl rfl hl.1 rfl (lv_room (Nat.le_of_ble_eq_true rfl)) dX14_book_2 ⟨Nat.le_of_ble_eq_true rfl, Nat.le_of_ble_eq_true rfl⟩) hS (fun r_2 f_2 n_2 H locs hp hW hS => ?_)
        obtain ⟨rfl, rfl, rfl⟩ := hp
        have hW : q_W E (rO E f M R_9) n H := hW
        have eP : b_P K Wd et n0 = (s9, pn9, pN9, hd9) := hinv9.trans (pans_stop e0 m9)
        refine lv_if_eq (tgt := 118) hx hb dX14_book_5 (by decide) (fun c_5 => ?_) (fun c_5 => False.elim ((fun h9 => h9 rfl) c_5))
        have K118 : ∀ (fu : Nat) (R_8 : q_R) (s8 : p_S) (k8 : Nat) (tk_8 : Nat) (nd_8 : Nat) (cc_8 : Nat) (ac_8 : Nat) (rc8 : Nat) (rN8 : Nat → Int64) (RS8 : Nat → q_S) (Q_8 : r_Y r R_8 K T s8 tk nd cc ac tk_8 nd_8 cc_8 ac_8) (ok_8 : p_ok K T s8) (k7_8 : R_8 107 0 = nI (6 - 6)) (h8_8 : s8.2.1 ≠ 40 → R_8 108 0 = nI (4 - 4)) (h109_8 : R_8 109 0 = nI rc8) (h130_8 : R_8 130 0 = nI pn9) (h131_8 : R_8 131 0 = nI rc8) (hrc_8 : rc8 ≤ 6) (hk8 : s8.2.1 ≠ 40 → 400 ≤ k8 + s8.1) (hnm8 : s8.2.1 ≠ 40 → r_nm R_8 K Wd T 6 pn9 pN9) (hnr8 : s8.2.1 ≠ 40 → r_nm R_8 K Wd T 7 rc8 rN8) (hhd8 : s8.2.1 ≠ 40 → ∀ i, i < pn9 → R_8 26 i = hd9 i) (hinv8 : b_R K Wd et n0 = b_recs K Wd pn9 pN9 k8 s8 rc8 rN8 RS8) (hRS8 : s8.2.1 ≠ 40 → s8.2.2.1 = 0 → mRS (bR R_8 25) pn9 nd_8 cc_8 ac_8 RS8 rc8) (hm : k8 < fu) (H : Heap) (locs : List Loc) (ls : Array Slot), q_W E (rO E f M R_8) n H → va_S (q_ge E) s.heap H locs → lv_has ls 2 [(0, .ref M)] → W p l e (headSpec wsX14_book ({ frames := 65, cells := 0, slots := 0, locals := 1623 })).room s m ([.ref M] : List Value).toArray below meth c H locs 0 0 (MQ below (q_Qv E (fun f1 n1 => ∃ (r1 : q_R), r_B r r1 ∧ r1 105 0 = nI (BKp K Wd et n0).2.2.1 ∧ ((BKp K Wd et n0).2.2.1 ≠ 0 → r1 106 0 = nI (BKp K Wd et n0).2.2.2.1) ∧ p_ok K T (BKp K Wd et n0) ∧ ((BKp K Wd et n0).2.2.1 = 0 → r1 130 0 = nI (b_P K Wd et n0).2.1 ∧ (b_P K Wd et n0).2.1 ≤ 8 ∧ r1 131 0 = nI (b_R K Wd et n0).2.1 ∧ (b_R K Wd et n0).2.1 ≤ 6 ∧ r1 132 0 = nI (min 80 (BKp K Wd et n0).2.2.2.2.1) ∧ (∀ i, i < (b_P K Wd et n0).2.1 → r1 26 i = (b_P K Wd et n0).2.2.2 i) ∧ mRS (bR r1 25) (b_P K Wd et n0).2.1 400 400 80 (b_R K Wd et n0).2.2.2 (b_R K Wd et n0).2.1) ∧ rO E f M r1 = f1 ∧ n = n1)) ([.ref M] : List Value).toArray s 0 0 (q_ge E)) (F0 m 118 ls []) := by
          intro fu
          induction fu with
          | zero =>
            intro R_8 s8 k8 tk_8 nd_8 cc_8 ac_8 rc8 rN8 RS8 Q_8 ok_8 k7_8 h8_8 h109_8 h130_8 h131_8 hrc_8 hk8 hnm8 hnr8 hhd8 hinv8 hRS8 hm
            exact absurd hm (Nat.not_lt_zero _)
          | succ fu ih =>
            intro R_8 s8 k8 tk_8 nd_8 cc_8 ac_8 rc8 rN8 RS8 Q_8 ok_8 k7_8 h8_8 h109_8 h130_8 h131_8 hrc_8 hk8 hnm8 hnr8 hhd8 hinv8 hRS8 hm H locs ls hW hS hl
            have T_8 := Q_8.tok hTK
            have num_8 := Q_8.2.2
            unfold r_num at num_8
            have bt_8 := Q_8.1.1.2.1
            have bn_8 := Q_8.1.1.2.2.2.1
            have bc_8 := Q_8.1.1.2.2.2.2.2.1
            have ba_8 := Q_8.1.1.2.2.2.2.2.2.2
            refine lv_aload_n hx hb dX14_book_118 rfl (lv_at hl 0 rfl) ?_
            refine lv_iconst (v := 2) hx hb dX14_book_119 (by decide) ?_
            rcases Decidable.em (s8.2.1 = 2) with e2 | e2
            · refine q_ci (va_runV (As := [.int 2]) (rest := []) ⟨hx, hb, hml, hown, hts⟩ (kX14_takesT l E (rO E f M R_8) n M R_8 K Wd T s8 tk_8 nd_8 cc_8 ac_8 2 2 rO_K T_8 hT hKT hK41 Q_8.1 ok_8 rfl (by decide) e2) (cwV 1 hts gX14_book_X14_takes rfl rfl rfl (by decide +kernel) ⟨(Nat.le_of_ble_eq_true rfl), (Nat.le_of_ble_eq_true rfl)⟩) (q_pV hA hW hS (ci := 12) rfl rO_0) rfl rfl hl.1 rfl (lv_room (Nat.le_of_ble_eq_true rfl)) dX14_book_120 ⟨Nat.le_of_ble_eq_true rfl, Nat.le_of_ble_eq_true rfl⟩) hS (fun r_120 f_120 n_120 H locs hp hW hS => ?_)
              obtain ⟨R_120, tk_120, nd_120, cc_120, ac_120, q_120, e7_120, e8_120, ec_120, ex_120, rfl, rfl⟩ := hp
              have G_120 : p_go K T s8 (p_step K true s8) := (go_step hKT (fun _ => by show s8.2.1 < 39; omega))
              have GG_120 := G_120 ok_8
              have ok_120 := GG_120.1
              have le_120 := GG_120.2.2.2.1
              have er_120 := GG_120.2.2.2.2
              have Q_120 := Q_8.trans q_120
              have T_120 := Q_120.tok hTK
              have num_120 := Q_120.2.2
              unfold r_num at num_120
              have bt_120 := Q_120.1.1.2.1
              have bn_120 := Q_120.1.1.2.2.2.1
              have bc_120 := Q_120.1.1.2.2.2.2.2.1
              have ba_120 := Q_120.1.1.2.2.2.2.2.2.2
              have qn_120 := q_120.2.2
              unfold r_num at qn_120
              have h8_120 : (p_step K true s8).2.1 ≠ 40 → R_120 108 0 = nI (4 - 4) := fun z => (e8_120).trans (h8_8 (le_120 z))
              have w6_120 : R_120 6 = R_8 6 := (q_120.2.1.1 6 (by decide) (by decide) (by decide)).trans (rfl : R_8 6 = R_8 6)
              have w7_120 : R_120 7 = R_8 7 := (q_120.2.1.1 7 (by decide) (by decide) (by decide)).trans (rfl : R_8 7 = R_8 7)
              have w26_120 : R_120 26 = R_8 26 := (q_120.2.1.1 26 (by decide) (by decide) (by decide)).trans (rfl : R_8 26 = R_8 26)
              have w27_120 : R_120 27 = R_8 27 := (q_120.2.1.1 27 (by decide) (by decide) (by decide)).trans (rfl : R_8 27 = R_8 27)
              obtain ⟨ex_120, ey_120⟩ := ex_120
              subst ey_120
              rw [rO_rO] at hW
              have hW : q_W E (rO E f M R_120) n H := hW
              have eT : p_take K 2 s8 = p_step K true s8 := by unfold p_take; rw [decide_eq_true e2]
              rw [← eT] at Q_120 ok_120 GG_120 le_120 er_120 h8_120
              have h5 : (p_take K 2 s8).1 = s8.1 + 1 := by rw [eT]; rfl
              have hm8 : 1 ≤ k8 := by have h6 := hk8 (by omega); have h5 := Q_8.1.nw (by omega); rcases Nat.lt_or_ge s8.1 400 with h4 | h4; omega; exact absurd (show K T = 2 from by rw [show T = s8.1 by omega, ← h5.2.2.1]; exact e2) (by omega)
              obtain ⟨k7, rfl⟩ : ∃ z, k8 = z + 1 := ⟨k8 - 1, by omega⟩
              refine lv_if_eq (tgt := 192) hx hb dX14_book_123 (by decide) (fun c_123 => False.elim ((fun h9 => absurd h9 (by decide)) c_123)) (fun c_123 => ?_)
              refine lv_bipush (v := 6) hx hb dX14_book_126 (by decide) ?_
              refine lv_aload_n hx hb dX14_book_128 rfl (lv_at hl 0 rfl) ?_
              refine q_get hx hb hts hown hA hW iX14 rO_0 rfl 18 (by decide) (hts (.fieldLink RX14 42 "HighRecipesModel" "fresh" "LHighRecipesModel$Book;") (by decide +kernel)) (fun _ h9 => h9) (v := .ref (M + 25)) rfl dX14_book_129 ?_
              refine q_getN hx hb hts hown hA hW iX13 rO_25 rfl 2 (by decide) (va_Nw.use rfl (hA.2.2.2.1 ("HighRecipesModel", 156, "HighRecipesModel$Book", "recipes", "I", "HighRecipesModel") (by decide +kernel))) (fun _ h9 => h9) (v := .int (nI rc8)) (congrArg (fun z => some (Value.int z)) ((congrFun (q_120.2.1.1 131 (by decide) (by decide) (by decide)) 0).trans h131_8)) dX14_book_132 ?_
              refine va_mmin hx hb (hml.trans hl.1.symm) hown (hts (.methodLink RX14 57 Lib.Math.min.name) (by decide +kernel)) (hts (.static Lib.Math.min.name) (by decide +kernel)) (hts (.initialized "java/lang/Math") (by decide +kernel)) (hts (.code Lib.Math.min.name Lib.Math.min.code 2 (some .int)) (by decide +kernel)) (Nat.le_of_ble_eq_true rfl) (Nat.le_of_ble_eq_true rfl) (Nat.le_of_ble_eq_true rfl) (Nat.le_of_ble_eq_true rfl) dX14_book_135 ?_
              rw [show (if nI rc8 < 6 then nI rc8 else 6) = nI rc8 from (q_min_n (a := 6) (b := rc8) (by decide) (by omega)).trans (by rw [Nat.min_eq_right (by omega)])]
              refine lv_istore_n (lv' := [(1, .int (nI rc8)), (0, .ref M)]) hx hb dX14_book_138 rfl hl (by decide) rfl (fun ls hl => ?_)
              refine lv_aload_n hx hb dX14_book_139 rfl (lv_at hl 1 rfl) ?_
              refine lv_aload_n hx hb dX14_book_140 rfl (lv_at hl 1 rfl) ?_
              refine q_get hx hb hts hown hA hW iX14 rO_0 rfl 15 (by decide) (hts (.fieldLink RX14 32 "HighRecipesModel" "recipeName" "[I") (by decide +kernel)) (fun _ h9 => h9) (v := .ref (M + 7)) rfl dX14_book_141 ?_
              refine lv_iload_n hx hb dX14_book_144 rfl (lv_at hl 0 rfl) ?_
              refine lv_bipush (v := 6) hx hb dX14_book_145 (by decide) ?_
              refine q_cv (va_runV (As := [.ref (M + 7), .int (nI rc8), .int 6]) (rest := []) ⟨hx, hb, hml, hown, hts⟩ (kX14_newName_7 l E (rO E f M R_120) n M R_120 K Wd T (p_take K 2 s8) tk_120 nd_120 cc_120 ac_120 pN9 pn9 rN8 rc8 rO_K T_120 hT hKT hK41 Q_120.1 ok_120 (fun _ => (hnm8 (by omega)).mv w6_120) (fun _ => (hnr8 (by omega)).mv w7_120) hpn_9 hrc_8 ((congrFun (q_120.2.1.1 130 (by decide) (by decide) (by decide)) 0).trans h130_8) ((congrFun (q_120.2.1.1 131 (by decide) (by decide) (by decide)) 0).trans h131_8)) (cwV 3 hts gX14_book_X14_newName rfl rfl rfl (by decide +kernel) ⟨(Nat.le_of_ble_eq_true rfl), (Nat.le_of_ble_eq_true rfl)⟩) (q_pV hA hW hS (ci := 12) rfl rO_0) rfl rfl hl.1 rfl (lv_room (Nat.le_of_ble_eq_true rfl)) dX14_book_147 ⟨Nat.le_of_ble_eq_true rfl, Nat.le_of_ble_eq_true rfl⟩) hS (fun f_147 n_147 H locs hp hW hS => ?_)
              obtain ⟨g_147, R_147, tk_147, nd_147, cc_147, ac_147, q_147, e7_147, e8_147, ec_147, ex_147, gx_147, rfl, rfl⟩ := hp
              have G_147 : p_go K T (p_take K 2 s8) (p_newn K Wd pN9 pn9 rN8 rc8 (decide (6 ≤ rc8)) (p_take K 2 s8)) := (go_newn hKT)
              have GG_147 := G_147 ok_120
              have ok_147 := GG_147.1
              have le_147 := GG_147.2.2.2.1
              have er_147 := GG_147.2.2.2.2
              have Q_147 := (Q_120.up (j := 7) (g := g_147) (by decide)).trans q_147
              have T_147 := Q_147.tok hTK
              have num_147 := Q_147.2.2
              unfold r_num at num_147
              have bt_147 := Q_147.1.1.2.1
              have bn_147 := Q_147.1.1.2.2.2.1
              have bc_147 := Q_147.1.1.2.2.2.2.2.1
              have ba_147 := Q_147.1.1.2.2.2.2.2.2.2
              have qn_147 := q_147.2.2
              unfold r_num at qn_147
              have w6_147 : R_147 6 = R_8 6 := (q_147.2.1.1 6 (by decide) (by decide) (by decide)).trans ((rp_n (by decide)).trans w6_120)
              have w7_147 : R_147 7 = g_147 := (q_147.2.1.1 7 (by decide) (by decide) (by decide)).trans rp_s
              have w26_147 : R_147 26 = R_8 26 := (q_147.2.1.1 26 (by decide) (by decide) (by decide)).trans ((rp_n (by decide)).trans w26_120)
              have w27_147 : R_147 27 = R_8 27 := (q_147.2.1.1 27 (by decide) (by decide) (by decide)).trans ((rp_n (by decide)).trans w27_120)
              have h8_147 : (p_newn K Wd pN9 pn9 rN8 rc8 (decide (6 ≤ rc8)) (p_take K 2 s8)).2.1 ≠ 40 → R_147 108 0 = nI (4 - 4) := fun z => (e8_147).trans (h8_120 (le_147 z))
              rw [rO_rO] at hW
              have hW : q_W E (rO E f M R_147) n H := hW
              refine lv_aload_n hx hb dX14_book_150 rfl (lv_at hl 1 rfl) ?_
              refine q_get hx hb hts hown hA hW iX14 rO_0 rfl 18 (by decide) (hts (.fieldLink RX14 42 "HighRecipesModel" "fresh" "LHighRecipesModel$Book;") (by decide +kernel)) (fun _ h9 => h9) (v := .ref (M + 25)) rfl dX14_book_151 ?_
              refine lv_bipush (v := 6) hx hb dX14_book_154 (by decide) ?_
              refine lv_iload_n hx hb dX14_book_156 rfl (lv_at hl 0 rfl) ?_
              refine lv_iconst (v := 1) hx hb dX14_book_157 (by decide) ?_
              refine lv_iadd hx hb dX14_book_158 ?_
              rw [nI_1]
              refine va_mmin hx hb (hml.trans hl.1.symm) hown (hts (.methodLink RX14 57 Lib.Math.min.name) (by decide +kernel)) (hts (.static Lib.Math.min.name) (by decide +kernel)) (hts (.initialized "java/lang/Math") (by decide +kernel)) (hts (.code Lib.Math.min.name Lib.Math.min.code 2 (some .int)) (by decide +kernel)) (Nat.le_of_ble_eq_true rfl) (Nat.le_of_ble_eq_true rfl) (Nat.le_of_ble_eq_true rfl) (Nat.le_of_ble_eq_true rfl) dX14_book_159 ?_
              rw [show (if nI (rc8 + 1) < 6 then nI (rc8 + 1) else 6) = nI (min 6 (rc8 + 1)) from q_min_n (a := 6) (b := rc8 + 1) (by decide) (by omega)]
              refine q_putN hx hb hts hown hA hW hS iX13 tyX13 tyX13_ok nmX13 rO_25 rfl 2 (by decide) (va_Nw.use rfl (hA.2.2.2.1 ("HighRecipesModel", 156, "HighRecipesModel$Book", "recipes", "I", "HighRecipesModel") (by decide +kernel))) (fun _ h9 => h9) rfl rfl rfl (Nat.le_of_ble_eq_true rfl) dX14_book_162 (fun H locs hW hS => ?_)
              have hW := q_s25 131 (nI (min 6 (rc8 + 1))) hW rfl (by decide)
              obtain ⟨R_165, hR_165⟩ : ∃ z, z = rp R_147 131 (fun _ => nI (min 6 (rc8 + 1))) := ⟨_, rfl⟩
              rw [← hR_165] at hW
              have Q_165 : r_Y r R_165 K T (p_newn K Wd pN9 pn9 rN8 rc8 (decide (6 ≤ rc8)) (p_take K 2 s8)) tk nd cc ac tk_147 nd_147 cc_147 ac_147 := by rw [hR_165]; exact (Q_147.up (by decide))
              have T_165 := Q_165.tok hTK
              have num_165 := Q_165.2.2
              unfold r_num at num_165
              have bt_165 := Q_165.1.1.2.1
              have bn_165 := Q_165.1.1.2.2.2.1
              have bc_165 := Q_165.1.1.2.2.2.2.2.1
              have ba_165 := Q_165.1.1.2.2.2.2.2.2.2
              have w6_165 : R_165 6 = R_8 6 := by rw [hR_165]; exact w6_147
              have w7_165 : R_165 7 = g_147 := by rw [hR_165]; exact w7_147
              have w26_165 : R_165 26 = R_8 26 := by rw [hR_165]; exact w26_147
              have w27_165 : R_165 27 = R_8 27 := by rw [hR_165]; exact w27_147
              have h8_165 : (p_newn K Wd pN9 pn9 rN8 rc8 (decide (6 ≤ rc8)) (p_take K 2 s8)).2.1 ≠ 40 → R_165 108 0 = nI (4 - 4) := fun z => by rw [hR_165]; exact h8_147 z
              refine lv_aload_n hx hb dX14_book_165 rfl (lv_at hl 1 rfl) ?_
              refine q_get hx hb hts hown hA hW iX14 rO_0 rfl 18 (by decide) (hts (.fieldLink RX14 42 "HighRecipesModel" "fresh" "LHighRecipesModel$Book;") (by decide +kernel)) (fun _ h9 => h9) (v := .ref (M + 25)) rfl dX14_book_166 ?_
              refine q_getN hx hb hts hown hA hW iX13 rO_25 rfl 3 (by decide) (va_Nw.use rfl (hA.2.2.2.1 ("HighRecipesModel", 263, "HighRecipesModel$Book", "recipe", "[I", "HighRecipesModel") (by decide +kernel))) (fun _ h9 => h9) (v := .ref (M + 27)) rfl dX14_book_169 ?_
              refine lv_iload_n hx hb dX14_book_172 rfl (lv_at hl 0 rfl) ?_
              have hnr165 : r_nm R_165 K Wd T 7 rc8 rN8 := by
                intro i hi
                obtain ⟨t, a1, a2, a3, a4⟩ := hnr8 (by omega) i hi
                have eg : g_147 i = R_8 7 i := (gx_147 i hi).trans (by rw [w7_120])
                exact ⟨t, by rw [w7_165, eg]; exact a1, a2, a3, a4⟩
              refine lv_aload_n hx hb dX14_book_173 rfl (lv_at hl 1 rfl) ?_
              refine q_ci (va_runV (As := []) (rest := [.int (nI rc8), .ref (M + 27)]) ⟨hx, hb, hml, hown, hts⟩ (rblk_all l E RS8 6 (rO E f M R_165) n M R_165 K Wd T (p_recS K Wd pn9 pN9 rc8 rN8 s8) tk_147 nd_147 cc_147 ac_147 pN9 pn9 rN8 rc8 rO_K T_165 hT hKT hK41 Q_165.1 ok_147 ((hnm8 (by omega)).mv w6_165) hpn_9 (show R_165 130 0 = nI pn9 from by rw [hR_165]; exact (((congrFun (q_147.2.1.1 130 (by decide) (by decide) (by decide)) 0).trans (congrFun (rp_n (by decide)) 0)).trans ((congrFun (q_120.2.1.1 130 (by decide) (by decide) (by decide)) 0).trans h130_8))) hnr165 hrc_8 (show R_165 109 0 = nI rc8 from by rw [hR_165]; exact (((congrFun (q_147.2.1.1 109 (by decide) (by decide) (by decide)) 0).trans (congrFun (rp_n (by decide)) 0)).trans ((congrFun (q_120.2.1.1 109 (by decide) (by decide) (by decide)) 0).trans h109_8))) (show R_165 107 0 = nI (6 - 6) from by rw [hR_165]; exact (e7_147.trans (e7_120.trans k7_8))) h8_165 (by decide)) (cwV 0 hts gX14_book_X14_block rfl rfl rfl (by decide +kernel) ⟨(Nat.le_of_ble_eq_true rfl), (Nat.le_of_ble_eq_true rfl)⟩) (q_pV hA hW hS (ci := 12) rfl rO_0) rfl rfl hl.1 rfl (lv_room (Nat.le_of_ble_eq_true rfl)) dX14_book_174 ⟨Nat.le_of_ble_eq_true rfl, Nat.le_of_ble_eq_true rfl⟩) hS (fun r_174 f_174 n_174 H locs hp hW hS => ?_)
              obtain ⟨R_174, tk_174, nd_174, cc_174, ac_174, q_174, e7_174, e8_174, ec_174, ex_174, rfl, rfl⟩ := hp
              have G_174 : p_go K T (p_recS K Wd pn9 pN9 rc8 rN8 s8) (p_blk K Wd pN9 pn9 rN8 rc8 6 (p_recS K Wd pn9 pN9 rc8 rN8 s8)) := (go_blk hKT 6 _)
              have GG_174 := G_174 ok_147
              have ok_174 := GG_174.1
              have le_174 := GG_174.2.2.2.1
              have er_174 := GG_174.2.2.2.2
              have Q_174 := Q_165.trans q_174
              have T_174 := Q_174.tok hTK
              have num_174 := Q_174.2.2
              unfold r_num at num_174
              have bt_174 := Q_174.1.1.2.1
              have bn_174 := Q_174.1.1.2.2.2.1
              have bc_174 := Q_174.1.1.2.2.2.2.2.1
              have ba_174 := Q_174.1.1.2.2.2.2.2.2.2
              have qn_174 := q_174.2.2
              unfold r_num at qn_174
              have h8_174 : (p_blk K Wd pN9 pn9 rN8 rc8 6 (p_recS K Wd pn9 pN9 rc8 rN8 s8)).2.1 ≠ 40 → R_174 108 0 = nI (4 - 4) := fun z => (e8_174 z).trans (h8_165 (le_174 z))
              have w6_174 : R_174 6 = R_8 6 := (q_174.2.1.1 6 (by decide) (by decide) (by decide)).trans w6_165
              have w7_174 : R_174 7 = g_147 := (q_174.2.1.1 7 (by decide) (by decide) (by decide)).trans w7_165
              have w26_174 : R_174 26 = R_8 26 := (q_174.2.1.1 26 (by decide) (by decide) (by decide)).trans w26_165
              have w27_174 : R_174 27 = R_8 27 := (q_174.2.1.1 27 (by decide) (by decide) (by decide)).trans w27_165
              rw [rO_rO] at hW
              have hW : q_W E (rO E f M R_174) n H := hW
              refine q_ast hx hb hA hW hS (rO_27 (g := R_174 27) rfl) rc8 rfl (by omega) (by decide) dX14_book_177 (fun H locs hW hS => ?_)
              have hW := q_sa 27 hW rfl rfl
              refine lv_aload_n hx hb dX14_book_178 rfl (lv_at hl 1 rfl) ?_
              refine lv_aload_n hx hb dX14_book_179 rfl (lv_at hl 1 rfl) ?_
              refine q_get hx hb hts hown hA hW iX14 rO_0 rfl 18 (by decide) (hts (.fieldLink RX14 42 "HighRecipesModel" "fresh" "LHighRecipesModel$Book;") (by decide +kernel)) (fun _ h9 => h9) (v := .ref (M + 25)) rfl dX14_book_180 ?_
              refine q_getN hx hb hts hown hA hW iX13 rO_25 rfl 2 (by decide) (va_Nw.use rfl (hA.2.2.2.1 ("HighRecipesModel", 156, "HighRecipesModel$Book", "recipes", "I", "HighRecipesModel") (by decide +kernel))) (fun _ h9 => h9) (v := .int (nI (min 6 (rc8 + 1)))) (congrArg (fun z => some (Value.int z)) ((congrFun (q_174.2.1.1 131 (by decide) (by decide) (by decide)) 0).trans (show R_165 131 0 = nI (min 6 (rc8 + 1)) from by rw [hR_165]; rfl))) dX14_book_183 ?_
              refine q_put hx hb hts hown hA hW hS iX14 tyX14 tyX14_ok nmX14 rO_0 rfl 16 (by decide) (hts (.fieldLink RX14 253 "HighRecipesModel" "ended" "I") (by decide +kernel)) (fun _ h9 => h9) rfl rfl rfl (Nat.le_of_ble_eq_true rfl) dX14_book_186 (fun H locs hW hS => ?_)
              have hW := q_s0 109 (nI (min 6 (rc8 + 1))) hW rfl (by decide)
              obtain ⟨R_189, hR_189⟩ : ∃ z, z = rp (rp R_174 27 (upd (R_174 27) rc8 r_174)) 109 (fun _ => nI (min 6 (rc8 + 1))) := ⟨_, rfl⟩
              rw [← hR_189] at hW
              have Q_189 : r_Y r R_189 K T (p_blk K Wd pN9 pn9 rN8 rc8 6 (p_recS K Wd pn9 pN9 rc8 rN8 s8)) tk nd cc ac tk_174 nd_174 cc_174 ac_174 := by rw [hR_189]; exact ((Q_174.up (by decide)).up (by decide))
              have T_189 := Q_189.tok hTK
              have num_189 := Q_189.2.2
              unfold r_num at num_189
              have bt_189 := Q_189.1.1.2.1
              have bn_189 := Q_189.1.1.2.2.2.1
              have bc_189 := Q_189.1.1.2.2.2.2.2.1
              have ba_189 := Q_189.1.1.2.2.2.2.2.2.2
              have w6_189 : R_189 6 = R_8 6 := by rw [hR_189]; exact w6_174
              have w7_189 : R_189 7 = g_147 := by rw [hR_189]; exact w7_174
              have w26_189 : R_189 26 = R_8 26 := by rw [hR_189]; exact w26_174
              have w27_189 : R_189 27 = upd (R_174 27) rc8 r_174 := by rw [hR_189]; rfl
              have h8_189 : (p_blk K Wd pN9 pn9 rN8 rc8 6 (p_recS K Wd pn9 pN9 rc8 rN8 s8)).2.1 ≠ 40 → R_189 108 0 = nI (4 - 4) := fun z => by rw [hR_189]; exact h8_174 z
              refine lv_goto (tgt := 118) hx hb dX14_book_189 (by decide) ?_
              have hle8 : s8.1 + 1 ≤ (p_blk K Wd pN9 pn9 rN8 rc8 6 (p_recS K Wd pn9 pN9 rc8 rN8 s8)).1 := Nat.le_trans (Nat.le_of_eq h5.symm) (Nat.le_trans GG_147.2.1 GG_174.2.1)
              have E1 : r_E R_8 R_189 nd_8 cc_8 0 ac_8 := by
                have z1 : r_E R_8 R_120 nd_8 cc_8 0 ac_8 := q_120.2.1.E
                have z2 : r_E R_120 (rp R_120 7 g_147) nd_120 cc_120 0 ac_120 := rpl_E (by decide)
                have z3 : r_E (rp R_120 7 g_147) R_147 nd_120 cc_120 0 ac_120 := q_147.2.1.E
                have z4 : r_E R_147 R_165 nd_147 cc_147 0 ac_147 := by rw [hR_165]; exact rpS_E (by decide)
                have z5 : r_E R_165 R_174 nd_147 cc_147 0 ac_147 := q_174.2.1.E
                have z6 : r_E R_174 R_189 nd_174 cc_174 0 ac_174 := by rw [hR_189]; exact (rpl_E (j := 27) (by decide)).trans (rpS_E (by decide)) (Nat.le_refl _) (Nat.le_refl _) (Nat.le_refl _)
                exact ((((z1.trans z2 (by omega) (by omega) (by omega)).trans z3 (by omega) (by omega) (by omega)).trans z4 (by omega) (by omega) (by omega)).trans z5 (by omega) (by omega) (by omega)).trans z6 (by omega) (by omega) (by omega)
              have E6 : ∀ lo hi, r_E R_174 R_189 nd_174 cc_174 lo hi := fun lo hi => by rw [hR_189]; exact (rpl_E (j := 27) (by decide)).trans (rpS_E (by decide)) (Nat.le_refl _) (Nat.le_refl _) (Nat.le_refl _)
              exact ih R_189 (p_blk K Wd pN9 pn9 rN8 rc8 6 (p_recS K Wd pn9 pN9 rc8 rN8 s8)) k7 tk_174 nd_174 cc_174 ac_174 (min 6 (rc8 + 1)) (if rc8 < 6 then vp_updL rN8 rc8 (Wd (p_take K 2 s8).1) else rN8) (if rc8 < 6 then rs_up RS8 rc8 (p_blkS K Wd pN9 pn9 rN8 rc8 RS8 6 (p_recS K Wd pn9 pN9 rc8 rN8 s8)) else RS8) Q_189 ok_174 (show R_189 107 0 = nI (6 - 6) from by rw [hR_189]; exact (e7_174.trans (show R_165 107 0 = nI (6 - 6) from by rw [hR_165]; exact (e7_147.trans (e7_120.trans k7_8))))) h8_189 (show R_189 109 0 = nI (min 6 (rc8 + 1)) from by rw [hR_189]; rfl) (show R_189 130 0 = nI pn9 from by rw [hR_189]; exact ((congrFun (q_174.2.1.1 130 (by decide) (by decide) (by decide)) 0).trans (show R_165 130 0 = nI pn9 from by rw [hR_165]; exact (((congrFun (q_147.2.1.1 130 (by decide) (by decide) (by decide)) 0).trans (congrFun (rp_n (by decide)) 0)).trans ((congrFun (q_120.2.1.1 130 (by decide) (by decide) (by decide)) 0).trans h130_8))))) (show R_189 131 0 = nI (min 6 (rc8 + 1)) from by rw [hR_189]; exact ((congrFun (q_174.2.1.1 131 (by decide) (by decide) (by decide)) 0).trans (show R_165 131 0 = nI (min 6 (rc8 + 1)) from by rw [hR_165]; rfl))) (by omega) (fun z => by have h6 := hk8 (by omega); omega) (fun z => (hnm8 (by omega)).mv w6_189) (fun z => by obtain ⟨x1, x2, x3, x4⟩ := ex_147 (le_174 z); exact (hnr8 (by omega)).more hrc_8 w7_189 x1 x2 bt_120 x3 x4 w7_120) (fun z i hi => by rw [w26_189]; exact hhd8 (by omega) i hi) (hinv8.trans (recs_step e2 hrc_8)) (fun z1 z2 => by have h6 : rc8 < 6 := (by rcases Nat.lt_or_ge rc8 6 with h9 | h9; exact h9; exact absurd (er_174 z2) (by have y := newn_full (K := K) (Wd := Wd) (pN := pN9) (pn := pn9) (rN := rN8) (rc := rc8) (s := p_take K 2 s8) (by have y2 := le_174 z1; unfold p_recS at y2; rw [decide_eq_true h9] at y2; exact y2); unfold p_recS; rw [decide_eq_true h9]; exact y)); obtain ⟨mb, hL⟩ := ex_174 z1 z2; rw [if_pos h6, Nat.min_eq_right (by omega)]; exact mRS_more h6 (mRS_E (hRS8 (by omega) (er_120 (er_147 (er_174 z2)))) E1 (fun i hi => by rw [w27_189, z_un (by omega), w27_174]) (by omega) (by omega) (by omega)) (mL_E hL (E6 _ _) (Nat.le_refl _) (Nat.le_refl _) (Nat.le_refl _)) (by rw [w27_189, z_us])) (by omega) _ _ _ hW hS (lv_sub hl [1] rfl)
            · refine q_ci (va_runV (As := [.int 2]) (rest := []) ⟨hx, hb, hml, hown, hts⟩ (kX14_takesF l E (rO E f M R_8) n M R_8 K Wd T s8 tk_8 nd_8 cc_8 ac_8 2 2 rO_K T_8 hT hKT hK41 Q_8.1 ok_8 rfl (by decide) e2) (cwV 1 hts gX14_book_X14_takes rfl rfl rfl (by decide +kernel) ⟨(Nat.le_of_ble_eq_true rfl), (Nat.le_of_ble_eq_true rfl)⟩) (q_pV hA hW hS (ci := 12) rfl rO_0) rfl rfl hl.1 rfl (lv_room (Nat.le_of_ble_eq_true rfl)) dX14_book_120 ⟨Nat.le_of_ble_eq_true rfl, Nat.le_of_ble_eq_true rfl⟩) hS (fun r_120 f_120 n_120 H locs hp hW hS => ?_)
              obtain ⟨rfl, rfl, rfl⟩ := hp
              have hW : q_W E (rO E f M R_8) n H := hW
              have eR : b_R K Wd et n0 = (s8, rc8, rN8, RS8) := hinv8.trans (recs_stop e2 k8)
              refine lv_if_eq (tgt := 192) hx hb dX14_book_123 (by decide) (fun c_123 => ?_) (fun c_123 => False.elim ((fun h9 => h9 rfl) c_123))
              refine lv_aload_n hx hb dX14_book_192 rfl (lv_at hl 0 rfl) ?_
              refine lv_bipush (v := 71) hx hb dX14_book_193 (by decide) ?_
              refine q_ci (va_runV (As := [.int 71]) (rest := []) ⟨hx, hb, hml, hown, hts⟩ (kX14_is l E (rO E f M R_8) n M R_8 K Wd T s8 tk_8 nd_8 cc_8 ac_8 39 71 rO_K T_8 hT hKT hK41 Q_8.1 ok_8 rfl (by decide)) (cwV 1 hts gX14_book_X14_is rfl rfl rfl (by decide +kernel) ⟨(Nat.le_of_ble_eq_true rfl), (Nat.le_of_ble_eq_true rfl)⟩) (q_pV hA hW hS (ci := 12) rfl rO_0) rfl rfl hl.1 rfl (lv_room (Nat.le_of_ble_eq_true rfl)) dX14_book_195 ⟨Nat.le_of_ble_eq_true rfl, Nat.le_of_ble_eq_true rfl⟩) hS (fun r_195 f_195 n_195 H locs hp hW hS => ?_)
              obtain ⟨rfl, rfl, rfl⟩ := hp
              have hW : q_W E (rO E f M R_8) n H := hW
              refine lv_if_ne (tgt := 205) hx hb dX14_book_198 (by decide) (fun c_198 => ?_) (fun c_198 => ?_)
              · have e39 : s8.2.1 = 39 := by rcases Decidable.em (s8.2.1 = 39) with h9 | h9; exact h9; exact absurd (b01_F (decide_eq_false h9)) c_198
                have eF : BKp K Wd et n0 = s8 := by unfold BKp; rw [eR]; exact if_pos e39
                have nw8 := Q_8.1.nw (by omega)
                exact q_vret hx hb hr hlocks hW hS ⟨R_8, Q_8.2.1, (by rw [eF]; exact nw8.2.2.2.1), (by rw [eF]; exact nw8.2.2.2.2.1), (by rw [eF]; exact ok_8), (by rw [eF, eP, eR]; intro h0; exact ⟨h130_8, hpn_9, h131_8, hrc_8, (Q_8.1.1.2.2.2.2.2.2.1).trans (by rw [nw8.2.2.2.2.2]), hhd8 (by omega), mRS_E (hRS8 (by omega) h0) (r_G.rf (ac := ac_8)).E (fun _ _ => rfl) (by omega) (by omega) (by omega)⟩), rfl, rfl⟩ (Nat.le_of_ble_eq_true rfl) (Nat.le_of_ble_eq_true rfl) dX14_book_205
              · have e39 : ¬ s8.2.1 = 39 := of_decide_eq_false (b01_0 c_198)
                have eF : BKp K Wd et n0 = p_seter s8 1 s8.1 := by unfold BKp; rw [eR]; exact if_neg e39
                refine lv_aload_n hx hb dX14_book_201 rfl (lv_at hl 0 rfl) ?_
                refine q_cv (va_runV (As := []) (rest := []) ⟨hx, hb, hml, hown, hts⟩ (kX14_wrong l E (rO E f M R_8) n M R_8 K Wd T s8 tk_8 nd_8 cc_8 ac_8 rO_K T_8 hT hKT hK41 Q_8.1 ok_8) (cwV 0 hts gX14_book_X14_wrong rfl rfl rfl (by decide +kernel) ⟨(Nat.le_of_ble_eq_true rfl), (Nat.le_of_ble_eq_true rfl)⟩) (q_pV hA hW hS (ci := 12) rfl rO_0) rfl rfl hl.1 rfl (lv_room (Nat.le_of_ble_eq_true rfl)) dX14_book_202 ⟨Nat.le_of_ble_eq_true rfl, Nat.le_of_ble_eq_true rfl⟩) hS (fun f_202 n_202 H locs hp hW hS => ?_)
                obtain ⟨R_202, tk_202, nd_202, cc_202, ac_202, q_202, e7_202, e8_202, ec_202, ex_202, rfl, rfl⟩ := hp
                have G_202 : p_go K T s8 (p_step K false s8) := (go_step hKT (fun h9 => by cases h9))
                have GG_202 := G_202 ok_8
                have ok_202 := GG_202.1
                have le_202 := GG_202.2.2.2.1
                have er_202 := GG_202.2.2.2.2
                have Q_202 := Q_8.trans q_202
                have T_202 := Q_202.tok hTK
                have num_202 := Q_202.2.2
                unfold r_num at num_202
                have bt_202 := Q_202.1.1.2.1
                have bn_202 := Q_202.1.1.2.2.2.1
                have bc_202 := Q_202.1.1.2.2.2.2.2.1
                have ba_202 := Q_202.1.1.2.2.2.2.2.2.2
                have qn_202 := q_202.2.2
                unfold r_num at qn_202
                have h8_202 : (p_step K false s8).2.1 ≠ 40 → R_202 108 0 = nI (4 - 4) := fun z => (e8_202).trans (h8_8 (le_202 z))
                have w6_202 : R_202 6 = R_8 6 := (q_202.2.1.1 6 (by decide) (by decide) (by decide)).trans (rfl : R_8 6 = R_8 6)
                have w7_202 : R_202 7 = R_8 7 := (q_202.2.1.1 7 (by decide) (by decide) (by decide)).trans (rfl : R_8 7 = R_8 7)
                have w26_202 : R_202 26 = R_8 26 := (q_202.2.1.1 26 (by decide) (by decide) (by decide)).trans (rfl : R_8 26 = R_8 26)
                have w27_202 : R_202 27 = R_8 27 := (q_202.2.1.1 27 (by decide) (by decide) (by decide)).trans (rfl : R_8 27 = R_8 27)
                rw [rO_rO] at hW
                have hW : q_W E (rO E f M R_202) n H := hW
                exact q_vret hx hb hr hlocks hW hS ⟨R_202, Q_202.2.1, (by rw [eF]; exact (Q_202.1.w1 (by rw [ex_202]; decide)).2.2.1), (by rw [eF]; exact fun _ => (Q_202.1.w1 (by rw [ex_202]; decide)).2.2.2), (by have z := p_ok.fin ok_8; rw [show p_fin s8 = p_seter s8 1 s8.1 from if_neg e39] at z; rw [eF]; exact z), (by rw [eF]; intro h0; exact absurd (show (1 : Nat) = 0 from h0) (by decide)), rfl, rfl⟩ (Nat.le_of_ble_eq_true rfl) (Nat.le_of_ble_eq_true rfl) dX14_book_205
        exact K118 _ R_9 s9 400 tk_9 nd_9 cc_9 ac_9 0 (fun _ => 0) (fun _ => k_nil) Q_9 ok_9 k7_9 h8_9 h109_9 h130_9 h131_9 (Nat.zero_le _) (fun _ => Nat.le_add_right _ _) hnm9 (fun _ i hi => absurd hi (Nat.not_lt_zero _)) hhd9 (by unfold b_R; rw [eP]) (fun _ _ i hi => absurd hi (Nat.not_lt_zero _)) (Nat.lt_succ_self _) _ _ _ hW hS (lv_sub hl [0] rfl)
  exact K0 _ r u 400 tk nd cc ac 0 (fun _ => 0) (fun _ => 0) Y0 hok hv7 (fun _ => hv8) h109 h130 h131 (Nat.zero_le _) (fun _ => Nat.le_add_right _ _) (fun _ i hi => absurd hi (Nat.not_lt_zero _)) (fun _ i hi => absurd hi (Nat.not_lt_zero _)) (by rw [hu]; rfl) (Nat.lt_succ_self _) _ _ _ hW hS (lv_sub hl [0] rfl)
