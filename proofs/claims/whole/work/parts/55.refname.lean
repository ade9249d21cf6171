/-! names that are told -/
theorem r_P.nmu {r : q_R} {K : Nat → Nat} {T : Nat} {u : p_S} {tk nd cc ac : Nat} (h : r_P r K T u tk nd cc ac) {j : Nat} {g : Nat → Int32} (hj : ¬ (103 ≤ j ∧ j ≤ 106) ∧ ¬ (132 ≤ j ∧ j ≤ 134)) : r_P (rp r j g) K T u tk nd cc ac := by
  unfold r_P at h ⊢
  rw [rp_n (by omega), rp_n (by omega), rp_n (by omega), rp_n (by omega), rp_n (by omega), rp_n (by omega), rp_n (by omega)]
  exact h
theorem r_Q.nmu {r r1 : q_R} {K : Nat → Nat} {T : Nat} {u1 : p_S} {tk nd cc ac tk1 nd1 cc1 ac1 : Nat} (h : r_Q r r1 K T u1 tk nd cc ac tk1 nd1 cc1 ac1) {j : Nat} {g : Nat → Int32} (hj : j < 28) : r_Q (rp r j g) (rp r1 j g) K T u1 tk nd cc ac tk1 nd1 cc1 ac1 := by
  obtain ⟨hP, hG, hn⟩ := h
  refine ⟨hP.nmu (by omega), ⟨fun i a b c => ?_, fun i q a b c => ?_, fun i q a b c => ?_, fun i q a b c => ?_⟩, hn⟩
  · by_cases e : i = j
    · subst e; rw [rp_s, rp_s]
    · rw [rp_n e, rp_n e]; exact hG.1 i a b c
  · rw [rp_n (by omega), rp_n (by omega)]; exact hG.2.1 i q a b c
  · rw [rp_n (by omega), rp_n (by omega)]; exact hG.2.2.1 i q a b c
  · rw [rp_n (by omega), rp_n (by omega)]; exact hG.2.2.2 i q a b c
theorem ci_ci {e e' : Nat} {c : Bool} {s : p_S} (he : e ≠ 0) : p_ci c e' (p_ci true e s) = p_ci true e s := by
  have ne : ¬ (p_ci true e s).2.2.1 = 0 := by
    show ¬ (if true = true ∧ s.2.2.1 = 0 then e else s.2.2.1) = 0
    by_cases h : s.2.2.1 = 0
    · rw [if_pos ⟨rfl, h⟩]; exact he
    · rw [if_neg (fun h9 => h h9.2)]; exact h
  generalize p_ci true e s = w at ne
  unfold p_ci
  rw [if_neg (fun h9 => ne h9.2), if_neg (fun h9 => ne h9.2)]
theorem tak_T {pN rN : Nat → Int64} {pn rc : Nat} {w : Int64} (h : ¬ ix pN pn w = -1 ∨ ¬ ix rN rc w = -1) (hp : pn ≤ 8) (hr : rc ≤ 8) : p_tak pN pn rN rc w = true := by
  unfold p_tak
  rcases h with h | h
  · rw [decide_eq_false (fun h9 => h (ix_m1 hp h9))]; rfl
  · rw [decide_eq_false (fun h9 => h (ix_m1 hr h9))]; exact Bool.or_true _
theorem tak_F {pN rN : Nat → Int64} {pn rc : Nat} {w : Int64} (h : ix pN pn w = -1) (h2 : ix rN rc w = -1) : p_tak pN pn rN rc w = false := by
  unfold p_tak
  rw [h, h2]
  rfl

set_option maxHeartbeats 4000000 in
set_option maxRecDepth 100000 in
theorem kX14_newName_6 (l : Launch) (E : q_E) (f : q_H) (n : Nat) (M : Nat) (r : q_R) (K : Nat → Nat) (Wd : Nat → Int64) (T : Nat) (u : p_S) (tk nd cc ac : Nat) (pN : Nat → Int64) (pn : Nat) (rN : Nat → Int64) (rc : Nat)  (hm : RM E f M r) (hTK : r_T r K Wd T) (hT : T ≤ 400) (hKT : 39 ≤ K T) (hK41 : ∀ j, K j < 41) (hP : r_P r K T u tk nd cc ac) (hok : p_ok K T u) (hnm : u.2.1 ≠ 40 → r_nm r K Wd T 6 pn pN) (hnr : u.2.1 ≠ 40 → r_nm r K Wd T 7 rc rN) (hpn : pn ≤ 8) (hrc : rc ≤ 6) (hpn9 : r 130 0 = nI pn) (hrc9 : r 131 0 = nI rc) : Met l yX14_newName wsX14_newName ({ frames := 2, cells := 0, slots := 0, locals := 46 }) (q_P E [.ref M, .ref (M + 6), .int (nI pn), .int 8] f n) (q_Qv E (fun f1 n1 => ∃ (g : Nat → Int32) (r1 : q_R) (tk1 nd1 cc1 ac1 : Nat), r_Q (rp r 6 g) r1 K T (p_newn K Wd pN pn rN rc (decide (8 ≤ pn)) u) tk nd cc ac tk1 nd1 cc1 ac1 ∧ r1 107 0 = r 107 0 ∧ r1 108 0 = r 108 0 ∧ (cc1 = cc ∧ ac1 = ac) ∧ ((p_newn K Wd pN pn rN rc (decide (8 ≤ pn)) u).2.1 ≠ 40 → K u.1 = 37 ∧ u.1 = tk ∧ (pn < 8 → g = upd (r 6) pn (nI tk)) ∧ (¬ pn < 8 → g = r 6)) ∧ (∀ i, i < pn → g i = r 6 i) ∧ rO E f M r1 = f1 ∧ n = n1)) 0 0 (q_ge E) := by
  refine Met.ofW (cc := cX14_newName) (maxL := 4) (ret := none) (by decide) rfl ?_
  intro p e s m args below meth c s₁ B hml hv
  obtain ⟨rfl, hA, hW⟩ := hv
  have hx := B.exec
  have hb := B.bytes
  have hr := B.returns
  have hts := atoms_spec (ws := wsX14_newName) B.pre
  have hown : s.vm.findClass RX14 = some m.cls := findClass_of_methodNamed B.named
  have hlocks := B.notSynchronized
  have hS : va_S (q_ge E) s.heap s.heap [] := va_S.rf
  have iX13 : ∀ w ∈ wsX130, w ∈ wsX14_newName := by decide +kernel
  have iX14 : ∀ w ∈ wsX140, w ∈ wsX14_newName := by decide +kernel
  have hl := lv_entry ([.ref M, .ref (M + 6), .int (nI pn), .int 8]) (n := 4) (Nat.le_of_ble_eq_true rfl)
  rw [lg_entry_eq]
  generalize (lg_sl ([.ref M, .ref (M + 6), .int (nI pn), .int 8]) ++ List.replicate (4 - (lg_sl ([.ref M, .ref (M + 6), .int (nI pn), .int 8])).length) Slot.unset).toArray = ls at hl ⊢
  have hl : lv_has ls 4 [(0, .ref M), (1, .ref (M + 6)), (2, .int (nI pn)), (3, .int 8)] := hl
  have hmE := hm.eq
  rw [hm.eq] at hW
  have Q0 := r_Q.rf hP
  have htk := hP.1.2.1
  have hnd := hP.1.2.2.2.1
  have hcc := hP.1.2.2.2.2.2.1
  have hac := hP.1.2.2.2.2.2.2.2
  refine lv_aload_n hx hb dX14_newName_0 rfl (lv_at hl 0 rfl) ?_
  refine lv_bipush (v := 40) hx hb dX14_newName_1 (by decide) ?_
  refine q_ci (va_runV (As := [.int 40]) (rest := []) ⟨hx, hb, hml, hown, hts⟩ (kX14_is l E (rO E f M r) n M r K Wd T u tk nd cc ac 37 40 rO_K hTK hT hKT hK41 Q0.1 hok rfl (by decide)) (cwV 1 hts gX14_newName_X14_is rfl rfl rfl (by decide +kernel) ⟨(Nat.le_of_ble_eq_true rfl), (Nat.le_of_ble_eq_true rfl)⟩) (q_pV hA hW hS (ci := 12) rfl rO_0) rfl rfl hl.1 rfl (lv_room (Nat.le_of_ble_eq_true rfl)) dX14_newName_3 ⟨Nat.le_of_ble_eq_true rfl, Nat.le_of_ble_eq_true rfl⟩) hS (fun r_3 f_3 n_3 H locs hp hW hS => ?_)
  obtain ⟨rfl, rfl, rfl⟩ := hp
  have hW : q_W E (rO E f M r) n H := hW
  refine lv_if_eq (tgt := 57) hx hb dX14_newName_6 (by decide) (fun c_6 => ?_) (fun c_6 => ?_)
  · have eu : ¬ u.2.1 = 37 := of_decide_eq_false (b01_0 c_6)
    refine lv_aload_n hx hb dX14_newName_57 rfl (lv_at hl 0 rfl) ?_
    refine lv_bipush (v := 40) hx hb dX14_newName_58 (by decide) ?_
    refine q_ci (va_runV (As := [.int 40]) (rest := []) ⟨hx, hb, hml, hown, hts⟩ (kX14_is l E (rO E f M r) n M r K Wd T u tk nd cc ac 37 40 rO_K hTK hT hKT hK41 Q0.1 hok rfl (by decide)) (cwV 1 hts gX14_newName_X14_is rfl rfl rfl (by decide +kernel) ⟨(Nat.le_of_ble_eq_true rfl), (Nat.le_of_ble_eq_true rfl)⟩) (q_pV hA hW hS (ci := 12) rfl rO_0) rfl rfl hl.1 rfl (lv_room (Nat.le_of_ble_eq_true rfl)) dX14_newName_60 ⟨Nat.le_of_ble_eq_true rfl, Nat.le_of_ble_eq_true rfl⟩) hS (fun r_60 f_60 n_60 H locs hp hW hS => ?_)
    obtain ⟨rfl, rfl, rfl⟩ := hp
    have hW : q_W E (rO E f M r) n H := hW
    refine lv_if_eq (tgt := 76) hx hb dX14_newName_63 (by decide) (fun c_63 => ?_) (fun c_63 => False.elim ((fun h9 => h9 (b01_F (decide_eq_false (show ¬ u.2.1 = 37 from eu)))) c_63))
    refine lv_aload_n hx hb dX14_newName_76 rfl (lv_at hl 0 rfl) ?_
    refine lv_bipush (v := 40) hx hb dX14_newName_77 (by decide) ?_
    refine q_ci (va_runV (As := [.int 40]) (rest := []) ⟨hx, hb, hml, hown, hts⟩ (kX14_is l E (rO E f M r) n M r K Wd T u tk nd cc ac 37 40 rO_K hTK hT hKT hK41 Q0.1 hok rfl (by decide)) (cwV 1 hts gX14_newName_X14_is rfl rfl rfl (by decide +kernel) ⟨(Nat.le_of_ble_eq_true rfl), (Nat.le_of_ble_eq_true rfl)⟩) (q_pV hA hW hS (ci := 12) rfl rO_0) rfl rfl hl.1 rfl (lv_room (Nat.le_of_ble_eq_true rfl)) dX14_newName_79 ⟨Nat.le_of_ble_eq_true rfl, Nat.le_of_ble_eq_true rfl⟩) hS (fun r_79 f_79 n_79 H locs hp hW hS => ?_)
    obtain ⟨rfl, rfl, rfl⟩ := hp
    have hW : q_W E (rO E f M r) n H := hW
    refine lv_if_eq (tgt := 97) hx hb dX14_newName_82 (by decide) (fun c_82 => ?_) (fun c_82 => False.elim ((fun h9 => h9 (b01_F (decide_eq_false (show ¬ u.2.1 = 37 from eu)))) c_82))
    have eS : (if u.2.1 = 37 then (if p_tak pN pn rN rc (Wd u.1) = true then p_ci true 2 u else p_ci (decide (8 ≤ pn)) 4 u) else u) = u := if_neg eu
    obtain ⟨g9, hg9⟩ : ∃ z, z = r 6 := ⟨_, rfl⟩
    have T97 := hTK.up (j := 6) (g := g9) (by decide)
    have Q_97 : r_Q (rp r 6 g9) r K T u tk nd cc ac tk nd cc ac := by rw [hg9, rp_id]; exact Q0
    refine lv_aload_n hx hb dX14_newName_97 rfl (lv_at hl 0 rfl) ?_
    refine lv_bipush (v := 40) hx hb dX14_newName_98 (by decide) ?_
    refine q_cv (va_runV (As := [.int 40]) (rest := []) ⟨hx, hb, hml, hown, hts⟩ (kX14_take l E (rO E f M r) n M r K Wd T u tk nd cc ac 37 40 rO_K (Q_97.tok T97) hT hKT hK41 Q_97.1 hok rfl (by decide)) (cwV 1 hts gX14_newName_X14_take rfl rfl rfl (by decide +kernel) ⟨(Nat.le_of_ble_eq_true rfl), (Nat.le_of_ble_eq_true rfl)⟩) (q_pV hA hW hS (ci := 12) rfl rO_0) rfl rfl hl.1 rfl (lv_room (Nat.le_of_ble_eq_true rfl)) dX14_newName_100 ⟨Nat.le_of_ble_eq_true rfl, Nat.le_of_ble_eq_true rfl⟩) hS (fun f_100 n_100 H locs hp hW hS => ?_)
    obtain ⟨R_100, tk_100, nd_100, cc_100, ac_100, q_100, e7_100, e8_100, ec_100, ex_100, rfl, rfl⟩ := hp
    have G_100 : p_go K T u (p_take K 37 u) := (go_take hKT (by decide))
    have GG_100 := G_100 hok
    have ok_100 := GG_100.1
    have le_100 := GG_100.2.2.2.1
    have er_100 := GG_100.2.2.2.2
    have Q_100 := Q_97.trans q_100
    have T_100 := Q_100.tok T97
    have num_100 := Q_100.2.2
    unfold r_num at num_100
    have bt_100 := Q_100.1.1.2.1
    have bn_100 := Q_100.1.1.2.2.2.1
    have bc_100 := Q_100.1.1.2.2.2.2.2.1
    have ba_100 := Q_100.1.1.2.2.2.2.2.2.2
    have qn_100 := q_100.2.2
    unfold r_num at qn_100
    rw [rO_rO] at hW
    have hW : q_W E (rO E f M R_100) n H := hW
    exact q_vret hx hb hr hlocks hW hS ⟨g9, _, _, _, _, _, (by unfold p_newn; rw [eS]; exact Q_100), (e7_100.trans rfl), (e8_100.trans rfl), ⟨(ec_100.1.trans rfl), (ec_100.2.trans rfl)⟩, (fun h1 => absurd (show (p_take K 37 (if u.2.1 = 37 then _ else u)).2.1 = 40 from by rw [eS]; exact (step_bad (decide_eq_false eu)).2) h1), (fun i _ => by rw [hg9]), rfl, rfl⟩ (Nat.le_of_ble_eq_true rfl) (Nat.le_of_ble_eq_true rfl) dX14_newName_103
  · have eu : u.2.1 = 37 := of_decide_eq_true (b01_1 c_6)
    have hnw := hP.nw (by omega)
    have ek : K tk = 37 := by rw [hnw.2.1, ← hnw.2.2.1]; exact eu
    refine lv_aload_n hx hb dX14_newName_9 rfl (lv_at hl 0 rfl) ?_
    refine lv_aload_n hx hb dX14_newName_10 rfl (lv_at hl 0 rfl) ?_
    refine q_get hx hb hts hown hA hW iX14 rO_0 rfl 14 (by decide) (hts (.fieldLink RX14 29 "HighRecipesModel" "panName" "[I") (by decide +kernel)) (fun _ h9 => h9) (v := .ref (M + 6)) rfl dX14_newName_11 ?_
    refine lv_aload_n hx hb dX14_newName_14 rfl (lv_at hl 0 rfl) ?_
    refine q_get hx hb hts hown hA hW iX14 rO_0 rfl 18 (by decide) (hts (.fieldLink RX14 42 "HighRecipesModel" "fresh" "LHighRecipesModel$Book;") (by decide +kernel)) (fun _ h9 => h9) (v := .ref (M + 25)) rfl dX14_newName_15 ?_
    refine q_getN hx hb hts hown hA hW iX13 rO_25 rfl 0 (by decide) (va_Nw.use rfl (hA.2.2.2.1 ("HighRecipesModel", 150, "HighRecipesModel$Book", "pans", "I", "HighRecipesModel") (by decide +kernel))) (fun _ h9 => h9) (v := .int (nI pn)) (congrArg (fun z => some (Value.int z)) hpn9) dX14_newName_18 ?_
    refine q_ci (va_runV (As := [.ref (M + 6), .int (nI pn)]) (rest := []) ⟨hx, hb, hml, hown, hts⟩ (kX14_known_6 l E (rO E f M r) n M r K Wd T u tk nd cc ac pn pN rO_K hTK hT hKT hK41 Q0.1 hok (hnm (by omega)) hpn ek) (cwV 2 hts gX14_newName_X14_known rfl rfl rfl (by decide +kernel) ⟨(Nat.le_of_ble_eq_true rfl), (Nat.le_of_ble_eq_true rfl)⟩) (q_pV hA hW hS (ci := 12) rfl rO_0) rfl rfl hl.1 rfl (lv_room (Nat.le_of_ble_eq_true rfl)) dX14_newName_21 ⟨Nat.le_of_ble_eq_true rfl, Nat.le_of_ble_eq_true rfl⟩) hS (fun r_21 f_21 n_21 H locs hp hW hS => ?_)
    obtain ⟨rfl, rfl, rfl⟩ := hp
    have hW : q_W E (rO E f M r) n H := hW
    refine lv_iconst (v := (-1)) hx hb dX14_newName_24 (by decide) ?_
    refine lv_icmp_ne (tgt := 52) hx hb dX14_newName_25 (by decide) (fun c_25 => ?_) (fun c_25 => ?_)
    · refine lv_aload_n hx hb dX14_newName_52 rfl (lv_at hl 0 rfl) ?_
      refine lv_iconst (v := 2) hx hb dX14_newName_53 (by decide) ?_
      refine q_cv (va_runV (As := [.int 2]) (rest := []) ⟨hx, hb, hml, hown, hts⟩ (kX14_mark l E (rO E f M r) n M r K Wd T u tk nd cc ac 2 rO_K hTK hT hKT hK41 Q0.1 hok) (cwV 1 hts gX14_newName_X14_mark rfl rfl rfl (by decide +kernel) ⟨(Nat.le_of_ble_eq_true rfl), (Nat.le_of_ble_eq_true rfl)⟩) (q_pV hA hW hS (ci := 12) rfl rO_0) rfl rfl hl.1 rfl (lv_room (Nat.le_of_ble_eq_true rfl)) dX14_newName_54 ⟨Nat.le_of_ble_eq_true rfl, Nat.le_of_ble_eq_true rfl⟩) hS (fun f_54 n_54 H locs hp hW hS => ?_)
      obtain ⟨R_54, tk_54, nd_54, cc_54, ac_54, q_54, e7_54, e8_54, ec_54, ex_54, rfl, rfl⟩ := hp
      have G_54 : p_go K T u (p_ci true 2 u) := (go_ci (by decide) (by decide))
      have GG_54 := G_54 hok
      have ok_54 := GG_54.1
      have le_54 := GG_54.2.2.2.1
      have er_54 := GG_54.2.2.2.2
      have Q_54 := Q0.trans q_54
      have T_54 := Q_54.tok hTK
      have num_54 := Q_54.2.2
      unfold r_num at num_54
      have bt_54 := Q_54.1.1.2.1
      have bn_54 := Q_54.1.1.2.2.2.1
      have bc_54 := Q_54.1.1.2.2.2.2.2.1
      have ba_54 := Q_54.1.1.2.2.2.2.2.2.2
      have qn_54 := q_54.2.2
      unfold r_num at qn_54
      rw [rO_rO] at hW
      have hW : q_W E (rO E f M R_54) n H := hW
      refine lv_aload_n hx hb dX14_newName_57 rfl (lv_at hl 0 rfl) ?_
      refine lv_bipush (v := 40) hx hb dX14_newName_58 (by decide) ?_
      refine q_ci (va_runV (As := [.int 40]) (rest := []) ⟨hx, hb, hml, hown, hts⟩ (kX14_is l E (rO E f M R_54) n M R_54 K Wd T (p_ci true 2 u) tk_54 nd_54 cc_54 ac_54 37 40 rO_K T_54 hT hKT hK41 Q_54.1 ok_54 rfl (by decide)) (cwV 1 hts gX14_newName_X14_is rfl rfl rfl (by decide +kernel) ⟨(Nat.le_of_ble_eq_true rfl), (Nat.le_of_ble_eq_true rfl)⟩) (q_pV hA hW hS (ci := 12) rfl rO_0) rfl rfl hl.1 rfl (lv_room (Nat.le_of_ble_eq_true rfl)) dX14_newName_60 ⟨Nat.le_of_ble_eq_true rfl, Nat.le_of_ble_eq_true rfl⟩) hS (fun r_60 f_60 n_60 H locs hp hW hS => ?_)
      obtain ⟨rfl, rfl, rfl⟩ := hp
      have hW : q_W E (rO E f M R_54) n H := hW
      refine lv_if_eq (tgt := 76) hx hb dX14_newName_63 (by decide) (fun c_63 => False.elim ((fun h9 => absurd h9 (b01_T (decide_eq_true (show (p_ci true 2 u).2.1 = 37 from eu)))) c_63)) (fun c_63 => ?_)
      refine lv_iload_n hx hb dX14_newName_66 rfl (lv_at hl 2 rfl) ?_
      refine lv_iload_n hx hb dX14_newName_67 rfl (lv_at hl 3 rfl) ?_
      refine lv_icmp_ne (tgt := 76) hx hb dX14_newName_68 (by decide) (fun c_68 => ?_) (fun c_68 => ?_)
      · have em : ¬ 8 ≤ pn := fun h9 => c_68 (by rw [show pn = 8 by omega]; rfl)
        refine lv_aload_n hx hb dX14_newName_76 rfl (lv_at hl 0 rfl) ?_
        refine lv_bipush (v := 40) hx hb dX14_newName_77 (by decide) ?_
        refine q_ci (va_runV (As := [.int 40]) (rest := []) ⟨hx, hb, hml, hown, hts⟩ (kX14_is l E (rO E f M R_54) n M R_54 K Wd T (p_ci true 2 u) tk_54 nd_54 cc_54 ac_54 37 40 rO_K T_54 hT hKT hK41 Q_54.1 ok_54 rfl (by decide)) (cwV 1 hts gX14_newName_X14_is rfl rfl rfl (by decide +kernel) ⟨(Nat.le_of_ble_eq_true rfl), (Nat.le_of_ble_eq_true rfl)⟩) (q_pV hA hW hS (ci := 12) rfl rO_0) rfl rfl hl.1 rfl (lv_room (Nat.le_of_ble_eq_true rfl)) dX14_newName_79 ⟨Nat.le_of_ble_eq_true rfl, Nat.le_of_ble_eq_true rfl⟩) hS (fun r_79 f_79 n_79 H locs hp hW hS => ?_)
        obtain ⟨rfl, rfl, rfl⟩ := hp
        have hW : q_W E (rO E f M R_54) n H := hW
        refine lv_if_eq (tgt := 97) hx hb dX14_newName_82 (by decide) (fun c_82 => False.elim ((fun h9 => absurd h9 (b01_T (decide_eq_true (show (p_ci true 2 u).2.1 = 37 from eu)))) c_82)) (fun c_82 => ?_)
        refine lv_iload_n hx hb dX14_newName_85 rfl (lv_at hl 2 rfl) ?_
        refine lv_iload_n hx hb dX14_newName_86 rfl (lv_at hl 3 rfl) ?_
        refine lv_icmp_ge (tgt := 97) hx hb dX14_newName_87 (by decide) (fun c_87 => False.elim ((fun h9 => absurd ((nI_leI (by decide) (by omega)).1 (show nI 8 ≤ nI pn from h9)) em) c_87)) (fun c_87 => ?_)
        refine lv_aload_n hx hb dX14_newName_90 rfl (lv_at hl 1 rfl) ?_
        refine lv_iload_n hx hb dX14_newName_91 rfl (lv_at hl 2 rfl) ?_
        refine lv_aload_n hx hb dX14_newName_92 rfl (lv_at hl 0 rfl) ?_
        refine q_get hx hb hts hown hA hW iX14 rO_0 rfl 8 (by decide) (hts (.fieldLink RX14 120 "HighRecipesModel" "token" "I") (by decide +kernel)) (fun _ h9 => h9) (v := .int (nI tk_54)) (congrArg (fun z => some (Value.int z)) Q_54.1.1.1) dX14_newName_93 ?_
        refine q_ast hx hb hA hW hS (rO_6 (g := R_54 6) rfl) pn rfl (by omega) (by decide) dX14_newName_96 (fun H locs hW hS => ?_)
        have hW := q_sa 6 hW rfl rfl
        have eS : (if u.2.1 = 37 then (if p_tak pN pn rN rc (Wd u.1) = true then p_ci true 2 u else p_ci (decide (8 ≤ pn)) 4 u) else u) = (p_ci true 2 u) := (if_pos eu).trans (if_pos (by rw [← hnw.2.1]; exact tak_T (Or.inl c_25) (by omega) (by omega)))
        have EQ9 : upd (R_54 6) pn (nI tk_54) = upd (r 6) pn (nI tk) := by rw [Q_54.2.1.1 6 (by decide) (by decide) (by decide), (Q_54.1.nw (show u.2.1 ≠ 40 by omega)).2.1, hnw.2.1]; rfl
        obtain ⟨g9, hg9⟩ : ∃ z, z = upd (R_54 6) pn (nI tk_54) := ⟨_, rfl⟩
        have Q_97 := Q_54.nmu (j := 6) (g := g9) (by decide)
        have T97 := hTK.up (j := 6) (g := g9) (by decide)
        rw [← hg9] at hW
        obtain ⟨R_97b, hR_97b⟩ : ∃ z, z = rp R_54 6 g9 := ⟨_, rfl⟩
        rw [← hR_97b] at hW
        have Q_97b : r_Q (rp r 6 g9) R_97b K T (p_ci true 2 u) tk nd cc ac tk_54 nd_54 cc_54 ac_54 := by rw [hR_97b]; exact Q_97
        have T_97b := Q_97b.tok T97
        have num_97b := Q_97b.2.2
        unfold r_num at num_97b
        have bt_97b := Q_97b.1.1.2.1
        have bn_97b := Q_97b.1.1.2.2.2.1
        have bc_97b := Q_97b.1.1.2.2.2.2.2.1
        have ba_97b := Q_97b.1.1.2.2.2.2.2.2.2
        refine lv_aload_n hx hb dX14_newName_97 rfl (lv_at hl 0 rfl) ?_
        refine lv_bipush (v := 40) hx hb dX14_newName_98 (by decide) ?_
        refine q_cv (va_runV (As := [.int 40]) (rest := []) ⟨hx, hb, hml, hown, hts⟩ (kX14_take l E (rO E f M R_97b) n M R_97b K Wd T (p_ci true 2 u) tk_54 nd_54 cc_54 ac_54 37 40 rO_K T_97b hT hKT hK41 Q_97b.1 ok_54 rfl (by decide)) (cwV 1 hts gX14_newName_X14_take rfl rfl rfl (by decide +kernel) ⟨(Nat.le_of_ble_eq_true rfl), (Nat.le_of_ble_eq_true rfl)⟩) (q_pV hA hW hS (ci := 12) rfl rO_0) rfl rfl hl.1 rfl (lv_room (Nat.le_of_ble_eq_true rfl)) dX14_newName_100 ⟨Nat.le_of_ble_eq_true rfl, Nat.le_of_ble_eq_true rfl⟩) hS (fun f_100 n_100 H locs hp hW hS => ?_)
        obtain ⟨R_100, tk_100, nd_100, cc_100, ac_100, q_100, e7_100, e8_100, ec_100, ex_100, rfl, rfl⟩ := hp
        have G_100 : p_go K T (p_ci true 2 u) (p_take K 37 (p_ci true 2 u)) := (go_take hKT (by decide))
        have GG_100 := G_100 ok_54
        have ok_100 := GG_100.1
        have le_100 := GG_100.2.2.2.1
        have er_100 := GG_100.2.2.2.2
        have Q_100 := Q_97b.trans q_100
        have T_100 := Q_100.tok T97
        have num_100 := Q_100.2.2
        unfold r_num at num_100
        have bt_100 := Q_100.1.1.2.1
        have bn_100 := Q_100.1.1.2.2.2.1
        have bc_100 := Q_100.1.1.2.2.2.2.2.1
        have ba_100 := Q_100.1.1.2.2.2.2.2.2.2
        have qn_100 := q_100.2.2
        unfold r_num at qn_100
        rw [rO_rO] at hW
        have hW : q_W E (rO E f M R_100) n H := hW
        exact q_vret hx hb hr hlocks hW hS ⟨g9, _, _, _, _, _, (by unfold p_newn; rw [eS]; exact Q_100), (e7_100.trans (show R_97b 107 0 = r 107 0 from by rw [hR_97b]; exact (e7_54.trans rfl))), (e8_100.trans (show R_97b 108 0 = r 108 0 from by rw [hR_97b]; exact (e8_54.trans rfl))), ⟨(ec_100.1.trans (ec_54.1.trans rfl)), (ec_100.2.trans (ec_54.2.trans rfl))⟩, (fun h1 => ⟨by rw [← hnw.2.1]; exact ek, hnw.2.1.symm, fun _ => hg9.trans EQ9, fun h9 => absurd (by omega) h9⟩), (fun i hi => by rw [hg9, EQ9]; exact z_un (by omega)), rfl, rfl⟩ (Nat.le_of_ble_eq_true rfl) (Nat.le_of_ble_eq_true rfl) dX14_newName_103
      · have em : 8 ≤ pn := Nat.le_of_eq ((nI_eq (by omega) (by decide)).1 c_68).symm
        refine lv_aload_n hx hb dX14_newName_71 rfl (lv_at hl 0 rfl) ?_
        refine lv_iconst (v := 4) hx hb dX14_newName_72 (by decide) ?_
        refine q_cv (va_runV (As := [.int 4]) (rest := []) ⟨hx, hb, hml, hown, hts⟩ (kX14_mark l E (rO E f M R_54) n M R_54 K Wd T (p_ci true 2 u) tk_54 nd_54 cc_54 ac_54 4 rO_K T_54 hT hKT hK41 Q_54.1 ok_54) (cwV 1 hts gX14_newName_X14_mark rfl rfl rfl (by decide +kernel) ⟨(Nat.le_of_ble_eq_true rfl), (Nat.le_of_ble_eq_true rfl)⟩) (q_pV hA hW hS (ci := 12) rfl rO_0) rfl rfl hl.1 rfl (lv_room (Nat.le_of_ble_eq_true rfl)) dX14_newName_73 ⟨Nat.le_of_ble_eq_true rfl, Nat.le_of_ble_eq_true rfl⟩) hS (fun f_73 n_73 H locs hp hW hS => ?_)
        obtain ⟨R_73, tk_73, nd_73, cc_73, ac_73, q_73, e7_73, e8_73, ec_73, ex_73, rfl, rfl⟩ := hp
        have G_73 : p_go K T (p_ci true 2 u) (p_ci true 4 (p_ci true 2 u)) := (go_ci (by decide) (by decide))
        have GG_73 := G_73 ok_54
        have ok_73 := GG_73.1
        have le_73 := GG_73.2.2.2.1
        have er_73 := GG_73.2.2.2.2
        have Q_73 := Q_54.trans q_73
        have T_73 := Q_73.tok hTK
        have num_73 := Q_73.2.2
        unfold r_num at num_73
        have bt_73 := Q_73.1.1.2.1
        have bn_73 := Q_73.1.1.2.2.2.1
        have bc_73 := Q_73.1.1.2.2.2.2.2.1
        have ba_73 := Q_73.1.1.2.2.2.2.2.2.2
        have qn_73 := q_73.2.2
        unfold r_num at qn_73
        rw [rO_rO] at hW
        have hW : q_W E (rO E f M R_73) n H := hW
        refine lv_aload_n hx hb dX14_newName_76 rfl (lv_at hl 0 rfl) ?_
        refine lv_bipush (v := 40) hx hb dX14_newName_77 (by decide) ?_
        refine q_ci (va_runV (As := [.int 40]) (rest := []) ⟨hx, hb, hml, hown, hts⟩ (kX14_is l E (rO E f M R_73) n M R_73 K Wd T (p_ci true 4 (p_ci true 2 u)) tk_73 nd_73 cc_73 ac_73 37 40 rO_K T_73 hT hKT hK41 Q_73.1 ok_73 rfl (by decide)) (cwV 1 hts gX14_newName_X14_is rfl rfl rfl (by decide +kernel) ⟨(Nat.le_of_ble_eq_true rfl), (Nat.le_of_ble_eq_true rfl)⟩) (q_pV hA hW hS (ci := 12) rfl rO_0) rfl rfl hl.1 rfl (lv_room (Nat.le_of_ble_eq_true rfl)) dX14_newName_79 ⟨Nat.le_of_ble_eq_true rfl, Nat.le_of_ble_eq_true rfl⟩) hS (fun r_79 f_79 n_79 H locs hp hW hS => ?_)
        obtain ⟨rfl, rfl, rfl⟩ := hp
        have hW : q_W E (rO E f M R_73) n H := hW
        refine lv_if_eq (tgt := 97) hx hb dX14_newName_82 (by decide) (fun c_82 => False.elim ((fun h9 => absurd h9 (b01_T (decide_eq_true (show (p_ci true 4 (p_ci true 2 u)).2.1 = 37 from eu)))) c_82)) (fun c_82 => ?_)
        refine lv_iload_n hx hb dX14_newName_85 rfl (lv_at hl 2 rfl) ?_
        refine lv_iload_n hx hb dX14_newName_86 rfl (lv_at hl 3 rfl) ?_
        refine lv_icmp_ge (tgt := 97) hx hb dX14_newName_87 (by decide) (fun c_87 => ?_) (fun c_87 => False.elim ((fun h9 => h9 (show nI 8 ≤ nI pn from (nI_leI (by decide) (by omega)).2 em)) c_87))
        have eS : (if u.2.1 = 37 then (if p_tak pN pn rN rc (Wd u.1) = true then p_ci true 2 u else p_ci (decide (8 ≤ pn)) 4 u) else u) = (p_ci true 2 u) := (if_pos eu).trans (if_pos (by rw [← hnw.2.1]; exact tak_T (Or.inl c_25) (by omega) (by omega)))
        obtain ⟨g9, hg9⟩ : ∃ z, z = r 6 := ⟨_, rfl⟩
        have T97 := hTK.up (j := 6) (g := g9) (by decide)
        have Q_97 : r_Q (rp r 6 g9) R_73 K T (p_ci true 4 (p_ci true 2 u)) tk nd cc ac tk_73 nd_73 cc_73 ac_73 := by rw [hg9, rp_id]; exact Q_73
        have ecc9 : p_ci true 4 (p_ci true 2 u) = p_ci true 2 u := ci_ci (by decide)
        rw [ecc9] at Q_97
        rw [ecc9] at ok_73
        refine lv_aload_n hx hb dX14_newName_97 rfl (lv_at hl 0 rfl) ?_
        refine lv_bipush (v := 40) hx hb dX14_newName_98 (by decide) ?_
        refine q_cv (va_runV (As := [.int 40]) (rest := []) ⟨hx, hb, hml, hown, hts⟩ (kX14_take l E (rO E f M R_73) n M R_73 K Wd T (p_ci true 2 u) tk_73 nd_73 cc_73 ac_73 37 40 rO_K (Q_97.tok T97) hT hKT hK41 Q_97.1 ok_73 rfl (by decide)) (cwV 1 hts gX14_newName_X14_take rfl rfl rfl (by decide +kernel) ⟨(Nat.le_of_ble_eq_true rfl), (Nat.le_of_ble_eq_true rfl)⟩) (q_pV hA hW hS (ci := 12) rfl rO_0) rfl rfl hl.1 rfl (lv_room (Nat.le_of_ble_eq_true rfl)) dX14_newName_100 ⟨Nat.le_of_ble_eq_true rfl, Nat.le_of_ble_eq_true rfl⟩) hS (fun f_100 n_100 H locs hp hW hS => ?_)
        obtain ⟨R_100, tk_100, nd_100, cc_100, ac_100, q_100, e7_100, e8_100, ec_100, ex_100, rfl, rfl⟩ := hp
        have G_100 : p_go K T (p_ci true 2 u) (p_take K 37 (p_ci true 2 u)) := (go_take hKT (by decide))
        have GG_100 := G_100 ok_73
        have ok_100 := GG_100.1
        have le_100 := GG_100.2.2.2.1
        have er_100 := GG_100.2.2.2.2
        have Q_100 := Q_97.trans q_100
        have T_100 := Q_100.tok T97
        have num_100 := Q_100.2.2
        unfold r_num at num_100
        have bt_100 := Q_100.1.1.2.1
        have bn_100 := Q_100.1.1.2.2.2.1
        have bc_100 := Q_100.1.1.2.2.2.2.2.1
        have ba_100 := Q_100.1.1.2.2.2.2.2.2.2
        have qn_100 := q_100.2.2
        unfold r_num at qn_100
        rw [rO_rO] at hW
        have hW : q_W E (rO E f M R_100) n H := hW
        exact q_vret hx hb hr hlocks hW hS ⟨g9, _, _, _, _, _, (by unfold p_newn; rw [eS]; exact Q_100), (e7_100.trans (e7_73.trans (e7_54.trans rfl))), (e8_100.trans (e8_73.trans (e8_54.trans rfl))), ⟨(ec_100.1.trans (ec_73.1.trans (ec_54.1.trans rfl))), (ec_100.2.trans (ec_73.2.trans (ec_54.2.trans rfl)))⟩, (fun h1 => ⟨by rw [← hnw.2.1]; exact ek, hnw.2.1.symm, fun h9 => absurd h9 (by omega), fun _ => hg9⟩), (fun i _ => by rw [hg9]), rfl, rfl⟩ (Nat.le_of_ble_eq_true rfl) (Nat.le_of_ble_eq_true rfl) dX14_newName_103
    · refine lv_aload_n hx hb dX14_newName_28 rfl (lv_at hl 0 rfl) ?_
      refine lv_aload_n hx hb dX14_newName_29 rfl (lv_at hl 0 rfl) ?_
      refine q_get hx hb hts hown hA hW iX14 rO_0 rfl 15 (by decide) (hts (.fieldLink RX14 32 "HighRecipesModel" "recipeName" "[I") (by decide +kernel)) (fun _ h9 => h9) (v := .ref (M + 7)) rfl dX14_newName_30 ?_
      refine lv_bipush (v := 6) hx hb dX14_newName_33 (by decide) ?_
      refine lv_aload_n hx hb dX14_newName_35 rfl (lv_at hl 0 rfl) ?_
      refine q_get hx hb hts hown hA hW iX14 rO_0 rfl 18 (by decide) (hts (.fieldLink RX14 42 "HighRecipesModel" "fresh" "LHighRecipesModel$Book;") (by decide +kernel)) (fun _ h9 => h9) (v := .ref (M + 25)) rfl dX14_newName_36 ?_
      refine q_getN hx hb hts hown hA hW iX13 rO_25 rfl 2 (by decide) (va_Nw.use rfl (hA.2.2.2.1 ("HighRecipesModel", 156, "HighRecipesModel$Book", "recipes", "I", "HighRecipesModel") (by decide +kernel))) (fun _ h9 => h9) (v := .int (nI rc)) (congrArg (fun z => some (Value.int z)) hrc9) dX14_newName_39 ?_
      refine va_mmin hx hb (hml.trans hl.1.symm) hown (hts (.methodLink RX14 57 Lib.Math.min.name) (by decide +kernel)) (hts (.static Lib.Math.min.name) (by decide +kernel)) (hts (.initialized "java/lang/Math") (by decide +kernel)) (hts (.code Lib.Math.min.name Lib.Math.min.code 2 (some .int)) (by decide +kernel)) (Nat.le_of_ble_eq_true rfl) (Nat.le_of_ble_eq_true rfl) (Nat.le_of_ble_eq_true rfl) (Nat.le_of_ble_eq_true rfl) dX14_newName_42 ?_
      rw [show (if nI rc < 6 then nI rc else 6) = nI rc from (q_min_n (a := 6) (b := rc) (by decide) (by omega)).trans (by rw [Nat.min_eq_right hrc])]
      refine q_ci (va_runV (As := [.ref (M + 7), .int (nI rc)]) (rest := []) ⟨hx, hb, hml, hown, hts⟩ (kX14_known_7 l E (rO E f M r) n M r K Wd T u tk nd cc ac rc rN rO_K hTK hT hKT hK41 Q0.1 hok (hnr (by omega)) hrc ek) (cwV 2 hts gX14_newName_X14_known rfl rfl rfl (by decide +kernel) ⟨(Nat.le_of_ble_eq_true rfl), (Nat.le_of_ble_eq_true rfl)⟩) (q_pV hA hW hS (ci := 12) rfl rO_0) rfl rfl hl.1 rfl (lv_room (Nat.le_of_ble_eq_true rfl)) dX14_newName_45 ⟨Nat.le_of_ble_eq_true rfl, Nat.le_of_ble_eq_true rfl⟩) hS (fun r_45 f_45 n_45 H locs hp hW hS => ?_)
      obtain ⟨rfl, rfl, rfl⟩ := hp
      have hW : q_W E (rO E f M r) n H := hW
      refine lv_iconst (v := (-1)) hx hb dX14_newName_48 (by decide) ?_
      refine lv_icmp_eq (tgt := 57) hx hb dX14_newName_49 (by decide) (fun c_49 => ?_) (fun c_49 => ?_)
      · refine lv_aload_n hx hb dX14_newName_57 rfl (lv_at hl 0 rfl) ?_
        refine lv_bipush (v := 40) hx hb dX14_newName_58 (by decide) ?_
        refine q_ci (va_runV (As := [.int 40]) (rest := []) ⟨hx, hb, hml, hown, hts⟩ (kX14_is l E (rO E f M r) n M r K Wd T u tk nd cc ac 37 40 rO_K hTK hT hKT hK41 Q0.1 hok rfl (by decide)) (cwV 1 hts gX14_newName_X14_is rfl rfl rfl (by decide +kernel) ⟨(Nat.le_of_ble_eq_true rfl), (Nat.le_of_ble_eq_true rfl)⟩) (q_pV hA hW hS (ci := 12) rfl rO_0) rfl rfl hl.1 rfl (lv_room (Nat.le_of_ble_eq_true rfl)) dX14_newName_60 ⟨Nat.le_of_ble_eq_true rfl, Nat.le_of_ble_eq_true rfl⟩) hS (fun r_60 f_60 n_60 H locs hp hW hS => ?_)
        obtain ⟨rfl, rfl, rfl⟩ := hp
        have hW : q_W E (rO E f M r) n H := hW
        refine lv_if_eq (tgt := 76) hx hb dX14_newName_63 (by decide) (fun c_63 => False.elim ((fun h9 => absurd h9 (b01_T (decide_eq_true (show u.2.1 = 37 from eu)))) c_63)) (fun c_63 => ?_)
        refine lv_iload_n hx hb dX14_newName_66 rfl (lv_at hl 2 rfl) ?_
        refine lv_iload_n hx hb dX14_newName_67 rfl (lv_at hl 3 rfl) ?_
        refine lv_icmp_ne (tgt := 76) hx hb dX14_newName_68 (by decide) (fun c_68 => ?_) (fun c_68 => ?_)
        · have em : ¬ 8 ≤ pn := fun h9 => c_68 (by rw [show pn = 8 by omega]; rfl)
          refine lv_aload_n hx hb dX14_newName_76 rfl (lv_at hl 0 rfl) ?_
          refine lv_bipush (v := 40) hx hb dX14_newName_77 (by decide) ?_
          refine q_ci (va_runV (As := [.int 40]) (rest := []) ⟨hx, hb, hml, hown, hts⟩ (kX14_is l E (rO E f M r) n M r K Wd T u tk nd cc ac 37 40 rO_K hTK hT hKT hK41 Q0.1 hok rfl (by decide)) (cwV 1 hts gX14_newName_X14_is rfl rfl rfl (by decide +kernel) ⟨(Nat.le_of_ble_eq_true rfl), (Nat.le_of_ble_eq_true rfl)⟩) (q_pV hA hW hS (ci := 12) rfl rO_0) rfl rfl hl.1 rfl (lv_room (Nat.le_of_ble_eq_true rfl)) dX14_newName_79 ⟨Nat.le_of_ble_eq_true rfl, Nat.le_of_ble_eq_true rfl⟩) hS (fun r_79 f_79 n_79 H locs hp hW hS => ?_)
          obtain ⟨rfl, rfl, rfl⟩ := hp
          have hW : q_W E (rO E f M r) n H := hW
          refine lv_if_eq (tgt := 97) hx hb dX14_newName_82 (by decide) (fun c_82 => False.elim ((fun h9 => absurd h9 (b01_T (decide_eq_true (show u.2.1 = 37 from eu)))) c_82)) (fun c_82 => ?_)
          refine lv_iload_n hx hb dX14_newName_85 rfl (lv_at hl 2 rfl) ?_
          refine lv_iload_n hx hb dX14_newName_86 rfl (lv_at hl 3 rfl) ?_
          refine lv_icmp_ge (tgt := 97) hx hb dX14_newName_87 (by decide) (fun c_87 => False.elim ((fun h9 => absurd ((nI_leI (by decide) (by omega)).1 (show nI 8 ≤ nI pn from h9)) em) c_87)) (fun c_87 => ?_)
          refine lv_aload_n hx hb dX14_newName_90 rfl (lv_at hl 1 rfl) ?_
          refine lv_iload_n hx hb dX14_newName_91 rfl (lv_at hl 2 rfl) ?_
          refine lv_aload_n hx hb dX14_newName_92 rfl (lv_at hl 0 rfl) ?_
          refine q_get hx hb hts hown hA hW iX14 rO_0 rfl 8 (by decide) (hts (.fieldLink RX14 120 "HighRecipesModel" "token" "I") (by decide +kernel)) (fun _ h9 => h9) (v := .int (nI tk)) (congrArg (fun z => some (Value.int z)) hP.1.1) dX14_newName_93 ?_
          refine q_ast hx hb hA hW hS (rO_6 (g := r 6) rfl) pn rfl (by omega) (by decide) dX14_newName_96 (fun H locs hW hS => ?_)
          have hW := q_sa 6 hW rfl rfl
          have eS : (if u.2.1 = 37 then (if p_tak pN pn rN rc (Wd u.1) = true then p_ci true 2 u else p_ci (decide (8 ≤ pn)) 4 u) else u) = u := (if_pos eu).trans ((if_neg (by rw [← hnw.2.1, tak_F c_25 c_49]; decide)).trans (by rw [decide_eq_false em]; rfl))
          have EQ9 : upd (r 6) pn (nI tk) = upd (r 6) pn (nI tk) := rfl
          obtain ⟨g9, hg9⟩ : ∃ z, z = upd (r 6) pn (nI tk) := ⟨_, rfl⟩
          have Q_97 := Q0.nmu (j := 6) (g := g9) (by decide)
          have T97 := hTK.up (j := 6) (g := g9) (by decide)
          rw [← hg9] at hW
          obtain ⟨R_97b, hR_97b⟩ : ∃ z, z = rp r 6 g9 := ⟨_, rfl⟩
          rw [← hR_97b] at hW
          have Q_97b : r_Q (rp r 6 g9) R_97b K T u tk nd cc ac tk nd cc ac := by rw [hR_97b]; exact Q_97
          have T_97b := Q_97b.tok T97
          have num_97b := Q_97b.2.2
          unfold r_num at num_97b
          have bt_97b := Q_97b.1.1.2.1
          have bn_97b := Q_97b.1.1.2.2.2.1
          have bc_97b := Q_97b.1.1.2.2.2.2.2.1
          have ba_97b := Q_97b.1.1.2.2.2.2.2.2.2
          refine lv_aload_n hx hb dX14_newName_97 rfl (lv_at hl 0 rfl) ?_
          refine lv_bipush (v := 40) hx hb dX14_newName_98 (by decide) ?_
          refine q_cv (va_runV (As := [.int 40]) (rest := []) ⟨hx, hb, hml, hown, hts⟩ (kX14_take l E (rO E f M R_97b) n M R_97b K Wd T u tk nd cc ac 37 40 rO_K T_97b hT hKT hK41 Q_97b.1 hok rfl (by decide)) (cwV 1 hts gX14_newName_X14_take rfl rfl rfl (by decide +kernel) ⟨(Nat.le_of_ble_eq_true rfl), (Nat.le_of_ble_eq_true rfl)⟩) (q_pV hA hW hS (ci := 12) rfl rO_0) rfl rfl hl.1 rfl (lv_room (Nat.le_of_ble_eq_true rfl)) dX14_newName_100 ⟨Nat.le_of_ble_eq_true rfl, Nat.le_of_ble_eq_true rfl⟩) hS (fun f_100 n_100 H locs hp hW hS => ?_)
          obtain ⟨R_100, tk_100, nd_100, cc_100, ac_100, q_100, e7_100, e8_100, ec_100, ex_100, rfl, rfl⟩ := hp
          have G_100 : p_go K T u (p_take K 37 u) := (go_take hKT (by decide))
          have GG_100 := G_100 hok
          have ok_100 := GG_100.1
          have le_100 := GG_100.2.2.2.1
          have er_100 := GG_100.2.2.2.2
          have Q_100 := Q_97b.trans q_100
          have T_100 := Q_100.tok T97
          have num_100 := Q_100.2.2
          unfold r_num at num_100
          have bt_100 := Q_100.1.1.2.1
          have bn_100 := Q_100.1.1.2.2.2.1
          have bc_100 := Q_100.1.1.2.2.2.2.2.1
          have ba_100 := Q_100.1.1.2.2.2.2.2.2.2
          have qn_100 := q_100.2.2
          unfold r_num at qn_100
          rw [rO_rO] at hW
          have hW : q_W E (rO E f M R_100) n H := hW
          exact q_vret hx hb hr hlocks hW hS ⟨g9, _, _, _, _, _, (by unfold p_newn; rw [eS]; exact Q_100), (e7_100.trans (show R_97b 107 0 = r 107 0 from by rw [hR_97b]; exact rfl)), (e8_100.trans (show R_97b 108 0 = r 108 0 from by rw [hR_97b]; exact rfl)), ⟨(ec_100.1.trans rfl), (ec_100.2.trans rfl)⟩, (fun h1 => ⟨by rw [← hnw.2.1]; exact ek, hnw.2.1.symm, fun _ => hg9.trans EQ9, fun h9 => absurd (by omega) h9⟩), (fun i hi => by rw [hg9, EQ9]; exact z_un (by omega)), rfl, rfl⟩ (Nat.le_of_ble_eq_true rfl) (Nat.le_of_ble_eq_true rfl) dX14_newName_103
        · have em : 8 ≤ pn := Nat.le_of_eq ((nI_eq (by omega) (by decide)).1 c_68).symm
          refine lv_aload_n hx hb dX14_newName_71 rfl (lv_at hl 0 rfl) ?_
          refine lv_iconst (v := 4) hx hb dX14_newName_72 (by decide) ?_
          refine q_cv (va_runV (As := [.int 4]) (rest := []) ⟨hx, hb, hml, hown, hts⟩ (kX14_mark l E (rO E f M r) n M r K Wd T u tk nd cc ac 4 rO_K hTK hT hKT hK41 Q0.1 hok) (cwV 1 hts gX14_newName_X14_mark rfl rfl rfl (by decide +kernel) ⟨(Nat.le_of_ble_eq_true rfl), (Nat.le_of_ble_eq_true rfl)⟩) (q_pV hA hW hS (ci := 12) rfl rO_0) rfl rfl hl.1 rfl (lv_room (Nat.le_of_ble_eq_true rfl)) dX14_newName_73 ⟨Nat.le_of_ble_eq_true rfl, Nat.le_of_ble_eq_true rfl⟩) hS (fun f_73 n_73 H locs hp hW hS => ?_)
          obtain ⟨R_73, tk_73, nd_73, cc_73, ac_73, q_73, e7_73, e8_73, ec_73, ex_73, rfl, rfl⟩ := hp
          have G_73 : p_go K T u (p_ci true 4 u) := (go_ci (by decide) (by decide))
          have GG_73 := G_73 hok
          have ok_73 := GG_73.1
          have le_73 := GG_73.2.2.2.1
          have er_73 := GG_73.2.2.2.2
          have Q_73 := Q0.trans q_73
          have T_73 := Q_73.tok hTK
          have num_73 := Q_73.2.2
          unfold r_num at num_73
          have bt_73 := Q_73.1.1.2.1
          have bn_73 := Q_73.1.1.2.2.2.1
          have bc_73 := Q_73.1.1.2.2.2.2.2.1
          have ba_73 := Q_73.1.1.2.2.2.2.2.2.2
          have qn_73 := q_73.2.2
          unfold r_num at qn_73
          rw [rO_rO] at hW
          have hW : q_W E (rO E f M R_73) n H := hW
          refine lv_aload_n hx hb dX14_newName_76 rfl (lv_at hl 0 rfl) ?_
          refine lv_bipush (v := 40) hx hb dX14_newName_77 (by decide) ?_
          refine q_ci (va_runV (As := [.int 40]) (rest := []) ⟨hx, hb, hml, hown, hts⟩ (kX14_is l E (rO E f M R_73) n M R_73 K Wd T (p_ci true 4 u) tk_73 nd_73 cc_73 ac_73 37 40 rO_K T_73 hT hKT hK41 Q_73.1 ok_73 rfl (by decide)) (cwV 1 hts gX14_newName_X14_is rfl rfl rfl (by decide +kernel) ⟨(Nat.le_of_ble_eq_true rfl), (Nat.le_of_ble_eq_true rfl)⟩) (q_pV hA hW hS (ci := 12) rfl rO_0) rfl rfl hl.1 rfl (lv_room (Nat.le_of_ble_eq_true rfl)) dX14_newName_79 ⟨Nat.le_of_ble_eq_true rfl, Nat.le_of_ble_eq_true rfl⟩) hS (fun r_79 f_79 n_79 H locs hp hW hS => ?_)
          obtain ⟨rfl, rfl, rfl⟩ := hp
          have hW : q_W E (rO E f M R_73) n H := hW
          refine lv_if_eq (tgt := 97) hx hb dX14_newName_82 (by decide) (fun c_82 => False.elim ((fun h9 => absurd h9 (b01_T (decide_eq_true (show (p_ci true 4 u).2.1 = 37 from eu)))) c_82)) (fun c_82 => ?_)
          refine lv_iload_n hx hb dX14_newName_85 rfl (lv_at hl 2 rfl) ?_
          refine lv_iload_n hx hb dX14_newName_86 rfl (lv_at hl 3 rfl) ?_
          refine lv_icmp_ge (tgt := 97) hx hb dX14_newName_87 (by decide) (fun c_87 => ?_) (fun c_87 => False.elim ((fun h9 => h9 (show nI 8 ≤ nI pn from (nI_leI (by decide) (by omega)).2 em)) c_87))
          have eS : (if u.2.1 = 37 then (if p_tak pN pn rN rc (Wd u.1) = true then p_ci true 2 u else p_ci (decide (8 ≤ pn)) 4 u) else u) = (p_ci true 4 u) := (if_pos eu).trans ((if_neg (by rw [← hnw.2.1, tak_F c_25 c_49]; decide)).trans (by rw [decide_eq_true em]))
          obtain ⟨g9, hg9⟩ : ∃ z, z = r 6 := ⟨_, rfl⟩
          have T97 := hTK.up (j := 6) (g := g9) (by decide)
          have Q_97 : r_Q (rp r 6 g9) R_73 K T (p_ci true 4 u) tk nd cc ac tk_73 nd_73 cc_73 ac_73 := by rw [hg9, rp_id]; exact Q_73
          refine lv_aload_n hx hb dX14_newName_97 rfl (lv_at hl 0 rfl) ?_
          refine lv_bipush (v := 40) hx hb dX14_newName_98 (by decide) ?_
          refine q_cv (va_runV (As := [.int 40]) (rest := []) ⟨hx, hb, hml, hown, hts⟩ (kX14_take l E (rO E f M R_73) n M R_73 K Wd T (p_ci true 4 u) tk_73 nd_73 cc_73 ac_73 37 40 rO_K (Q_97.tok T97) hT hKT hK41 Q_97.1 ok_73 rfl (by decide)) (cwV 1 hts gX14_newName_X14_take rfl rfl rfl (by decide +kernel) ⟨(Nat.le_of_ble_eq_true rfl), (Nat.le_of_ble_eq_true rfl)⟩) (q_pV hA hW hS (ci := 12) rfl rO_0) rfl rfl hl.1 rfl (lv_room (Nat.le_of_ble_eq_true rfl)) dX14_newName_100 ⟨Nat.le_of_ble_eq_true rfl, Nat.le_of_ble_eq_true rfl⟩) hS (fun f_100 n_100 H locs hp hW hS => ?_)
          obtain ⟨R_100, tk_100, nd_100, cc_100, ac_100, q_100, e7_100, e8_100, ec_100, ex_100, rfl, rfl⟩ := hp
          have G_100 : p_go K T (p_ci true 4 u) (p_take K 37 (p_ci true 4 u)) := (go_take hKT (by decide))
          have GG_100 := G_100 ok_73
          have ok_100 := GG_100.1
          have le_100 := GG_100.2.2.2.1
          have er_100 := GG_100.2.2.2.2
          have Q_100 := Q_97.trans q_100
          have T_100 := Q_100.tok T97
          have num_100 := Q_100.2.2
          unfold r_num at num_100
          have bt_100 := Q_100.1.1.2.1
          have bn_100 := Q_100.1.1.2.2.2.1
          have bc_100 := Q_100.1.1.2.2.2.2.2.1
          have ba_100 := Q_100.1.1.2.2.2.2.2.2.2
          have qn_100 := q_100.2.2
          unfold r_num at qn_100
          rw [rO_rO] at hW
          have hW : q_W E (rO E f M R_100) n H := hW
          exact q_vret hx hb hr hlocks hW hS ⟨g9, _, _, _, _, _, (by unfold p_newn; rw [eS]; exact Q_100), (e7_100.trans (e7_73.trans rfl)), (e8_100.trans (e8_73.trans rfl)), ⟨(ec_100.1.trans (ec_73.1.trans rfl)), (ec_100.2.trans (ec_73.2.trans rfl))⟩, (fun h1 => ⟨by rw [← hnw.2.1]; exact ek, hnw.2.1.symm, fun h9 => absurd h9 (by omega), fun _ => hg9⟩), (fun i _ => by rw [hg9]), rfl, rfl⟩ (Nat.le_of_ble_eq_true rfl) (Nat.le_of_ble_eq_true rfl) dX14_newName_103
      · refine lv_aload_n hx hb dX14_newName_52 rfl (lv_at hl 0 rfl) ?_
        refine lv_iconst (v := 2) hx hb dX14_newName_53 (by decide) ?_
        refine q_cv (va_runV (As := [.int 2]) (rest := []) ⟨hx, hb, hml, hown, hts⟩ (kX14_mark l E (rO E f M r) n M r K Wd T u tk nd cc ac 2 rO_K hTK hT hKT hK41 Q0.1 hok) (cwV 1 hts gX14_newName_X14_mark rfl rfl rfl (by decide +kernel) ⟨(Nat.le_of_ble_eq_true rfl), (Nat.le_of_ble_eq_true rfl)⟩) (q_pV hA hW hS (ci := 12) rfl rO_0) rfl rfl hl.1 rfl (lv_room (Nat.le_of_ble_eq_true rfl)) dX14_newName_54 ⟨Nat.le_of_ble_eq_true rfl, Nat.le_of_ble_eq_true rfl⟩) hS (fun f_54 n_54 H locs hp hW hS => ?_)
        obtain ⟨R_54, tk_54, nd_54, cc_54, ac_54, q_54, e7_54, e8_54, ec_54, ex_54, rfl, rfl⟩ := hp
        have G_54 : p_go K T u (p_ci true 2 u) := (go_ci (by decide) (by decide))
        have GG_54 := G_54 hok
        have ok_54 := GG_54.1
        have le_54 := GG_54.2.2.2.1
        have er_54 := GG_54.2.2.2.2
        have Q_54 := Q0.trans q_54
        have T_54 := Q_54.tok hTK
        have num_54 := Q_54.2.2
        unfold r_num at num_54
        have bt_54 := Q_54.1.1.2.1
        have bn_54 := Q_54.1.1.2.2.2.1
        have bc_54 := Q_54.1.1.2.2.2.2.2.1
        have ba_54 := Q_54.1.1.2.2.2.2.2.2.2
        have qn_54 := q_54.2.2
        unfold r_num at qn_54
        rw [rO_rO] at hW
        have hW : q_W E (rO E f M R_54) n H := hW
        refine lv_aload_n hx hb dX14_newName_57 rfl (lv_at hl 0 rfl) ?_
        refine lv_bipush (v := 40) hx hb dX14_newName_58 (by decide) ?_
        refine q_ci (va_runV (As := [.int 40]) (rest := []) ⟨hx, hb, hml, hown, hts⟩ (kX14_is l E (rO E f M R_54) n M R_54 K Wd T (p_ci true 2 u) tk_54 nd_54 cc_54 ac_54 37 40 rO_K T_54 hT hKT hK41 Q_54.1 ok_54 rfl (by decide)) (cwV 1 hts gX14_newName_X14_is rfl rfl rfl (by decide +kernel) ⟨(Nat.le_of_ble_eq_true rfl), (Nat.le_of_ble_eq_true rfl)⟩) (q_pV hA hW hS (ci := 12) rfl rO_0) rfl rfl hl.1 rfl (lv_room (Nat.le_of_ble_eq_true rfl)) dX14_newName_60 ⟨Nat.le_of_ble_eq_true rfl, Nat.le_of_ble_eq_true rfl⟩) hS (fun r_60 f_60 n_60 H locs hp hW hS => ?_)
        obtain ⟨rfl, rfl, rfl⟩ := hp
        have hW : q_W E (rO E f M R_54) n H := hW
        refine lv_if_eq (tgt := 76) hx hb dX14_newName_63 (by decide) (fun c_63 => False.elim ((fun h9 => absurd h9 (b01_T (decide_eq_true (show (p_ci true 2 u).2.1 = 37 from eu)))) c_63)) (fun c_63 => ?_)
        refine lv_iload_n hx hb dX14_newName_66 rfl (lv_at hl 2 rfl) ?_
        refine lv_iload_n hx hb dX14_newName_67 rfl (lv_at hl 3 rfl) ?_
        refine lv_icmp_ne (tgt := 76) hx hb dX14_newName_68 (by decide) (fun c_68 => ?_) (fun c_68 => ?_)
        · have em : ¬ 8 ≤ pn := fun h9 => c_68 (by rw [show pn = 8 by omega]; rfl)
          refine lv_aload_n hx hb dX14_newName_76 rfl (lv_at hl 0 rfl) ?_
          refine lv_bipush (v := 40) hx hb dX14_newName_77 (by decide) ?_
          refine q_ci (va_runV (As := [.int 40]) (rest := []) ⟨hx, hb, hml, hown, hts⟩ (kX14_is l E (rO E f M R_54) n M R_54 K Wd T (p_ci true 2 u) tk_54 nd_54 cc_54 ac_54 37 40 rO_K T_54 hT hKT hK41 Q_54.1 ok_54 rfl (by decide)) (cwV 1 hts gX14_newName_X14_is rfl rfl rfl (by decide +kernel) ⟨(Nat.le_of_ble_eq_true rfl), (Nat.le_of_ble_eq_true rfl)⟩) (q_pV hA hW hS (ci := 12) rfl rO_0) rfl rfl hl.1 rfl (lv_room (Nat.le_of_ble_eq_true rfl)) dX14_newName_79 ⟨Nat.le_of_ble_eq_true rfl, Nat.le_of_ble_eq_true rfl⟩) hS (fun r_79 f_79 n_79 H locs hp hW hS => ?_)
          obtain ⟨rfl, rfl, rfl⟩ := hp
          have hW : q_W E (rO E f M R_54) n H := hW
          refine lv_if_eq (tgt := 97) hx hb dX14_newName_82 (by decide) (fun c_82 => False.elim ((fun h9 => absurd h9 (b01_T (decide_eq_true (show (p_ci true 2 u).2.1 = 37 from eu)))) c_82)) (fun c_82 => ?_)
          refine lv_iload_n hx hb dX14_newName_85 rfl (lv_at hl 2 rfl) ?_
          refine lv_iload_n hx hb dX14_newName_86 rfl (lv_at hl 3 rfl) ?_
          refine lv_icmp_ge (tgt := 97) hx hb dX14_newName_87 (by decide) (fun c_87 => False.elim ((fun h9 => absurd ((nI_leI (by decide) (by omega)).1 (show nI 8 ≤ nI pn from h9)) em) c_87)) (fun c_87 => ?_)
          refine lv_aload_n hx hb dX14_newName_90 rfl (lv_at hl 1 rfl) ?_
          refine lv_iload_n hx hb dX14_newName_91 rfl (lv_at hl 2 rfl) ?_
          refine lv_aload_n hx hb dX14_newName_92 rfl (lv_at hl 0 rfl) ?_
          refine q_get hx hb hts hown hA hW iX14 rO_0 rfl 8 (by decide) (hts (.fieldLink RX14 120 "HighRecipesModel" "token" "I") (by decide +kernel)) (fun _ h9 => h9) (v := .int (nI tk_54)) (congrArg (fun z => some (Value.int z)) Q_54.1.1.1) dX14_newName_93 ?_
          refine q_ast hx hb hA hW hS (rO_6 (g := R_54 6) rfl) pn rfl (by omega) (by decide) dX14_newName_96 (fun H locs hW hS => ?_)
          have hW := q_sa 6 hW rfl rfl
          have eS : (if u.2.1 = 37 then (if p_tak pN pn rN rc (Wd u.1) = true then p_ci true 2 u else p_ci (decide (8 ≤ pn)) 4 u) else u) = (p_ci true 2 u) := (if_pos eu).trans (if_pos (by rw [← hnw.2.1]; exact tak_T (Or.inr c_49) (by omega) (by omega)))
          have EQ9 : upd (R_54 6) pn (nI tk_54) = upd (r 6) pn (nI tk) := by rw [Q_54.2.1.1 6 (by decide) (by decide) (by decide), (Q_54.1.nw (show u.2.1 ≠ 40 by omega)).2.1, hnw.2.1]; rfl
          obtain ⟨g9, hg9⟩ : ∃ z, z = upd (R_54 6) pn (nI tk_54) := ⟨_, rfl⟩
          have Q_97 := Q_54.nmu (j := 6) (g := g9) (by decide)
          have T97 := hTK.up (j := 6) (g := g9) (by decide)
          rw [← hg9] at hW
          obtain ⟨R_97b, hR_97b⟩ : ∃ z, z = rp R_54 6 g9 := ⟨_, rfl⟩
          rw [← hR_97b] at hW
          have Q_97b : r_Q (rp r 6 g9) R_97b K T (p_ci true 2 u) tk nd cc ac tk_54 nd_54 cc_54 ac_54 := by rw [hR_97b]; exact Q_97
          have T_97b := Q_97b.tok T97
          have num_97b := Q_97b.2.2
          unfold r_num at num_97b
          have bt_97b := Q_97b.1.1.2.1
          have bn_97b := Q_97b.1.1.2.2.2.1
          have bc_97b := Q_97b.1.1.2.2.2.2.2.1
          have ba_97b := Q_97b.1.1.2.2.2.2.2.2.2
          refine lv_aload_n hx hb dX14_newName_97 rfl (lv_at hl 0 rfl) ?_
          refine lv_bipush (v := 40) hx hb dX14_newName_98 (by decide) ?_
          refine q_cv (va_runV (As := [.int 40]) (rest := []) ⟨hx, hb, hml, hown, hts⟩ (kX14_take l E (rO E f M R_97b) n M R_97b K Wd T (p_ci true 2 u) tk_54 nd_54 cc_54 ac_54 37 40 rO_K T_97b hT hKT hK41 Q_97b.1 ok_54 rfl (by decide)) (cwV 1 hts gX14_newName_X14_take rfl rfl rfl (by decide +kernel) ⟨(Nat.le_of_ble_eq_true rfl), (Nat.le_of_ble_eq_true rfl)⟩) (q_pV hA hW hS (ci := 12) rfl rO_0) rfl rfl hl.1 rfl (lv_room (Nat.le_of_ble_eq_true rfl)) dX14_newName_100 ⟨Nat.le_of_ble_eq_true rfl, Nat.le_of_ble_eq_true rfl⟩) hS (fun f_100 n_100 H locs hp hW hS => ?_)
          obtain ⟨R_100, tk_100, nd_100, cc_100, ac_100, q_100, e7_100, e8_100, ec_100, ex_100, rfl, rfl⟩ := hp
          have G_100 : p_go K T (p_ci true 2 u) (p_take K 37 (p_ci true 2 u)) := (go_take hKT (by decide))
          have GG_100 := G_100 ok_54
          have ok_100 := GG_100.1
          have le_100 := GG_100.2.2.2.1
          have er_100 := GG_100.2.2.2.2
          have Q_100 := Q_97b.trans q_100
          have T_100 := Q_100.tok T97
          have num_100 := Q_100.2.2
          unfold r_num at num_100
          have bt_100 := Q_100.1.1.2.1
          have bn_100 := Q_100.1.1.2.2.2.1
          have bc_100 := Q_100.1.1.2.2.2.2.2.1
          have ba_100 := Q_100.1.1.2.2.2.2.2.2.2
          have qn_100 := q_100.2.2
          unfold r_num at qn_100
          rw [rO_rO] at hW
          have hW : q_W E (rO E f M R_100) n H := hW
          exact q_vret hx hb hr hlocks hW hS ⟨g9, _, _, _, _, _, (by unfold p_newn; rw [eS]; exact Q_100), (e7_100.trans (show R_97b 107 0 = r 107 0 from by rw [hR_97b]; exact (e7_54.trans rfl))), (e8_100.trans (show R_97b 108 0 = r 108 0 from by rw [hR_97b]; exact (e8_54.trans rfl))), ⟨(ec_100.1.trans (ec_54.1.trans rfl)), (ec_100.2.trans (ec_54.2.trans rfl))⟩, (fun h1 => ⟨by rw [← hnw.2.1]; exact ek, hnw.2.1.symm, fun _ => hg9.trans EQ9, fun h9 => absurd (by omega) h9⟩), (fun i hi => by rw [hg9, EQ9]; exact z_un (by omega)), rfl, rfl⟩ (Nat.le_of_ble_eq_true rfl) (Nat.le_of_ble_eq_true rfl) dX14_newName_103
        · have em : 8 ≤ pn := Nat.le_of_eq ((nI_eq (by omega) (by decide)).1 c_68).symm
          refine lv_aload_n hx hb dX14_newName_71 rfl (lv_at hl 0 rfl) ?_
          refine lv_iconst (v := 4) hx hb dX14_newName_72 (by decide) ?_
          refine q_cv (va_runV (As := [.int 4]) (rest := []) ⟨hx, hb, hml, hown, hts⟩ (kX14_mark l E (rO E f M R_54) n M R_54 K Wd T (p_ci true 2 u) tk_54 nd_54 cc_54 ac_54 4 rO_K T_54 hT hKT hK41 Q_54.1 ok_54) (cwV 1 hts gX14_newName_X14_mark rfl rfl rfl (by decide +kernel) ⟨(Nat.le_of_ble_eq_true rfl), (Nat.le_of_ble_eq_true rfl)⟩) (q_pV hA hW hS (ci := 12) rfl rO_0) rfl rfl hl.1 rfl (lv_room (Nat.le_of_ble_eq_true rfl)) dX14_newName_73 ⟨Nat.le_of_ble_eq_true rfl, Nat.le_of_ble_eq_true rfl⟩) hS (fun f_73 n_73 H locs hp hW hS => ?_)
          obtain ⟨R_73, tk_73, nd_73, cc_73, ac_73, q_73, e7_73, e8_73, ec_73, ex_73, rfl, rfl⟩ := hp
          have G_73 : p_go K T (p_ci true 2 u) (p_ci true 4 (p_ci true 2 u)) := (go_ci (by decide) (by decide))
          have GG_73 := G_73 ok_54
          have ok_73 := GG_73.1
          have le_73 := GG_73.2.2.2.1
          have er_73 := GG_73.2.2.2.2
          have Q_73 := Q_54.trans q_73
          have T_73 := Q_73.tok hTK
          have num_73 := Q_73.2.2
          unfold r_num at num_73
          have bt_73 := Q_73.1.1.2.1
          have bn_73 := Q_73.1.1.2.2.2.1
          have bc_73 := Q_73.1.1.2.2.2.2.2.1
          have ba_73 := Q_73.1.1.2.2.2.2.2.2.2
          have qn_73 := q_73.2.2
          unfold r_num at qn_73
          rw [rO_rO] at hW
          have hW : q_W E (rO E f M R_73) n H := hW
          refine lv_aload_n hx hb dX14_newName_76 rfl (lv_at hl 0 rfl) ?_
          refine lv_bipush (v := 40) hx hb dX14_newName_77 (by decide) ?_
          refine q_ci (va_runV (As := [.int 40]) (rest := []) ⟨hx, hb, hml, hown, hts⟩ (kX14_is l E (rO E f M R_73) n M R_73 K Wd T (p_ci true 4 (p_ci true 2 u)) tk_73 nd_73 cc_73 ac_73 37 40 rO_K T_73 hT hKT hK41 Q_73.1 ok_73 rfl (by decide)) (cwV 1 hts gX14_newName_X14_is rfl rfl rfl (by decide +kernel) ⟨(Nat.le_of_ble_eq_true rfl), (Nat.le_of_ble_eq_true rfl)⟩) (q_pV hA hW hS (ci := 12) rfl rO_0) rfl rfl hl.1 rfl (lv_room (Nat.le_of_ble_eq_true rfl)) dX14_newName_79 ⟨Nat.le_of_ble_eq_true rfl, Nat.le_of_ble_eq_true rfl⟩) hS (fun r_79 f_79 n_79 H locs hp hW hS => ?_)
          obtain ⟨rfl, rfl, rfl⟩ := hp
          have hW : q_W E (rO E f M R_73) n H := hW
          refine lv_if_eq (tgt := 97) hx hb dX14_newName_82 (by decide) (fun c_82 => False.elim ((fun h9 => absurd h9 (b01_T (decide_eq_true (show (p_ci true 4 (p_ci true 2 u)).2.1 = 37 from eu)))) c_82)) (fun c_82 => ?_)
          refine lv_iload_n hx hb dX14_newName_85 rfl (lv_at hl 2 rfl) ?_
          refine lv_iload_n hx hb dX14_newName_86 rfl (lv_at hl 3 rfl) ?_
          refine lv_icmp_ge (tgt := 97) hx hb dX14_newName_87 (by decide) (fun c_87 => ?_) (fun c_87 => False.elim ((fun h9 => h9 (show nI 8 ≤ nI pn from (nI_leI (by decide) (by omega)).2 em)) c_87))
          have eS : (if u.2.1 = 37 then (if p_tak pN pn rN rc (Wd u.1) = true then p_ci true 2 u else p_ci (decide (8 ≤ pn)) 4 u) else u) = (p_ci true 2 u) := (if_pos eu).trans (if_pos (by rw [← hnw.2.1]; exact tak_T (Or.inr c_49) (by omega) (by omega)))
          obtain ⟨g9, hg9⟩ : ∃ z, z = r 6 := ⟨_, rfl⟩
          have T97 := hTK.up (j := 6) (g := g9) (by decide)
          have Q_97 : r_Q (rp r 6 g9) R_73 K T (p_ci true 4 (p_ci true 2 u)) tk nd cc ac tk_73 nd_73 cc_73 ac_73 := by rw [hg9, rp_id]; exact Q_73
          have ecc9 : p_ci true 4 (p_ci true 2 u) = p_ci true 2 u := ci_ci (by decide)
          rw [ecc9] at Q_97
          rw [ecc9] at ok_73
          refine lv_aload_n hx hb dX14_newName_97 rfl (lv_at hl 0 rfl) ?_
          refine lv_bipush (v := 40) hx hb dX14_newName_98 (by decide) ?_
          refine q_cv (va_runV (As := [.int 40]) (rest := []) ⟨hx, hb, hml, hown, hts⟩ (kX14_take l E (rO E f M R_73) n M R_73 K Wd T (p_ci true 2 u) tk_73 nd_73 cc_73 ac_73 37 40 rO_K (Q_97.tok T97) hT hKT hK41 Q_97.1 ok_73 rfl (by decide)) (cwV 1 hts gX14_newName_X14_take rfl rfl rfl (by decide +kernel) ⟨(Nat.le_of_ble_eq_true rfl), (Nat.le_of_ble_eq_true rfl)⟩) (q_pV hA hW hS (ci := 12) rfl rO_0) rfl rfl hl.1 rfl (lv_room (Nat.le_of_ble_eq_true rfl)) dX14_newName_100 ⟨Nat.le_of_ble_eq_true rfl, Nat.le_of_ble_eq_true rfl⟩) hS (fun f_100 n_100 H locs hp hW hS => ?_)
          obtain ⟨R_100, tk_100, nd_100, cc_100, ac_100, q_100, e7_100, e8_100, ec_100, ex_100, rfl, rfl⟩ := hp
          have G_100 : p_go K T (p_ci true 2 u) (p_take K 37 (p_ci true 2 u)) := (go_take hKT (by decide))
          have GG_100 := G_100 ok_73
          have ok_100 := GG_100.1
          have le_100 := GG_100.2.2.2.1
          have er_100 := GG_100.2.2.2.2
          have Q_100 := Q_97.trans q_100
          have T_100 := Q_100.tok T97
          have num_100 := Q_100.2.2
          unfold r_num at num_100
          have bt_100 := Q_100.1.1.2.1
          have bn_100 := Q_100.1.1.2.2.2.1
          have bc_100 := Q_100.1.1.2.2.2.2.2.1
          have ba_100 := Q_100.1.1.2.2.2.2.2.2.2
          have qn_100 := q_100.2.2
          unfold r_num at qn_100
          rw [rO_rO] at hW
          have hW : q_W E (rO E f M R_100) n H := hW
          exact q_vret hx hb hr hlocks hW hS ⟨g9, _, _, _, _, _, (by unfold p_newn; rw [eS]; exact Q_100), (e7_100.trans (e7_73.trans (e7_54.trans rfl))), (e8_100.trans (e8_73.trans (e8_54.trans rfl))), ⟨(ec_100.1.trans (ec_73.1.trans (ec_54.1.trans rfl))), (ec_100.2.trans (ec_73.2.trans (ec_54.2.trans rfl)))⟩, (fun h1 => ⟨by rw [← hnw.2.1]; exact ek, hnw.2.1.symm, fun h9 => absurd h9 (by omega), fun _ => hg9⟩), (fun i _ => by rw [hg9]), rfl, rfl⟩ (Nat.le_of_ble_eq_true rfl) (Nat.le_of_ble_eq_true rfl) dX14_newName_103

set_option maxHeartbeats 4000000 in
set_option maxRecDepth 100000 in
theorem kX14_newName_7 (l : Launch) (E : q_E) (f : q_H) (n : Nat) (M : Nat) (r : q_R) (K : Nat → Nat) (Wd : Nat → Int64) (T : Nat) (u : p_S) (tk nd cc ac : Nat) (pN : Nat → Int64) (pn : Nat) (rN : Nat → Int64) (rc : Nat)  (hm : RM E f M r) (hTK : r_T r K Wd T) (hT : T ≤ 400) (hKT : 39 ≤ K T) (hK41 : ∀ j, K j < 41) (hP : r_P r K T u tk nd cc ac) (hok : p_ok K T u) (hnm : u.2.1 ≠ 40 → r_nm r K Wd T 6 pn pN) (hnr : u.2.1 ≠ 40 → r_nm r K Wd T 7 rc rN) (hpn : pn ≤ 8) (hrc : rc ≤ 6) (hpn9 : r 130 0 = nI pn) (hrc9 : r 131 0 = nI rc) : Met l yX14_newName wsX14_newName ({ frames := 2, cells := 0, slots := 0, locals := 46 }) (q_P E [.ref M, .ref (M + 7), .int (nI rc), .int 6] f n) (q_Qv E (fun f1 n1 => ∃ (g : Nat → Int32) (r1 : q_R) (tk1 nd1 cc1 ac1 : Nat), r_Q (rp r 7 g) r1 K T (p_newn K Wd pN pn rN rc (decide (6 ≤ rc)) u) tk nd cc ac tk1 nd1 cc1 ac1 ∧ r1 107 0 = r 107 0 ∧ r1 108 0 = r 108 0 ∧ (cc1 = cc ∧ ac1 = ac) ∧ ((p_newn K Wd pN pn rN rc (decide (6 ≤ rc)) u).2.1 ≠ 40 → K u.1 = 37 ∧ u.1 = tk ∧ (rc < 6 → g = upd (r 7) rc (nI tk)) ∧ (¬ rc < 6 → g = r 7)) ∧ (∀ i, i < rc → g i = r 7 i) ∧ rO E f M r1 = f1 ∧ n = n1)) 0 0 (q_ge E) := by
  refine Met.ofW (cc := cX14_newName) (maxL := 4) (ret := none) (by decide) rfl ?_
  intro p e s m args below meth c s₁ B hml hv
  obtain ⟨rfl, hA, hW⟩ := hv
  have hx := B.exec
  have hb := B.bytes
  have hr := B.returns
  have hts := atoms_spec (ws := wsX14_newName) B.pre
  have hown : s.vm.findClass RX14 = some m.cls := findClass_of_methodNamed B.named
  have hlocks := B.notSynchronized
  have hS : va_S (q_ge E) s.heap s.heap [] := va_S.rf
  have iX13 : ∀ w ∈ wsX130, w ∈ wsX14_newName := by decide +kernel
  have iX14 : ∀ w ∈ wsX140, w ∈ wsX14_newName := by decide +kernel
  have hl := lv_entry ([.ref M, .ref (M + 7), .int (nI rc), .int 6]) (n := 4) (Nat.le_of_ble_eq_true rfl)
  rw [lg_entry_eq]
  generalize (lg_sl ([.ref M, .ref (M + 7), .int (nI rc), .int 6]) ++ List.replicate (4 - (lg_sl ([.ref M, .ref (M + 7), .int (nI rc), .int 6])).length) Slot.unset).toArray = ls at hl ⊢
  have hl : lv_has ls 4 [(0, .ref M), (1, .ref (M + 7)), (2, .int (nI rc)), (3, .int 6)] := hl
  have hmE := hm.eq
  rw [hm.eq] at hW
  have Q0 := r_Q.rf hP
  have htk := hP.1.2.1
  have hnd := hP.1.2.2.2.1
  have hcc := hP.1.2.2.2.2.2.1
  have hac := hP.1.2.2.2.2.2.2.2
  refine lv_aload_n hx hb dX14_newName_0 rfl (lv_at hl 0 rfl) ?_
  refine lv_bipush (v := 40) hx hb dX14_newName_1 (by decide) ?_
  refine q_ci (va_runV (As := [.int 40]) (rest := []) ⟨hx, hb, hml, hown, hts⟩ (kX14_is l E (rO E f M r) n M r K Wd T u tk nd cc ac 37 40 rO_K hTK hT hKT hK41 Q0.1 hok rfl (by decide)) (cwV 1 hts gX14_newName_X14_is rfl rfl rfl (by decide +kernel) ⟨(Nat.le_of_ble_eq_true rfl), (Nat.le_of_ble_eq_true rfl)⟩) (q_pV hA hW hS (ci := 12) rfl rO_0) rfl rfl hl.1 rfl (lv_room (Nat.le_of_ble_eq_true rfl)) dX14_newName_3 ⟨Nat.le_of_ble_eq_true rfl, Nat.le_of_ble_eq_true rfl⟩) hS (fun r_3 f_3 n_3 H locs hp hW hS => ?_)
  obtain ⟨rfl, rfl, rfl⟩ := hp
  have hW : q_W E (rO E f M r) n H := hW
  refine lv_if_eq (tgt := 57) hx hb dX14_newName_6 (by decide) (fun c_6 => ?_) (fun c_6 => ?_)
  · have eu : ¬ u.2.1 = 37 := of_decide_eq_false (b01_0 c_6)
    refine lv_aload_n hx hb dX14_newName_57 rfl (lv_at hl 0 rfl) ?_
    refine lv_bipush (v := 40) hx hb dX14_newName_58 (by decide) ?_
    refine q_ci (va_runV (As := [.int 40]) (rest := []) ⟨hx, hb, hml, hown, hts⟩ (kX14_is l E (rO E f M r) n M r K Wd T u tk nd cc ac 37 40 rO_K hTK hT hKT hK41 Q0.1 hok rfl (by decide)) (cwV 1 hts gX14_newName_X14_is rfl rfl rfl (by decide +kernel) ⟨(Nat.le_of_ble_eq_true rfl), (Nat.le_of_ble_eq_true rfl)⟩) (q_pV hA hW hS (ci := 12) rfl rO_0) rfl rfl hl.1 rfl (lv_room (Nat.le_of_ble_eq_true rfl)) dX14_newName_60 ⟨Nat.le_of_ble_eq_true rfl, Nat.le_of_ble_eq_true rfl⟩) hS (fun r_60 f_60 n_60 H locs hp hW hS => ?_)
    obtain ⟨rfl, rfl, rfl⟩ := hp
    have hW : q_W E (rO E f M r) n H := hW
    refine lv_if_eq (tgt := 76) hx hb dX14_newName_63 (by decide) (fun c_63 => ?_) (fun c_63 => False.elim ((fun h9 => h9 (b01_F (decide_eq_false (show ¬ u.2.1 = 37 from eu)))) c_63))
    refine lv_aload_n hx hb dX14_newName_76 rfl (lv_at hl 0 rfl) ?_
    refine lv_bipush (v := 40) hx hb dX14_newName_77 (by decide) ?_
    refine q_ci (va_runV (As := [.int 40]) (rest := []) ⟨hx, hb, hml, hown, hts⟩ (kX14_is l E (rO E f M r) n M r K Wd T u tk nd cc ac 37 40 rO_K hTK hT hKT hK41 Q0.1 hok rfl (by decide)) (cwV 1 hts gX14_newName_X14_is rfl rfl rfl (by decide +kernel) ⟨(Nat.le_of_ble_eq_true rfl), (Nat.le_of_ble_eq_true rfl)⟩) (q_pV hA hW hS (ci := 12) rfl rO_0) rfl rfl hl.1 rfl (lv_room (Nat.le_of_ble_eq_true rfl)) dX14_newName_79 ⟨Nat.le_of_ble_eq_true rfl, Nat.le_of_ble_eq_true rfl⟩) hS (fun r_79 f_79 n_79 H locs hp hW hS => ?_)
    obtain ⟨rfl, rfl, rfl⟩ := hp
    have hW : q_W E (rO E f M r) n H := hW
    refine lv_if_eq (tgt := 97) hx hb dX14_newName_82 (by decide) (fun c_82 => ?_) (fun c_82 => False.elim ((fun h9 => h9 (b01_F (decide_eq_false (show ¬ u.2.1 = 37 from eu)))) c_82))
    have eS : (if u.2.1 = 37 then (if p_tak pN pn rN rc (Wd u.1) = true then p_ci true 2 u else p_ci (decide (6 ≤ rc)) 4 u) else u) = u := if_neg eu
    obtain ⟨g9, hg9⟩ : ∃ z, z = r 7 := ⟨_, rfl⟩
    have T97 := hTK.up (j := 7) (g := g9) (by decide)
    have Q_97 : r_Q (rp r 7 g9) r K T u tk nd cc ac tk nd cc ac := by rw [hg9, rp_id]; exact Q0
    refine lv_aload_n hx hb dX14_newName_97 rfl (lv_at hl 0 rfl) ?_
    refine lv_bipush (v := 40) hx hb dX14_newName_98 (by decide) ?_
    refine q_cv (va_runV (As := [.int 40]) (rest := []) ⟨hx, hb, hml, hown, hts⟩ (kX14_take l E (rO E f M r) n M r K Wd T u tk nd cc ac 37 40 rO_K (Q_97.tok T97) hT hKT hK41 Q_97.1 hok rfl (by decide)) (cwV 1 hts gX14_newName_X14_take rfl rfl rfl (by decide +kernel) ⟨(Nat.le_of_ble_eq_true rfl), (Nat.le_of_ble_eq_true rfl)⟩) (q_pV hA hW hS (ci := 12) rfl rO_0) rfl rfl hl.1 rfl (lv_room (Nat.le_of_ble_eq_true rfl)) dX14_newName_100 ⟨Nat.le_of_ble_eq_true rfl, Nat.le_of_ble_eq_true rfl⟩) hS (fun f_100 n_100 H locs hp hW hS => ?_)
    obtain ⟨R_100, tk_100, nd_100, cc_100, ac_100, q_100, e7_100, e8_100, ec_100, ex_100, rfl, rfl⟩ := hp
    have G_100 : p_go K T u (p_take K 37 u) := (go_take hKT (by decide))
    have GG_100 := G_100 hok
    have ok_100 := GG_100.1
    have le_100 := GG_100.2.2.2.1
    have er_100 := GG_100.2.2.2.2
    have Q_100 := Q_97.trans q_100
    have T_100 := Q_100.tok T97
    have num_100 := Q_100.2.2
    unfold r_num at num_100
    have bt_100 := Q_100.1.1.2.1
    have bn_100 := Q_100.1.1.2.2.2.1
    have bc_100 := Q_100.1.1.2.2.2.2.2.1
    have ba_100 := Q_100.1.1.2.2.2.2.2.2.2
    have qn_100 := q_100.2.2
    unfold r_num at qn_100
    rw [rO_rO] at hW
    have hW : q_W E (rO E f M R_100) n H := hW
    exact q_vret hx hb hr hlocks hW hS ⟨g9, _, _, _, _, _, (by unfold p_newn; rw [eS]; exact Q_100), (e7_100.trans rfl), (e8_100.trans rfl), ⟨(ec_100.1.trans rfl), (ec_100.2.trans rfl)⟩, (fun h1 => absurd (show (p_take K 37 (if u.2.1 = 37 then _ else u)).2.1 = 40 from by rw [eS]; exact (step_bad (decide_eq_false eu)).2) h1), (fun i _ => by rw [hg9]), rfl, rfl⟩ (Nat.le_of_ble_eq_true rfl) (Nat.le_of_ble_eq_true rfl) dX14_newName_103
  · have eu : u.2.1 = 37 := of_decide_eq_true (b01_1 c_6)
    have hnw := hP.nw (by omega)
    have ek : K tk = 37 := by rw [hnw.2.1, ← hnw.2.2.1]; exact eu
    refine lv_aload_n hx hb dX14_newName_9 rfl (lv_at hl 0 rfl) ?_
    refine lv_aload_n hx hb dX14_newName_10 rfl (lv_at hl 0 rfl) ?_
    refine q_get hx hb hts hown hA hW iX14 rO_0 rfl 14 (by decide) (hts (.fieldLink RX14 29 "HighRecipesModel" "panName" "[I") (by decide +kernel)) (fun _ h9 => h9) (v := .ref (M + 6)) rfl dX14_newName_11 ?_
    refine lv_aload_n hx hb dX14_newName_14 rfl (lv_at hl 0 rfl) ?_
    refine q_get hx hb hts hown hA hW iX14 rO_0 rfl 18 (by decide) (hts (.fieldLink RX14 42 "HighRecipesModel" "fresh" "LHighRecipesModel$Book;") (by decide +kernel)) (fun _ h9 => h9) (v := .ref (M + 25)) rfl dX14_newName_15 ?_
    refine q_getN hx hb hts hown hA hW iX13 rO_25 rfl 0 (by decide) (va_Nw.use rfl (hA.2.2.2.1 ("HighRecipesModel", 150, "HighRecipesModel$Book", "pans", "I", "HighRecipesModel") (by decide +kernel))) (fun _ h9 => h9) (v := .int (nI pn)) (congrArg (fun z => some (Value.int z)) hpn9) dX14_newName_18 ?_
    refine q_ci (va_runV (As := [.ref (M + 6), .int (nI pn)]) (rest := []) ⟨hx, hb, hml, hown, hts⟩ (kX14_known_6 l E (rO E f M r) n M r K Wd T u tk nd cc ac pn pN rO_K hTK hT hKT hK41 Q0.1 hok (hnm (by omega)) hpn ek) (cwV 2 hts gX14_newName_X14_known rfl rfl rfl (by decide +kernel) ⟨(Nat.le_of_ble_eq_true rfl), (Nat.le_of_ble_eq_true rfl)⟩) (q_pV hA hW hS (ci := 12) rfl rO_0) rfl rfl hl.1 rfl (lv_room (Nat.le_of_ble_eq_true rfl)) dX14_newName_21 ⟨Nat.le_of_ble_eq_true rfl, Nat.le_of_ble_eq_true rfl⟩) hS (fun r_21 f_21 n_21 H locs hp hW hS => ?_)
    obtain ⟨rfl, rfl, rfl⟩ := hp
    have hW : q_W E (rO E f M r) n H := hW
    refine lv_iconst (v := (-1)) hx hb dX14_newName_24 (by decide) ?_
    refine lv_icmp_ne (tgt := 52) hx hb dX14_newName_25 (by decide) (fun c_25 => ?_) (fun c_25 => ?_)
    · refine lv_aload_n hx hb dX14_newName_52 rfl (lv_at hl 0 rfl) ?_
      refine lv_iconst (v := 2) hx hb dX14_newName_53 (by decide) ?_
      refine q_cv (va_runV (As := [.int 2]) (rest := []) ⟨hx, hb, hml, hown, hts⟩ (kX14_mark l E (rO E f M r) n M r K Wd T u tk nd cc ac 2 rO_K hTK hT hKT hK41 Q0.1 hok) (cwV 1 hts gX14_newName_X14_mark rfl rfl rfl (by decide +kernel) ⟨(Nat.le_of_ble_eq_true rfl), (Nat.le_of_ble_eq_true rfl)⟩) (q_pV hA hW hS (ci := 12) rfl rO_0) rfl rfl hl.1 rfl (lv_room (Nat.le_of_ble_eq_true rfl)) dX14_newName_54 ⟨Nat.le_of_ble_eq_true rfl, Nat.le_of_ble_eq_true rfl⟩) hS (fun f_54 n_54 H locs hp hW hS => ?_)
      obtain ⟨R_54, tk_54, nd_54, cc_54, ac_54, q_54, e7_54, e8_54, ec_54, ex_54, rfl, rfl⟩ := hp
      have G_54 : p_go K T u (p_ci true 2 u) := (go_ci (by decide) (by decide))
      have GG_54 := G_54 hok
      have ok_54 := GG_54.1
      have le_54 := GG_54.2.2.2.1
      have er_54 := GG_54.2.2.2.2
      have Q_54 := Q0.trans q_54
      have T_54 := Q_54.tok hTK
      have num_54 := Q_54.2.2
      unfold r_num at num_54
      have bt_54 := Q_54.1.1.2.1
      have bn_54 := Q_54.1.1.2.2.2.1
      have bc_54 := Q_54.1.1.2.2.2.2.2.1
      have ba_54 := Q_54.1.1.2.2.2.2.2.2.2
      have qn_54 := q_54.2.2
      unfold r_num at qn_54
      rw [rO_rO] at hW
      have hW : q_W E (rO E f M R_54) n H := hW
      refine lv_aload_n hx hb dX14_newName_57 rfl (lv_at hl 0 rfl) ?_
      refine lv_bipush (v := 40) hx hb dX14_newName_58 (by decide) ?_
      refine q_ci (va_runV (As := [.int 40]) (rest := []) ⟨hx, hb, hml, hown, hts⟩ (kX14_is l E (rO E f M R_54) n M R_54 K Wd T (p_ci true 2 u) tk_54 nd_54 cc_54 ac_54 37 40 rO_K T_54 hT hKT hK41 Q_54.1 ok_54 rfl (by decide)) (cwV 1 hts gX14_newName_X14_is rfl rfl rfl (by decide +kernel) ⟨(Nat.le_of_ble_eq_true rfl), (Nat.le_of_ble_eq_true rfl)⟩) (q_pV hA hW hS (ci := 12) rfl rO_0) rfl rfl hl.1 rfl (lv_room (Nat.le_of_ble_eq_true rfl)) dX14_newName_60 ⟨Nat.le_of_ble_eq_true rfl, Nat.le_of_ble_eq_true rfl⟩) hS (fun r_60 f_60 n_60 H locs hp hW hS => ?_)
      obtain ⟨rfl, rfl, rfl⟩ := hp
      have hW : q_W E (rO E f M R_54) n H := hW
      refine lv_if_eq (tgt := 76) hx hb dX14_newName_63 (by decide) (fun c_63 => False.elim ((fun h9 => absurd h9 (b01_T (decide_eq_true (show (p_ci true 2 u).2.1 = 37 from eu)))) c_63)) (fun c_63 => ?_)
      refine lv_iload_n hx hb dX14_newName_66 rfl (lv_at hl 2 rfl) ?_
      refine lv_iload_n hx hb dX14_newName_67 rfl (lv_at hl 3 rfl) ?_
      refine lv_icmp_ne (tgt := 76) hx hb dX14_newName_68 (by decide) (fun c_68 => ?_) (fun c_68 => ?_)
      · have em : ¬ 6 ≤ rc := fun h9 => c_68 (by rw [show rc = 6 by omega]; rfl)
        refine lv_aload_n hx hb dX14_newName_76 rfl (lv_at hl 0 rfl) ?_
        refine lv_bipush (v := 40) hx hb dX14_newName_77 (by decide) ?_
        refine q_ci (va_runV (As := [.int 40]) (rest := []) ⟨hx, hb, hml, hown, hts⟩ (kX14_is l E (rO E f M R_54) n M R_54 K Wd T (p_ci true 2 u) tk_54 nd_54 cc_54 ac_54 37 40 rO_K T_54 hT hKT hK41 Q_54.1 ok_54 rfl (by decide)) (cwV 1 hts gX14_newName_X14_is rfl rfl rfl (by decide +kernel) ⟨(Nat.le_of_ble_eq_true rfl), (Nat.le_of_ble_eq_true rfl)⟩) (q_pV hA hW hS (ci := 12) rfl rO_0) rfl rfl hl.1 rfl (lv_room (Nat.le_of_ble_eq_true rfl)) dX14_newName_79 ⟨Nat.le_of_ble_eq_true rfl, Nat.le_of_ble_eq_true rfl⟩) hS (fun r_79 f_79 n_79 H locs hp hW hS => ?_)
        obtain ⟨rfl, rfl, rfl⟩ := hp
        have hW : q_W E (rO E f M R_54) n H := hW
        refine lv_if_eq (tgt := 97) hx hb dX14_newName_82 (by decide) (fun c_82 => False.elim ((fun h9 => absurd h9 (b01_T (decide_eq_true (show (p_ci true 2 u).2.1 = 37 from eu)))) c_82)) (fun c_82 => ?_)
        refine lv_iload_n hx hb dX14_newName_85 rfl (lv_at hl 2 rfl) ?_
        refine lv_iload_n hx hb dX14_newName_86 rfl (lv_at hl 3 rfl) ?_
        refine lv_icmp_ge (tgt := 97) hx hb dX14_newName_87 (by decide) (fun c_87 => False.elim ((fun h9 => absurd ((nI_leI (by decide) (by omega)).1 (show nI 6 ≤ nI rc from h9)) em) c_87)) (fun c_87 => ?_)
        refine lv_aload_n hx hb dX14_newName_90 rfl (lv_at hl 1 rfl) ?_
        refine lv_iload_n hx hb dX14_newName_91 rfl (lv_at hl 2 rfl) ?_
        refine lv_aload_n hx hb dX14_newName_92 rfl (lv_at hl 0 rfl) ?_
        refine q_get hx hb hts hown hA hW iX14 rO_0 rfl 8 (by decide) (hts (.fieldLink RX14 120 "HighRecipesModel" "token" "I") (by decide +kernel)) (fun _ h9 => h9) (v := .int (nI tk_54)) (congrArg (fun z => some (Value.int z)) Q_54.1.1.1) dX14_newName_93 ?_
        refine q_ast hx hb hA hW hS (rO_7 (g := R_54 7) rfl) rc rfl (by omega) (by decide) dX14_newName_96 (fun H locs hW hS => ?_)
        have hW := q_sa 7 hW rfl rfl
        have eS : (if u.2.1 = 37 then (if p_tak pN pn rN rc (Wd u.1) = true then p_ci true 2 u else p_ci (decide (6 ≤ rc)) 4 u) else u) = (p_ci true 2 u) := (if_pos eu).trans (if_pos (by rw [← hnw.2.1]; exact tak_T (Or.inl c_25) (by omega) (by omega)))
        have EQ9 : upd (R_54 7) rc (nI tk_54) = upd (r 7) rc (nI tk) := by rw [Q_54.2.1.1 7 (by decide) (by decide) (by decide), (Q_54.1.nw (show u.2.1 ≠ 40 by omega)).2.1, hnw.2.1]; rfl
        obtain ⟨g9, hg9⟩ : ∃ z, z = upd (R_54 7) rc (nI tk_54) := ⟨_, rfl⟩
        have Q_97 := Q_54.nmu (j := 7) (g := g9) (by decide)
        have T97 := hTK.up (j := 7) (g := g9) (by decide)
        rw [← hg9] at hW
        obtain ⟨R_97b, hR_97b⟩ : ∃ z, z = rp R_54 7 g9 := ⟨_, rfl⟩
        rw [← hR_97b] at hW
        have Q_97b : r_Q (rp r 7 g9) R_97b K T (p_ci true 2 u) tk nd cc ac tk_54 nd_54 cc_54 ac_54 := by rw [hR_97b]; exact Q_97
        have T_97b := Q_97b.tok T97
        have num_97b := Q_97b.2.2
        unfold r_num at num_97b
        have bt_97b := Q_97b.1.1.2.1
        have bn_97b := Q_97b.1.1.2.2.2.1
        have bc_97b := Q_97b.1.1.2.2.2.2.2.1
        have ba_97b := Q_97b.1.1.2.2.2.2.2.2.2
        refine lv_aload_n hx hb dX14_newName_97 rfl (lv_at hl 0 rfl) ?_
        refine lv_bipush (v := 40) hx hb dX14_newName_98 (by decide) ?_
        refine q_cv (va_runV (As := [.int 40]) (rest := []) ⟨hx, hb, hml, hown, hts⟩ (kX14_take l E (rO E f M R_97b) n M R_97b K Wd T (p_ci true 2 u) tk_54 nd_54 cc_54 ac_54 37 40 rO_K T_97b hT hKT hK41 Q_97b.1 ok_54 rfl (by decide)) (cwV 1 hts gX14_newName_X14_take rfl rfl rfl (by decide +kernel) ⟨(Nat.le_of_ble_eq_true rfl), (Nat.le_of_ble_eq_true rfl)⟩) (q_pV hA hW hS (ci := 12) rfl rO_0) rfl rfl hl.1 rfl (lv_room (Nat.le_of_ble_eq_true rfl)) dX14_newName_100 ⟨Nat.le_of_ble_eq_true rfl, Nat.le_of_ble_eq_true rfl⟩) hS (fun f_100 n_100 H locs hp hW hS => ?_)
        obtain ⟨R_100, tk_100, nd_100, cc_100, ac_100, q_100, e7_100, e8_100, ec_100, ex_100, rfl, rfl⟩ := hp
        have G_100 : p_go K T (p_ci true 2 u) (p_take K 37 (p_ci true 2 u)) := (go_take hKT (by decide))
        have GG_100 := G_100 ok_54
        have ok_100 := GG_100.1
        have le_100 := GG_100.2.2.2.1
        have er_100 := GG_100.2.2.2.2
        have Q_100 := Q_97b.trans q_100
        have T_100 := Q_100.tok T97
        have num_100 := Q_100.2.2
        unfold r_num at num_100
        have bt_100 := Q_100.1.1.2.1
        have bn_100 := Q_100.1.1.2.2.2.1
        have bc_100 := Q_100.1.1.2.2.2.2.2.1
        have ba_100 := Q_100.1.1.2.2.2.2.2.2.2
        have qn_100 := q_100.2.2
        unfold r_num at qn_100
        rw [rO_rO] at hW
        have hW : q_W E (rO E f M R_100) n H := hW
        exact q_vret hx hb hr hlocks hW hS ⟨g9, _, _, _, _, _, (by unfold p_newn; rw [eS]; exact Q_100), (e7_100.trans (show R_97b 107 0 = r 107 0 from by rw [hR_97b]; exact (e7_54.trans rfl))), (e8_100.trans (show R_97b 108 0 = r 108 0 from by rw [hR_97b]; exact (e8_54.trans rfl))), ⟨(ec_100.1.trans (ec_54.1.trans rfl)), (ec_100.2.trans (ec_54.2.trans rfl))⟩, (fun h1 => ⟨by rw [← hnw.2.1]; exact ek, hnw.2.1.symm, fun _ => hg9.trans EQ9, fun h9 => absurd (by omega) h9⟩), (fun i hi => by rw [hg9, EQ9]; exact z_un (by omega)), rfl, rfl⟩ (Nat.le_of_ble_eq_true rfl) (Nat.le_of_ble_eq_true rfl) dX14_newName_103
      · have em : 6 ≤ rc := Nat.le_of_eq ((nI_eq (by omega) (by decide)).1 c_68).symm
        refine lv_aload_n hx hb dX14_newName_71 rfl (lv_at hl 0 rfl) ?_
        refine lv_iconst (v := 4) hx hb dX14_newName_72 (by decide) ?_
        refine q_cv (va_runV (As := [.int 4]) (rest := []) ⟨hx, hb, hml, hown, hts⟩ (kX14_mark l E (rO E f M R_54) n M R_54 K Wd T (p_ci true 2 u) tk_54 nd_54 cc_54 ac_54 4 rO_K T_54 hT hKT hK41 Q_54.1 ok_54) (cwV 1 hts gX14_newName_X14_mark rfl rfl rfl (by decide +kernel) ⟨(Nat.le_of_ble_eq_true rfl), (Nat.le_of_ble_eq_true rfl)⟩) (q_pV hA hW hS (ci := 12) rfl rO_0) rfl rfl hl.1 rfl (lv_room (Nat.le_of_ble_eq_true rfl)) dX14_newName_73 ⟨Nat.le_of_ble_eq_true rfl, Nat.le_of_ble_eq_true rfl⟩) hS (fun f_73 n_73 H locs hp hW hS => ?_)
        obtain ⟨R_73, tk_73, nd_73, cc_73, ac_73, q_73, e7_73, e8_73, ec_73, ex_73, rfl, rfl⟩ := hp
        have G_73 : p_go K T (p_ci true 2 u) (p_ci true 4 (p_ci true 2 u)) := (go_ci (by decide) (by decide))
        have GG_73 := G_73 ok_54
        have ok_73 := GG_73.1
        have le_73 := GG_73.2.2.2.1
        have er_73 := GG_73.2.2.2.2
        have Q_73 := Q_54.trans q_73
        have T_73 := Q_73.tok hTK
        have num_73 := Q_73.2.2
        unfold r_num at num_73
        have bt_73 := Q_73.1.1.2.1
        have bn_73 := Q_73.1.1.2.2.2.1
        have bc_73 := Q_73.1.1.2.2.2.2.2.1
        have ba_73 := Q_73.1.1.2.2.2.2.2.2.2
        have qn_73 := q_73.2.2
        unfold r_num at qn_73
        rw [rO_rO] at hW
        have hW : q_W E (rO E f M R_73) n H := hW
        refine lv_aload_n hx hb dX14_newName_76 rfl (lv_at hl 0 rfl) ?_
        refine lv_bipush (v := 40) hx hb dX14_newName_77 (by decide) ?_
        refine q_ci (va_runV (As := [.int 40]) (rest := []) ⟨hx, hb, hml, hown, hts⟩ (kX14_is l E (rO E f M R_73) n M R_73 K Wd T (p_ci true 4 (p_ci true 2 u)) tk_73 nd_73 cc_73 ac_73 37 40 rO_K T_73 hT hKT hK41 Q_73.1 ok_73 rfl (by decide)) (cwV 1 hts gX14_newName_X14_is rfl rfl rfl (by decide +kernel) ⟨(Nat.le_of_ble_eq_true rfl), (Nat.le_of_ble_eq_true rfl)⟩) (q_pV hA hW hS (ci := 12) rfl rO_0) rfl rfl hl.1 rfl (lv_room (Nat.le_of_ble_eq_true rfl)) dX14_newName_79 ⟨Nat.le_of_ble_eq_true rfl, Nat.le_of_ble_eq_true rfl⟩) hS (fun r_79 f_79 n_79 H locs hp hW hS => ?_)
        obtain ⟨rfl, rfl, rfl⟩ := hp
        have hW : q_W E (rO E f M R_73) n H := hW
        refine lv_if_eq (tgt := 97) hx hb dX14_newName_82 (by decide) (fun c_82 => False.elim ((fun h9 => absurd h9 (b01_T (decide_eq_true (show (p_ci true 4 (p_ci true 2 u)).2.1 = 37 from eu)))) c_82)) (fun c_82 => ?_)
        refine lv_iload_n hx hb dX14_newName_85 rfl (lv_at hl 2 rfl) ?_
        refine lv_iload_n hx hb dX14_newName_86 rfl (lv_at hl 3 rfl) ?_
        refine lv_icmp_ge (tgt := 97) hx hb dX14_newName_87 (by decide) (fun c_87 => ?_) (fun c_87 => False.elim ((fun h9 => h9 (show nI 6 ≤ nI rc from (nI_leI (by decide) (by omega)).2 em)) c_87))
        have eS : (if u.2.1 = 37 then (if p_tak pN pn rN rc (Wd u.1) = true then p_ci true 2 u else p_ci (decide (6 ≤ rc)) 4 u) else u) = (p_ci true 2 u) := (if_pos eu).trans (if_pos (by rw [← hnw.2.1]; exact tak_T (Or.inl c_25) (by omega) (by omega)))
        obtain ⟨g9, hg9⟩ : ∃ z, z = r 7 := ⟨_, rfl⟩
        have T97 := hTK.up (j := 7) (g := g9) (by decide)
        have Q_97 : r_Q (rp r 7 g9) R_73 K T (p_ci true 4 (p_ci true 2 u)) tk nd cc ac tk_73 nd_73 cc_73 ac_73 := by rw [hg9, rp_id]; exact Q_73
        have ecc9 : p_ci true 4 (p_ci true 2 u) = p_ci true 2 u := ci_ci (by decide)
        rw [ecc9] at Q_97
        rw [ecc9] at ok_73
        refine lv_aload_n hx hb dX14_newName_97 rfl (lv_at hl 0 rfl) ?_
        refine lv_bipush (v := 40) hx hb dX14_newName_98 (by decide) ?_
        refine q_cv (va_runV (As := [.int 40]) (rest := []) ⟨hx, hb, hml, hown, hts⟩ (kX14_take l E (rO E f M R_73) n M R_73 K Wd T (p_ci true 2 u) tk_73 nd_73 cc_73 ac_73 37 40 rO_K (Q_97.tok T97) hT hKT hK41 Q_97.1 ok_73 rfl (by decide)) (cwV 1 hts gX14_newName_X14_take rfl rfl rfl (by decide +kernel) ⟨(Nat.le_of_ble_eq_true rfl), (Nat.le_of_ble_eq_true rfl)⟩) (q_pV hA hW hS (ci := 12) rfl rO_0) rfl rfl hl.1 rfl (lv_room (Nat.le_of_ble_eq_true rfl)) dX14_newName_100 ⟨Nat.le_of_ble_eq_true rfl, Nat.le_of_ble_eq_true rfl⟩) hS (fun f_100 n_100 H locs hp hW hS => ?_)
        obtain ⟨R_100, tk_100, nd_100, cc_100, ac_100, q_100, e7_100, e8_100, ec_100, ex_100, rfl, rfl⟩ := hp
        have G_100 : p_go K T (p_ci true 2 u) (p_take K 37 (p_ci true 2 u)) := (go_take hKT (by decide))
        have GG_100 := G_100 ok_73
        have ok_100 := GG_100.1
        have le_100 := GG_100.2.2.2.1
        have er_100 := GG_100.2.2.2.2
        have Q_100 := Q_97.trans q_100
        have T_100 := Q_100.tok T97
        have num_100 := Q_100.2.2
        unfold r_num at num_100
        have bt_100 := Q_100.1.1.2.1
        have bn_100 := Q_100.1.1.2.2.2.1
        have bc_100 := Q_100.1.1.2.2.2.2.2.1
        have ba_100 := Q_100.1.1.2.2.2.2.2.2.2
        have qn_100 := q_100.2.2
        unfold r_num at qn_100
        rw [rO_rO] at hW
        have hW : q_W E (rO E f M R_100) n H := hW
        exact q_vret hx hb hr hlocks hW hS ⟨g9, _, _, _, _, _, (by unfold p_newn; rw [eS]; exact Q_100), (e7_100.trans (e7_73.trans (e7_54.trans rfl))), (e8_100.trans (e8_73.trans (e8_54.trans rfl))), ⟨(ec_100.1.trans (ec_73.1.trans (ec_54.1.trans rfl))), (ec_100.2.trans (ec_73.2.trans (ec_54.2.trans rfl)))⟩, (fun h1 => ⟨by rw [← hnw.2.1]; exact ek, hnw.2.1.symm, fun h9 => absurd h9 (by omega), fun _ => hg9⟩), (fun i _ => by rw [hg9]), rfl, rfl⟩ (Nat.le_of_ble_eq_true rfl) (Nat.le_of_ble_eq_true rfl) dX14_newName_103
    · refine lv_aload_n hx hb dX14_newName_28 rfl (lv_at hl 0 rfl) ?_
      refine lv_aload_n hx hb dX14_newName_29 rfl (lv_at hl 0 rfl) ?_
      refine q_get hx hb hts hown hA hW iX14 rO_0 rfl 15 (by decide) (hts (.fieldLink RX14 32 "HighRecipesModel" "recipeName" "[I") (by decide +kernel)) (fun _ h9 => h9) (v := .ref (M + 7)) rfl dX14_newName_30 ?_
      refine lv_bipush (v := 6) hx hb dX14_newName_33 (by decide) ?_
      refine lv_aload_n hx hb dX14_newName_35 rfl (lv_at hl 0 rfl) ?_
      refine q_get hx hb hts hown hA hW iX14 rO_0 rfl 18 (by decide) (hts (.fieldLink RX14 42 "HighRecipesModel" "fresh" "LHighRecipesModel$Book;") (by decide +kernel)) (fun _ h9 => h9) (v := .ref (M + 25)) rfl dX14_newName_36 ?_
      refine q_getN hx hb hts hown hA hW iX13 rO_25 rfl 2 (by decide) (va_Nw.use rfl (hA.2.2.2.1 ("HighRecipesModel", 156, "HighRecipesModel$Book", "recipes", "I", "HighRecipesModel") (by decide +kernel))) (fun _ h9 => h9) (v := .int (nI rc)) (congrArg (fun z => some (Value.int z)) hrc9) dX14_newName_39 ?_
      refine va_mmin hx hb (hml.trans hl.1.symm) hown (hts (.methodLink RX14 57 Lib.Math.min.name) (by decide +kernel)) (hts (.static Lib.Math.min.name) (by decide +kernel)) (hts (.initialized "java/lang/Math") (by decide +kernel)) (hts (.code Lib.Math.min.name Lib.Math.min.code 2 (some .int)) (by decide +kernel)) (Nat.le_of_ble_eq_true rfl) (Nat.le_of_ble_eq_true rfl) (Nat.le_of_ble_eq_true rfl) (Nat.le_of_ble_eq_true rfl) dX14_newName_42 ?_
      rw [show (if nI rc < 6 then nI rc else 6) = nI rc from (q_min_n (a := 6) (b := rc) (by decide) (by omega)).trans (by rw [Nat.min_eq_right hrc])]
      refine q_ci (va_runV (As := [.ref (M + 7), .int (nI rc)]) (rest := []) ⟨hx, hb, hml, hown, hts⟩ (kX14_known_7 l E (rO E f M r) n M r K Wd T u tk nd cc ac rc rN rO_K hTK hT hKT hK41 Q0.1 hok (hnr (by omega)) hrc ek) (cwV 2 hts gX14_newName_X14_known rfl rfl rfl (by decide +kernel) ⟨(Nat.le_of_ble_eq_true rfl), (Nat.le_of_ble_eq_true rfl)⟩) (q_pV hA hW hS (ci := 12) rfl rO_0) rfl rfl hl.1 rfl (lv_room (Nat.le_of_ble_eq_true rfl)) dX14_newName_45 ⟨Nat.le_of_ble_eq_true rfl, Nat.le_of_ble_eq_true rfl⟩) hS (fun r_45 f_45 n_45 H locs hp hW hS => ?_)
      obtain ⟨rfl, rfl, rfl⟩ := hp
      have hW : q_W E (rO E f M r) n H := hW
      refine lv_iconst (v := (-1)) hx hb dX14_newName_48 (by decide) ?_
      refine lv_icmp_eq (tgt := 57) hx hb dX14_newName_49 (by decide) (fun c_49 => ?_) (fun c_49 => ?_)
      · refine lv_aload_n hx hb dX14_newName_57 rfl (lv_at hl 0 rfl) ?_
        refine lv_bipush (v := 40) hx hb dX14_newName_58 (by decide) ?_
        refine q_ci (va_runV (As := [.int 40]) (rest := []) ⟨hx, hb, hml, hown, hts⟩ (kX14_is l E (rO E f M r) n M r K Wd T u tk nd cc ac 37 40 rO_K hTK hT hKT hK41 Q0.1 hok rfl (by decide)) (cwV 1 hts gX14_newName_X14_is rfl rfl rfl (by decide +kernel) ⟨(Nat.le_of_ble_eq_true rfl), (Nat.le_of_ble_eq_true rfl)⟩) (q_pV hA hW hS (ci := 12) rfl rO_0) rfl rfl hl.1 rfl (lv_room (Nat.le_of_ble_eq_true rfl)) dX14_newName_60 ⟨Nat.le_of_ble_eq_true rfl, Nat.le_of_ble_eq_true rfl⟩) hS (fun r_60 f_60 n_60 H locs hp hW hS => ?_)
        obtain ⟨rfl, rfl, rfl⟩ := hp
        have hW : q_W E (rO E f M r) n H := hW
        refine lv_if_eq (tgt := 76) hx hb dX14_newName_63 (by decide) (fun c_63 => False.elim ((fun h9 => absurd h9 (b01_T (decide_eq_true (show u.2.1 = 37 from eu)))) c_63)) (fun c_63 => ?_)
        refine lv_iload_n hx hb dX14_newName_66 rfl (lv_at hl 2 rfl) ?_
        refine lv_iload_n hx hb dX14_newName_67 rfl (lv_at hl 3 rfl) ?_
        refine lv_icmp_ne (tgt := 76) hx hb dX14_newName_68 (by decide) (fun c_68 => ?_) (fun c_68 => ?_)
        · have em : ¬ 6 ≤ rc := fun h9 => c_68 (by rw [show rc = 6 by omega]; rfl)
          refine lv_aload_n hx hb dX14_newName_76 rfl (lv_at hl 0 rfl) ?_
          refine lv_bipush (v := 40) hx hb dX14_newName_77 (by decide) ?_
          refine q_ci (va_runV (As := [.int 40]) (rest := []) ⟨hx, hb, hml, hown, hts⟩ (kX14_is l E (rO E f M r) n M r K Wd T u tk nd cc ac 37 40 rO_K hTK hT hKT hK41 Q0.1 hok rfl (by decide)) (cwV 1 hts gX14_newName_X14_is rfl rfl rfl (by decide +kernel) ⟨(Nat.le_of_ble_eq_true rfl), (Nat.le_of_ble_eq_true rfl)⟩) (q_pV hA hW hS (ci := 12) rfl rO_0) rfl rfl hl.1 rfl (lv_room (Nat.le_of_ble_eq_true rfl)) dX14_newName_79 ⟨Nat.le_of_ble_eq_true rfl, Nat.le_of_ble_eq_true rfl⟩) hS (fun r_79 f_79 n_79 H locs hp hW hS => ?_)
          obtain ⟨rfl, rfl, rfl⟩ := hp
          have hW : q_W E (rO E f M r) n H := hW
          refine lv_if_eq (tgt := 97) hx hb dX14_newName_82 (by decide) (fun c_82 => False.elim ((fun h9 => absurd h9 (b01_T (decide_eq_true (show u.2.1 = 37 from eu)))) c_82)) (fun c_82 => ?_)
          refine lv_iload_n hx hb dX14_newName_85 rfl (lv_at hl 2 rfl) ?_
          refine lv_iload_n hx hb dX14_newName_86 rfl (lv_at hl 3 rfl) ?_
          refine lv_icmp_ge (tgt := 97) hx hb dX14_newName_87 (by decide) (fun c_87 => False.elim ((fun h9 => absurd ((nI_leI (by decide) (by omega)).1 (show nI 6 ≤ nI rc from h9)) em) c_87)) (fun c_87 => ?_)
          refine lv_aload_n hx hb dX14_newName_90 rfl (lv_at hl 1 rfl) ?_
          refine lv_iload_n hx hb dX14_newName_91 rfl (lv_at hl 2 rfl) ?_
          refine lv_aload_n hx hb dX14_newName_92 rfl (lv_at hl 0 rfl) ?_
          refine q_get hx hb hts hown hA hW iX14 rO_0 rfl 8 (by decide) (hts (.fieldLink RX14 120 "HighRecipesModel" "token" "I") (by decide +kernel)) (fun _ h9 => h9) (v := .int (nI tk)) (congrArg (fun z => some (Value.int z)) hP.1.1) dX14_newName_93 ?_
          refine q_ast hx hb hA hW hS (rO_7 (g := r 7) rfl) rc rfl (by omega) (by decide) dX14_newName_96 (fun H locs hW hS => ?_)
          have hW := q_sa 7 hW rfl rfl
          have eS : (if u.2.1 = 37 then (if p_tak pN pn rN rc (Wd u.1) = true then p_ci true 2 u else p_ci (decide (6 ≤ rc)) 4 u) else u) = u := (if_pos eu).trans ((if_neg (by rw [← hnw.2.1, tak_F c_25 c_49]; decide)).trans (by rw [decide_eq_false em]; rfl))
          have EQ9 : upd (r 7) rc (nI tk) = upd (r 7) rc (nI tk) := rfl
          obtain ⟨g9, hg9⟩ : ∃ z, z = upd (r 7) rc (nI tk) := ⟨_, rfl⟩
          have Q_97 := Q0.nmu (j := 7) (g := g9) (by decide)
          have T97 := hTK.up (j := 7) (g := g9) (by decide)
          rw [← hg9] at hW
          obtain ⟨R_97b, hR_97b⟩ : ∃ z, z = rp r 7 g9 := ⟨_, rfl⟩
          rw [← hR_97b] at hW
          have Q_97b : r_Q (rp r 7 g9) R_97b K T u tk nd cc ac tk nd cc ac := by rw [hR_97b]; exact Q_97
          have T_97b := Q_97b.tok T97
          have num_97b := Q_97b.2.2
          unfold r_num at num_97b
          have bt_97b := Q_97b.1.1.2.1
          have bn_97b := Q_97b.1.1.2.2.2.1
          have bc_97b := Q_97b.1.1.2.2.2.2.2.1
          have ba_97b := Q_97b.1.1.2.2.2.2.2.2.2
          refine lv_aload_n hx hb dX14_newName_97 rfl (lv_at hl 0 rfl) ?_
          refine lv_bipush (v := 40) hx hb dX14_newName_98 (by decide) ?_
          refine q_cv (va_runV (As := [.int 40]) (rest := []) ⟨hx, hb, hml, hown, hts⟩ (kX14_take l E (rO E f M R_97b) n M R_97b K Wd T u tk nd cc ac 37 40 rO_K T_97b hT hKT hK41 Q_97b.1 hok rfl (by decide)) (cwV 1 hts gX14_newName_X14_take rfl rfl rfl (by decide +kernel) ⟨(Nat.le_of_ble_eq_true rfl), (Nat.le_of_ble_eq_true rfl)⟩) (q_pV hA hW hS (ci := 12) rfl rO_0) rfl rfl hl.1 rfl (lv_room (Nat.le_of_ble_eq_true rfl)) dX14_newName_100 ⟨Nat.le_of_ble_eq_true rfl, Nat.le_of_ble_eq_true rfl⟩) hS (fun f_100 n_100 H locs hp hW hS => ?_)
          obtain ⟨R_100, tk_100, nd_100, cc_100, ac_100, q_100, e7_100, e8_100, ec_100, ex_100, rfl, rfl⟩ := hp
          have G_100 : p_go K T u (p_take K 37 u) := (go_take hKT (by decide))
          have GG_100 := G_100 hok
          have ok_100 := GG_100.1
          have le_100 := GG_100.2.2.2.1
          have er_100 := GG_100.2.2.2.2
          have Q_100 := Q_97b.trans q_100
          have T_100 := Q_100.tok T97
          have num_100 := Q_100.2.2
          unfold r_num at num_100
          have bt_100 := Q_100.1.1.2.1
          have bn_100 := Q_100.1.1.2.2.2.1
          have bc_100 := Q_100.1.1.2.2.2.2.2.1
          have ba_100 := Q_100.1.1.2.2.2.2.2.2.2
          have qn_100 := q_100.2.2
          unfold r_num at qn_100
          rw [rO_rO] at hW
          have hW : q_W E (rO E f M R_100) n H := hW
          exact q_vret hx hb hr hlocks hW hS ⟨g9, _, _, _, _, _, (by unfold p_newn; rw [eS]; exact Q_100), (e7_100.trans (show R_97b 107 0 = r 107 0 from by rw [hR_97b]; exact rfl)), (e8_100.trans (show R_97b 108 0 = r 108 0 from by rw [hR_97b]; exact rfl)), ⟨(ec_100.1.trans rfl), (ec_100.2.trans rfl)⟩, (fun h1 => ⟨by rw [← hnw.2.1]; exact ek, hnw.2.1.symm, fun _ => hg9.trans EQ9, fun h9 => absurd (by omega) h9⟩), (fun i hi => by rw [hg9, EQ9]; exact z_un (by omega)), rfl, rfl⟩ (Nat.le_of_ble_eq_true rfl) (Nat.le_of_ble_eq_true rfl) dX14_newName_103
        · have em : 6 ≤ rc := Nat.le_of_eq ((nI_eq (by omega) (by decide)).1 c_68).symm
          refine lv_aload_n hx hb dX14_newName_71 rfl (lv_at hl 0 rfl) ?_
          refine lv_iconst (v := 4) hx hb dX14_newName_72 (by decide) ?_
          refine q_cv (va_runV (As := [.int 4]) (rest := []) ⟨hx, hb, hml, hown, hts⟩ (kX14_mark l E (rO E f M r) n M r K Wd T u tk nd cc ac 4 rO_K hTK hT hKT hK41 Q0.1 hok) (cwV 1 hts gX14_newName_X14_mark rfl rfl rfl (by decide +kernel) ⟨(Nat.le_of_ble_eq_true rfl), (Nat.le_of_ble_eq_true rfl)⟩) (q_pV hA hW hS (ci := 12) rfl rO_0) rfl rfl hl.1 rfl (lv_room (Nat.le_of_ble_eq_true rfl)) dX14_newName_73 ⟨Nat.le_of_ble_eq_true rfl, Nat.le_of_ble_eq_true rfl⟩) hS (fun f_73 n_73 H locs hp hW hS => ?_)
          obtain ⟨R_73, tk_73, nd_73, cc_73, ac_73, q_73, e7_73, e8_73, ec_73, ex_73, rfl, rfl⟩ := hp
          have G_73 : p_go K T u (p_ci true 4 u) := (go_ci (by decide) (by decide))
          have GG_73 := G_73 hok
          have ok_73 := GG_73.1
          have le_73 := GG_73.2.2.2.1
          have er_73 := GG_73.2.2.2.2
          have Q_73 := Q0.trans q_73
          have T_73 := Q_73.tok hTK
          have num_73 := Q_73.2.2
          unfold r_num at num_73
          have bt_73 := Q_73.1.1.2.1
          have bn_73 := Q_73.1.1.2.2.2.1
          have bc_73 := Q_73.1.1.2.2.2.2.2.1
          have ba_73 := Q_73.1.1.2.2.2.2.2.2.2
          have qn_73 := q_73.2.2
          unfold r_num at qn_73
          rw [rO_rO] at hW
          have hW : q_W E (rO E f M R_73) n H := hW
          refine lv_aload_n hx hb dX14_newName_76 rfl (lv_at hl 0 rfl) ?_
          refine lv_bipush (v := 40) hx hb dX14_newName_77 (by decide) ?_
          refine q_ci (va_runV (As := [.int 40]) (rest := []) ⟨hx, hb, hml, hown, hts⟩ (kX14_is l E (rO E f M R_73) n M R_73 K Wd T (p_ci true 4 u) tk_73 nd_73 cc_73 ac_73 37 40 rO_K T_73 hT hKT hK41 Q_73.1 ok_73 rfl (by decide)) (cwV 1 hts gX14_newName_X14_is rfl rfl rfl (by decide +kernel) ⟨(Nat.le_of_ble_eq_true rfl), (Nat.le_of_ble_eq_true rfl)⟩) (q_pV hA hW hS (ci := 12) rfl rO_0) rfl rfl hl.1 rfl (lv_room (Nat.le_of_ble_eq_true rfl)) dX14_newName_79 ⟨Nat.le_of_ble_eq_true rfl, Nat.le_of_ble_eq_true rfl⟩) hS (fun r_79 f_79 n_79 H locs hp hW hS => ?_)
          obtain ⟨rfl, rfl, rfl⟩ := hp
          have hW : q_W E (rO E f M R_73) n H := hW
          refine lv_if_eq (tgt := 97) hx hb dX14_newName_82 (by decide) (fun c_82 => False.elim ((fun h9 => absurd h9 (b01_T (decide_eq_true (show (p_ci true 4 u).2.1 = 37 from eu)))) c_82)) (fun c_82 => ?_)
          refine lv_iload_n hx hb dX14_newName_85 rfl (lv_at hl 2 rfl) ?_
          refine lv_iload_n hx hb dX14_newName_86 rfl (lv_at hl 3 rfl) ?_
          refine lv_icmp_ge (tgt := 97) hx hb dX14_newName_87 (by decide) (fun c_87 => ?_) (fun c_87 => False.elim ((fun h9 => h9 (show nI 6 ≤ nI rc from (nI_leI (by decide) (by omega)).2 em)) c_87))
          have eS : (if u.2.1 = 37 then (if p_tak pN pn rN rc (Wd u.1) = true then p_ci true 2 u else p_ci (decide (6 ≤ rc)) 4 u) else u) = (p_ci true 4 u) := (if_pos eu).trans ((if_neg (by rw [← hnw.2.1, tak_F c_25 c_49]; decide)).trans (by rw [decide_eq_true em]))
          obtain ⟨g9, hg9⟩ : ∃ z, z = r 7 := ⟨_, rfl⟩
          have T97 := hTK.up (j := 7) (g := g9) (by decide)
          have Q_97 : r_Q (rp r 7 g9) R_73 K T (p_ci true 4 u) tk nd cc ac tk_73 nd_73 cc_73 ac_73 := by rw [hg9, rp_id]; exact Q_73
          refine lv_aload_n hx hb dX14_newName_97 rfl (lv_at hl 0 rfl) ?_
          refine lv_bipush (v := 40) hx hb dX14_newName_98 (by decide) ?_
          refine q_cv (va_runV (As := [.int 40]) (rest := []) ⟨hx, hb, hml, hown, hts⟩ (kX14_take l E (rO E f M R_73) n M R_73 K Wd T (p_ci true 4 u) tk_73 nd_73 cc_73 ac_73 37 40 rO_K (Q_97.tok T97) hT hKT hK41 Q_97.1 ok_73 rfl (by decide)) (cwV 1 hts gX14_newName_X14_take rfl rfl rfl (by decide +kernel) ⟨(Nat.le_of_ble_eq_true rfl), (Nat.le_of_ble_eq_true rfl)⟩) (q_pV hA hW hS (ci := 12) rfl rO_0) rfl rfl hl.1 rfl (lv_room (Nat.le_of_ble_eq_true rfl)) dX14_newName_100 ⟨Nat.le_of_ble_eq_true rfl, Nat.le_of_ble_eq_true rfl⟩) hS (fun f_100 n_100 H locs hp hW hS => ?_)
          obtain ⟨R_100, tk_100, nd_100, cc_100, ac_100, q_100, e7_100, e8_100, ec_100, ex_100, rfl, rfl⟩ := hp
          have G_100 : p_go K T (p_ci true 4 u) (p_take K 37 (p_ci true 4 u)) := (go_take hKT (by decide))
          have GG_100 := G_100 ok_73
          have ok_100 := GG_100.1
          have le_100 := GG_100.2.2.2.1
          have er_100 := GG_100.2.2.2.2
          have Q_100 := Q_97.trans q_100
          have T_100 := Q_100.tok T97
          have num_100 := Q_100.2.2
          unfold r_num at num_100
          have bt_100 := Q_100.1.1.2.1
          have bn_100 := Q_100.1.1.2.2.2.1
          have bc_100 := Q_100.1.1.2.2.2.2.2.1
          have ba_100 := Q_100.1.1.2.2.2.2.2.2.2
          have qn_100 := q_100.2.2
          unfold r_num at qn_100
          rw [rO_rO] at hW
          have hW : q_W E (rO E f M R_100) n H := hW
          exact q_vret hx hb hr hlocks hW hS ⟨g9, _, _, _, _, _, (by unfold p_newn; rw [eS]; exact Q_100), (e7_100.trans (e7_73.trans rfl)), (e8_100.trans (e8_73.trans rfl)), ⟨(ec_100.1.trans (ec_73.1.trans rfl)), (ec_100.2.trans (ec_73.2.trans rfl))⟩, (fun h1 => ⟨by rw [← hnw.2.1]; exact ek, hnw.2.1.symm, fun h9 => absurd h9 (by omega), fun _ => hg9⟩), (fun i _ => by rw [hg9]), rfl, rfl⟩ (Nat.le_of_ble_eq_true rfl) (Nat.le_of_ble_eq_true rfl) dX14_newName_103
      · refine lv_aload_n hx hb dX14_newName_52 rfl (lv_at hl 0 rfl) ?_
        refine lv_iconst (v := 2) hx hb dX14_newName_53 (by decide) ?_
        refine q_cv (va_runV (As := [.int 2]) (rest := []) ⟨hx, hb, hml, hown, hts⟩ (kX14_mark l E (rO E f M r) n M r K Wd T u tk nd cc ac 2 rO_K hTK hT hKT hK41 Q0.1 hok) (cwV 1 hts gX14_newName_X14_mark rfl rfl rfl (by decide +kernel) ⟨(Nat.le_of_ble_eq_true rfl), (Nat.le_of_ble_eq_true rfl)⟩) (q_pV hA hW hS (ci := 12) rfl rO_0) rfl rfl hl.1 rfl (lv_room (Nat.le_of_ble_eq_true rfl)) dX14_newName_54 ⟨Nat.le_of_ble_eq_true rfl, Nat.le_of_ble_eq_true rfl⟩) hS (fun f_54 n_54 H locs hp hW hS => ?_)
        obtain ⟨R_54, tk_54, nd_54, cc_54, ac_54, q_54, e7_54, e8_54, ec_54, ex_54, rfl, rfl⟩ := hp
        have G_54 : p_go K T u (p_ci true 2 u) := (go_ci (by decide) (by decide))
        have GG_54 := G_54 hok
        have ok_54 := GG_54.1
        have le_54 := GG_54.2.2.2.1
        have er_54 := GG_54.2.2.2.2
        have Q_54 := Q0.trans q_54
        have T_54 := Q_54.tok hTK
        have num_54 := Q_54.2.2
        unfold r_num at num_54
        have bt_54 := Q_54.1.1.2.1
        have bn_54 := Q_54.1.1.2.2.2.1
        have bc_54 := Q_54.1.1.2.2.2.2.2.1
        have ba_54 := Q_54.1.1.2.2.2.2.2.2.2
        have qn_54 := q_54.2.2
        unfold r_num at qn_54
        rw [rO_rO] at hW
        have hW : q_W E (rO E f M R_54) n H := hW
        refine lv_aload_n hx hb dX14_newName_57 rfl (lv_at hl 0 rfl) ?_
        refine lv_bipush (v := 40) hx hb dX14_newName_58 (by decide) ?_
        refine q_ci (va_runV (As := [.int 40]) (rest := []) ⟨hx, hb, hml, hown, hts⟩ (kX14_is l E (rO E f M R_54) n M R_54 K Wd T (p_ci true 2 u) tk_54 nd_54 cc_54 ac_54 37 40 rO_K T_54 hT hKT hK41 Q_54.1 ok_54 rfl (by decide)) (cwV 1 hts gX14_newName_X14_is rfl rfl rfl (by decide +kernel) ⟨(Nat.le_of_ble_eq_true rfl), (Nat.le_of_ble_eq_true rfl)⟩) (q_pV hA hW hS (ci := 12) rfl rO_0) rfl rfl hl.1 rfl (lv_room (Nat.le_of_ble_eq_true rfl)) dX14_newName_60 ⟨Nat.le_of_ble_eq_true rfl, Nat.le_of_ble_eq_true rfl⟩) hS (fun r_60 f_60 n_60 H locs hp hW hS => ?_)
        obtain ⟨rfl, rfl, rfl⟩ := hp
        have hW : q_W E (rO E f M R_54) n H := hW
        refine lv_if_eq (tgt := 76) hx hb dX14_newName_63 (by decide) (fun c_63 => False.elim ((fun h9 => absurd h9 (b01_T (decide_eq_true (show (p_ci true 2 u).2.1 = 37 from eu)))) c_63)) (fun c_63 => ?_)
        refine lv_iload_n hx hb dX14_newName_66 rfl (lv_at hl 2 rfl) ?_
        refine lv_iload_n hx hb dX14_newName_67 rfl (lv_at hl 3 rfl) ?_
        refine lv_icmp_ne (tgt := 76) hx hb dX14_newName_68 (by decide) (fun c_68 => ?_) (fun c_68 => ?_)
        · have em : ¬ 6 ≤ rc := fun h9 => c_68 (by rw [show rc = 6 by omega]; rfl)
          refine lv_aload_n hx hb dX14_newName_76 rfl (lv_at hl 0 rfl) ?_
          refine lv_bipush (v := 40) hx hb dX14_newName_77 (by decide) ?_
          refine q_ci (va_runV (As := [.int 40]) (rest := []) ⟨hx, hb, hml, hown, hts⟩ (kX14_is l E (rO E f M R_54) n M R_54 K Wd T (p_ci true 2 u) tk_54 nd_54 cc_54 ac_54 37 40 rO_K T_54 hT hKT hK41 Q_54.1 ok_54 rfl (by decide)) (cwV 1 hts gX14_newName_X14_is rfl rfl rfl (by decide +kernel) ⟨(Nat.le_of_ble_eq_true rfl), (Nat.le_of_ble_eq_true rfl)⟩) (q_pV hA hW hS (ci := 12) rfl rO_0) rfl rfl hl.1 rfl (lv_room (Nat.le_of_ble_eq_true rfl)) dX14_newName_79 ⟨Nat.le_of_ble_eq_true rfl, Nat.le_of_ble_eq_true rfl⟩) hS (fun r_79 f_79 n_79 H locs hp hW hS => ?_)
          obtain ⟨rfl, rfl, rfl⟩ := hp
          have hW : q_W E (rO E f M R_54) n H := hW
          refine lv_if_eq (tgt := 97) hx hb dX14_newName_82 (by decide) (fun c_82 => False.elim ((fun h9 => absurd h9 (b01_T (decide_eq_true (show (p_ci true 2 u).2.1 = 37 from eu)))) c_82)) (fun c_82 => ?_)
          refine lv_iload_n hx hb dX14_newName_85 rfl (lv_at hl 2 rfl) ?_
          refine lv_iload_n hx hb dX14_newName_86 rfl (lv_at hl 3 rfl) ?_
          refine lv_icmp_ge (tgt := 97) hx hb dX14_newName_87 (by decide) (fun c_87 => False.elim ((fun h9 => absurd ((nI_leI (by decide) (by omega)).1 (show nI 6 ≤ nI rc from h9)) em) c_87)) (fun c_87 => ?_)
          refine lv_aload_n hx hb dX14_newName_90 rfl (lv_at hl 1 rfl) ?_
          refine lv_iload_n hx hb dX14_newName_91 rfl (lv_at hl 2 rfl) ?_
          refine lv_aload_n hx hb dX14_newName_92 rfl (lv_at hl 0 rfl) ?_
          refine q_get hx hb hts hown hA hW iX14 rO_0 rfl 8 (by decide) (hts (.fieldLink RX14 120 "HighRecipesModel" "token" "I") (by decide +kernel)) (fun _ h9 => h9) (v := .int (nI tk_54)) (congrArg (fun z => some (Value.int z)) Q_54.1.1.1) dX14_newName_93 ?_
          refine q_ast hx hb hA hW hS (rO_7 (g := R_54 7) rfl) rc rfl (by omega) (by decide) dX14_newName_96 (fun H locs hW hS => ?_)
          have hW := q_sa 7 hW rfl rfl
          have eS : (if u.2.1 = 37 then (if p_tak pN pn rN rc (Wd u.1) = true then p_ci true 2 u else p_ci (decide (6 ≤ rc)) 4 u) else u) = (p_ci true 2 u) := (if_pos eu).trans (if_pos (by rw [← hnw.2.1]; exact tak_T (Or.inr c_49) (by omega) (by omega)))
          have EQ9 : upd (R_54 7) rc (nI tk_54) = upd (r 7) rc (nI tk) := by rw [Q_54.2.1.1 7 (by decide) (by decide) (by decide), (Q_54.1.nw (show u.2.1 ≠ 40 by omega)).2.1, hnw.2.1]; rfl
          obtain ⟨g9, hg9⟩ : ∃ z, z = upd (R_54 7) rc (nI tk_54) := ⟨_, rfl⟩
          have Q_97 := Q_54.nmu (j := 7) (g := g9) (by decide)
          have T97 := hTK.up (j := 7) (g := g9) (by decide)
          rw [← hg9] at hW
          obtain ⟨R_97b, hR_97b⟩ : ∃ z, z = rp R_54 7 g9 := ⟨_, rfl⟩
          rw [← hR_97b] at hW
          have Q_97b : r_Q (rp r 7 g9) R_97b K T (p_ci true 2 u) tk nd cc ac tk_54 nd_54 cc_54 ac_54 := by rw [hR_97b]; exact Q_97
          have T_97b := Q_97b.tok T97
          have num_97b := Q_97b.2.2
          unfold r_num at num_97b
          have bt_97b := Q_97b.1.1.2.1
          have bn_97b := Q_97b.1.1.2.2.2.1
          have bc_97b := Q_97b.1.1.2.2.2.2.2.1
          have ba_97b := Q_97b.1.1.2.2.2.2.2.2.2
          refine lv_aload_n hx hb dX14_newName_97 rfl (lv_at hl 0 rfl) ?_
          refine lv_bipush (v := 40) hx hb dX14_newName_98 (by decide) ?_
          refine q_cv (va_runV (As := [.int 40]) (rest := []) ⟨hx, hb, hml, hown, hts⟩ (kX14_take l E (rO E f M R_97b) n M R_97b K Wd T (p_ci true 2 u) tk_54 nd_54 cc_54 ac_54 37 40 rO_K T_97b hT hKT hK41 Q_97b.1 ok_54 rfl (by decide)) (cwV 1 hts gX14_newName_X14_take rfl rfl rfl (by decide +kernel) ⟨(Nat.le_of_ble_eq_true rfl), (Nat.le_of_ble_eq_true rfl)⟩) (q_pV hA hW hS (ci := 12) rfl rO_0) rfl rfl hl.1 rfl (lv_room (Nat.le_of_ble_eq_true rfl)) dX14_newName_100 ⟨Nat.le_of_ble_eq_true rfl, Nat.le_of_ble_eq_true rfl⟩) hS (fun f_100 n_100 H locs hp hW hS => ?_)
          obtain ⟨R_100, tk_100, nd_100, cc_100, ac_100, q_100, e7_100, e8_100, ec_100, ex_100, rfl, rfl⟩ := hp
          have G_100 : p_go K T (p_ci true 2 u) (p_take K 37 (p_ci true 2 u)) := (go_take hKT (by decide))
          have GG_100 := G_100 ok_54
          have ok_100 := GG_100.1
          have le_100 := GG_100.2.2.2.1
          have er_100 := GG_100.2.2.2.2
          have Q_100 := Q_97b.trans q_100
          have T_100 := Q_100.tok T97
          have num_100 := Q_100.2.2
          unfold r_num at num_100
          have bt_100 := Q_100.1.1.2.1
          have bn_100 := Q_100.1.1.2.2.2.1
          have bc_100 := Q_100.1.1.2.2.2.2.2.1
          have ba_100 := Q_100.1.1.2.2.2.2.2.2.2
          have qn_100 := q_100.2.2
          unfold r_num at qn_100
          rw [rO_rO] at hW
          have hW : q_W E (rO E f M R_100) n H := hW
          exact q_vret hx hb hr hlocks hW hS ⟨g9, _, _, _, _, _, (by unfold p_newn; rw [eS]; exact Q_100), (e7_100.trans (show R_97b 107 0 = r 107 0 from by rw [hR_97b]; exact (e7_54.trans rfl))), (e8_100.trans (show R_97b 108 0 = r 108 0 from by rw [hR_97b]; exact (e8_54.trans rfl))), ⟨(ec_100.1.trans (ec_54.1.trans rfl)), (ec_100.2.trans (ec_54.2.trans rfl))⟩, (fun h1 => ⟨by rw [← hnw.2.1]; exact ek, hnw.2.1.symm, fun _ => hg9.trans EQ9, fun h9 => absurd (by omega) h9⟩), (fun i hi => by rw [hg9, EQ9]; exact z_un (by omega)), rfl, rfl⟩ (Nat.le_of_ble_eq_true rfl) (Nat.le_of_ble_eq_true rfl) dX14_newName_103
        · have em : 6 ≤ rc := Nat.le_of_eq ((nI_eq (by omega) (by decide)).1 c_68).symm
          refine lv_aload_n hx hb dX14_newName_71 rfl (lv_at hl 0 rfl) ?_
          refine lv_iconst (v := 4) hx hb dX14_newName_72 (by decide) ?_
          refine q_cv (va_runV (As := [.int 4]) (rest := []) ⟨hx, hb, hml, hown, hts⟩ (kX14_mark l E (rO E f M R_54) n M R_54 K Wd T (p_ci true 2 u) tk_54 nd_54 cc_54 ac_54 4 rO_K T_54 hT hKT hK41 Q_54.1 ok_54) (cwV 1 hts gX14_newName_X14_mark rfl rfl rfl (by decide +kernel) ⟨(Nat.le_of_ble_eq_true rfl), (Nat.le_of_ble_eq_true rfl)⟩) (q_pV hA hW hS (ci := 12) rfl rO_0) rfl rfl hl.1 rfl (lv_room (Nat.le_of_ble_eq_true rfl)) dX14_newName_73 ⟨Nat.le_of_ble_eq_true rfl, Nat.le_of_ble_eq_true rfl⟩) hS (fun f_73 n_73 H locs hp hW hS => ?_)
          obtain ⟨R_73, tk_73, nd_73, cc_73, ac_73, q_73, e7_73, e8_73, ec_73, ex_73, rfl, rfl⟩ := hp
          have G_73 : p_go K T (p_ci true 2 u) (p_ci true 4 (p_ci true 2 u)) := (go_ci (by decide) (by decide))
          have GG_73 := G_73 ok_54
          have ok_73 := GG_73.1
          have le_73 := GG_73.2.2.2.1
          have er_73 := GG_73.2.2.2.2
          have Q_73 := Q_54.trans q_73
          have T_73 := Q_73.tok hTK
          have num_73 := Q_73.2.2
          unfold r_num at num_73
          have bt_73 := Q_73.1.1.2.1
          have bn_73 := Q_73.1.1.2.2.2.1
          have bc_73 := Q_73.1.1.2.2.2.2.2.1
          have ba_73 := Q_73.1.1.2.2.2.2.2.2.2
          have qn_73 := q_73.2.2
          unfold r_num at qn_73
          rw [rO_rO] at hW
          have hW : q_W E (rO E f M R_73) n H := hW
          refine lv_aload_n hx hb dX14_newName_76 rfl (lv_at hl 0 rfl) ?_
          refine lv_bipush (v := 40) hx hb dX14_newName_77 (by decide) ?_
          refine q_ci (va_runV (As := [.int 40]) (rest := []) ⟨hx, hb, hml, hown, hts⟩ (kX14_is l E (rO E f M R_73) n M R_73 K Wd T (p_ci true 4 (p_ci true 2 u)) tk_73 nd_73 cc_73 ac_73 37 40 rO_K T_73 hT hKT hK41 Q_73.1 ok_73 rfl (by decide)) (cwV 1 hts gX14_newName_X14_is rfl rfl rfl (by decide +kernel) ⟨(Nat.le_of_ble_eq_true rfl), (Nat.le_of_ble_eq_true rfl)⟩) (q_pV hA hW hS (ci := 12) rfl rO_0) rfl rfl hl.1 rfl (lv_room (Nat.le_of_ble_eq_true rfl)) dX14_newName_79 ⟨Nat.le_of_ble_eq_true rfl, Nat.le_of_ble_eq_true rfl⟩) hS (fun r_79 f_79 n_79 H locs hp hW hS => ?_)
          obtain ⟨rfl, rfl, rfl⟩ := hp
          have hW : q_W E (rO E f M R_73) n H := hW
          refine lv_if_eq (tgt := 97) hx hb dX14_newName_82 (by decide) (fun c_82 => False.elim ((fun h9 => absurd h9 (b01_T (decide_eq_true (show (p_ci true 4 (p_ci true 2 u)).2.1 = 37 from eu)))) c_82)) (fun c_82 => ?_)
          refine lv_iload_n hx hb dX14_newName_85 rfl (lv_at hl 2 rfl) ?_
          refine lv_iload_n hx hb dX14_newName_86 rfl (lv_at hl 3 rfl) ?_
          refine lv_icmp_ge (tgt := 97) hx hb dX14_newName_87 (by decide) (fun c_87 => ?_) (fun c_87 => False.elim ((fun h9 => h9 (show nI 6 ≤ nI rc from (nI_leI (by decide) (by omega)).2 em)) c_87))
          have eS : (if u.2.1 = 37 then (if p_tak pN pn rN rc (Wd u.1) = true then p_ci true 2 u else p_ci (decide (6 ≤ rc)) 4 u) else u) = (p_ci true 2 u) := (if_pos eu).trans (if_pos (by rw [← hnw.2.1]; exact tak_T (Or.inr c_49) (by omega) (by omega)))
          obtain ⟨g9, hg9⟩ : ∃ z, z = r 7 := ⟨_, rfl⟩
          have T97 := hTK.up (j := 7) (g := g9) (by decide)
          have Q_97 : r_Q (rp r 7 g9) R_73 K T (p_ci true 4 (p_ci true 2 u)) tk nd cc ac tk_73 nd_73 cc_73 ac_73 := by rw [hg9, rp_id]; exact Q_73
          have ecc9 : p_ci true 4 (p_ci true 2 u) = p_ci true 2 u := ci_ci (by decide)
          rw [ecc9] at Q_97
          rw [ecc9] at ok_73
          refine lv_aload_n hx hb dX14_newName_97 rfl (lv_at hl 0 rfl) ?_
          refine lv_bipush (v := 40) hx hb dX14_newName_98 (by decide) ?_
          refine q_cv (va_runV (As := [.int 40]) (rest := []) ⟨hx, hb, hml, hown, hts⟩ (kX14_take l E (rO E f M R_73) n M R_73 K Wd T (p_ci true 2 u) tk_73 nd_73 cc_73 ac_73 37 40 rO_K (Q_97.tok T97) hT hKT hK41 Q_97.1 ok_73 rfl (by decide)) (cwV 1 hts gX14_newName_X14_take rfl rfl rfl (by decide +kernel) ⟨(Nat.le_of_ble_eq_true rfl), (Nat.le_of_ble_eq_true rfl)⟩) (q_pV hA hW hS (ci := 12) rfl rO_0) rfl rfl hl.1 rfl (lv_room (Nat.le_of_ble_eq_true rfl)) dX14_newName_100 ⟨Nat.le_of_ble_eq_true rfl, Nat.le_of_ble_eq_true rfl⟩) hS (fun f_100 n_100 H locs hp hW hS => ?_)
          obtain ⟨R_100, tk_100, nd_100, cc_100, ac_100, q_100, e7_100, e8_100, ec_100, ex_100, rfl, rfl⟩ := hp
          have G_100 : p_go K T (p_ci true 2 u) (p_take K 37 (p_ci true 2 u)) := (go_take hKT (by decide))
          have GG_100 := G_100 ok_73
          have ok_100 := GG_100.1
          have le_100 := GG_100.2.2.2.1
          have er_100 := GG_100.2.2.2.2
          have Q_100 := Q_97.trans q_100
          have T_100 := Q_100.tok T97
          have num_100 := Q_100.2.2
          unfold r_num at num_100
          have bt_100 := Q_100.1.1.2.1
          have bn_100 := Q_100.1.1.2.2.2.1
          have bc_100 := Q_100.1.1.2.2.2.2.2.1
          have ba_100 := Q_100.1.1.2.2.2.2.2.2.2
          have qn_100 := q_100.2.2
          unfold r_num at qn_100
          rw [rO_rO] at hW
          have hW : q_W E (rO E f M R_100) n H := hW
          exact q_vret hx hb hr hlocks hW hS ⟨g9, _, _, _, _, _, (by unfold p_newn; rw [eS]; exact Q_100), (e7_100.trans (e7_73.trans (e7_54.trans rfl))), (e8_100.trans (e8_73.trans (e8_54.trans rfl))), ⟨(ec_100.1.trans (ec_73.1.trans (ec_54.1.trans rfl))), (ec_100.2.trans (ec_73.2.trans (ec_54.2.trans rfl)))⟩, (fun h1 => ⟨by rw [← hnw.2.1]; exact ek, hnw.2.1.symm, fun h9 => absurd h9 (by omega), fun _ => hg9⟩), (fun i _ => by rw [hg9]), rfl, rfl⟩ (Nat.le_of_ble_eq_true rfl) (Nat.le_of_ble_eq_true rfl) dX14_newName_103
