/-! values -/
theorem b_in_vs : ∀ k, k < 41 → b_in (nI (m_kd k)) 56 59 = b_vsign k := by decide +kernel
theorem b_in_cs : ∀ k, k < 41 → b_in (nI (m_kd k)) 53 55 = b_csign k := by decide +kernel
theorem b_in_as : ∀ k, k < 41 → b_in (nI (m_kd k)) 11 16 = (decide (11 ≤ k) && decide (k ≤ 16)) := by decide +kernel
theorem r_Q.cg {r r1 : q_R} {K : Nat → Nat} {T : Nat} {u1 u2 : p_S} {tk nd cc ac tk1 nd1 cc1 ac1 : Nat} (h : r_Q r r1 K T u1 tk nd cc ac tk1 nd1 cc1 ac1) (hw : r1 104 0 = 1) (h1 : u2.1 = u1.1) (h2 : u2.2.1 = 40) : r_Q r r1 K T u2 tk nd cc ac tk1 nd1 cc1 ac1 := by
  obtain ⟨⟨hn, hc⟩, hG, hm⟩ := h
  refine ⟨⟨hn, Or.inl ?_⟩, hG, hm⟩
  rcases hc with ⟨w1, w2, w3, w4⟩ | ⟨w1, -⟩
  · exact ⟨w1, h2, w3, by rw [h1]; exact w4⟩
  · rw [hw] at w1
    exact absurd w1 (by decide)
theorem val_bad {K : Nat → Nat} {Wd pN : Nat → Int64} {pn : Nat} {d : Nat} {u : p_S} (h : u.2.1 = 40) : (p_val K Wd pN pn d u).1 = u.1 ∧ (p_val K Wd pN pn d u).2.1 = 40 := by
  have z : ∀ (V : p_S → p_S) (b : Bool), p_val1 K Wd pN pn V b u = p_step K false (p_new u) := by
    intro V b
    unfold p_val1
    rw [h, if_neg (by decide), if_neg (by decide), if_neg (by omega)]
    rfl
  cases d with
  | zero => rw [show p_val K Wd pN pn 0 u = p_step K false (p_new u) from z id false]; exact ⟨rfl, rfl⟩
  | succ d => rw [show p_val K Wd pN pn (d + 1) u = p_step K false (p_new u) from z _ true]; exact ⟨rfl, rfl⟩
theorem step_bad {K : Nat → Nat} {b : Bool} {u : p_S} (h : b = false) : (p_step K b u).1 = u.1 ∧ (p_step K b u).2.1 = 40 := by subst h; exact ⟨rfl, rfl⟩
theorem take_bad {K : Nat → Nat} {w : Nat} {u : p_S} (h : u.2.1 = 40) (hw : w < 40) : (p_take K w u).1 = u.1 ∧ (p_take K w u).2.1 = 40 := step_bad (decide_eq_false (by omega))
theorem mid_bad {K : Nat → Nat} {u : p_S} (h : b_vsign u.2.1 = false) : (p_mid K u).1 = u.1 ∧ (p_mid K u).2.1 = 40 := step_bad h

set_option maxHeartbeats 4000000 in
set_option maxRecDepth 100000 in
theorem kX14_node (l : Launch) (E : q_E) (f : q_H) (n : Nat) (M : Nat) (r : q_R) (nd : Nat) (x y z : Int32)  (hm : RM E f M r) (hnd9 : (r 134 0) = nI nd) (hnd4 : nd < 400) : Met l yX14_node wsX14_node ({ frames := 0, cells := 0, slots := 0, locals := 0 }) (q_P E [.ref M, .int x, .int y, .int z] f n) (q_Qi E (fun r0 f1 n1 => nI nd = r0 ∧ rO E f M (rp (rp (rp (rp r 39 (upd (r 39) nd x)) 40 (upd (r 40) nd y)) 41 (upd (r 41) nd z)) 134 (fun _ => nI (nd + 1))) = f1 ∧ n = n1)) 0 0 (q_ge E) := by
  refine Met.ofW (cc := cX14_node) (maxL := 5) (ret := (some .int)) (by decide) rfl ?_
  intro p e s m args below meth c s₁ B hml hv
  obtain ⟨rfl, hA, hW⟩ := hv
  have hx := B.exec
  have hb := B.bytes
  have hr := B.returns
  have hts := atoms_spec (ws := wsX14_node) B.pre
  have hown : s.vm.findClass RX14 = some m.cls := findClass_of_methodNamed B.named
  have hlocks := B.notSynchronized
  have hS : va_S (q_ge E) s.heap s.heap [] := va_S.rf
  have iX13 : ∀ w ∈ wsX130, w ∈ wsX14_node := by decide +kernel
  have iX14 : ∀ w ∈ wsX140, w ∈ wsX14_node := by decide +kernel
  have hl := lv_entry ([.ref M, .int x, .int y, .int z]) (n := 5) (Nat.le_of_ble_eq_true rfl)
  rw [lg_entry_eq]
  generalize (lg_sl ([.ref M, .int x, .int y, .int z]) ++ List.replicate (5 - (lg_sl ([.ref M, .int x, .int y, .int z])).length) Slot.unset).toArray = ls at hl ⊢
  have hl : lv_has ls 5 [(0, .ref M), (1, .int x), (2, .int y), (3, .int z)] := hl
  have hmE := hm.eq
  rw [hm.eq] at hW
  refine lv_aload_n hx hb dX14_node_0 rfl (lv_at hl 0 rfl) ?_
  refine q_get hx hb hts hown hA hW iX14 rO_0 rfl 18 (by decide) (hts (.fieldLink RX14 42 "HighRecipesModel" "fresh" "LHighRecipesModel$Book;") (by decide +kernel)) (fun _ h9 => h9) (v := .ref (M + 25)) rfl dX14_node_1 ?_
  refine q_getN hx hb hts hown hA hW iX13 rO_25 rfl 17 (by decide) (va_Nw.use rfl (hA.2.2.2.1 ("HighRecipesModel", 159, "HighRecipesModel$Book", "nodes", "I", "HighRecipesModel") (by decide +kernel))) (fun _ h9 => h9) (v := .int (nI nd)) (congrArg (fun z => some (Value.int z)) hnd9) dX14_node_4 ?_
  refine lv_istore (lv' := [(4, .int (nI nd)), (0, .ref M), (1, .int x), (2, .int y), (3, .int z)]) hx hb dX14_node_7 hl (by decide) rfl (fun ls hl => ?_)
  refine lv_aload_n hx hb dX14_node_9 rfl (lv_at hl 1 rfl) ?_
  refine q_get hx hb hts hown hA hW iX14 rO_0 rfl 18 (by decide) (hts (.fieldLink RX14 42 "HighRecipesModel" "fresh" "LHighRecipesModel$Book;") (by decide +kernel)) (fun _ h9 => h9) (v := .ref (M + 25)) rfl dX14_node_10 ?_
  refine q_getN hx hb hts hown hA hW iX13 rO_25 rfl 18 (by decide) (va_Nw.use rfl (hA.2.2.2.1 ("HighRecipesModel", 162, "HighRecipesModel$Book", "sort", "[I", "HighRecipesModel") (by decide +kernel))) (fun _ h9 => h9) (v := .ref (M + 39)) rfl dX14_node_13 ?_
  refine lv_iload hx hb dX14_node_16 (lv_at hl 0 rfl) ?_
  refine lv_iload_n hx hb dX14_node_18 rfl (lv_at hl 2 rfl) ?_
  refine q_ast hx hb hA hW hS (rO_39 (g := r 39) rfl) nd rfl (by omega) (by decide) dX14_node_19 (fun H locs hW hS => ?_)
  have hW := q_sa 39 hW rfl rfl
  refine lv_aload_n hx hb dX14_node_20 rfl (lv_at hl 1 rfl) ?_
  refine q_get hx hb hts hown hA hW iX14 rO_0 rfl 18 (by decide) (hts (.fieldLink RX14 42 "HighRecipesModel" "fresh" "LHighRecipesModel$Book;") (by decide +kernel)) (fun _ h9 => h9) (v := .ref (M + 25)) rfl dX14_node_21 ?_
  refine q_getN hx hb hts hown hA hW iX13 rO_25 rfl 19 (by decide) (va_Nw.use rfl (hA.2.2.2.1 ("HighRecipesModel", 165, "HighRecipesModel$Book", "left", "[I", "HighRecipesModel") (by decide +kernel))) (fun _ h9 => h9) (v := .ref (M + 40)) rfl dX14_node_24 ?_
  refine lv_iload hx hb dX14_node_27 (lv_at hl 0 rfl) ?_
  refine lv_iload_n hx hb dX14_node_29 rfl (lv_at hl 3 rfl) ?_
  refine q_ast hx hb hA hW hS (rO_40 (g := r 40) rfl) nd rfl (by omega) (by decide) dX14_node_30 (fun H locs hW hS => ?_)
  have hW := q_sa 40 hW rfl rfl
  refine lv_aload_n hx hb dX14_node_31 rfl (lv_at hl 1 rfl) ?_
  refine q_get hx hb hts hown hA hW iX14 rO_0 rfl 18 (by decide) (hts (.fieldLink RX14 42 "HighRecipesModel" "fresh" "LHighRecipesModel$Book;") (by decide +kernel)) (fun _ h9 => h9) (v := .ref (M + 25)) rfl dX14_node_32 ?_
  refine q_getN hx hb hts hown hA hW iX13 rO_25 rfl 20 (by decide) (va_Nw.use rfl (hA.2.2.2.1 ("HighRecipesModel", 168, "HighRecipesModel$Book", "right", "[I", "HighRecipesModel") (by decide +kernel))) (fun _ h9 => h9) (v := .ref (M + 41)) rfl dX14_node_35 ?_
  refine lv_iload hx hb dX14_node_38 (lv_at hl 0 rfl) ?_
  refine lv_iload_n hx hb dX14_node_40 rfl (lv_at hl 4 rfl) ?_
  refine q_ast hx hb hA hW hS (rO_41 (g := r 41) rfl) nd rfl (by omega) (by decide) dX14_node_41 (fun H locs hW hS => ?_)
  have hW := q_sa 41 hW rfl rfl
  refine lv_aload_n hx hb dX14_node_42 rfl (lv_at hl 1 rfl) ?_
  refine q_get hx hb hts hown hA hW iX14 rO_0 rfl 18 (by decide) (hts (.fieldLink RX14 42 "HighRecipesModel" "fresh" "LHighRecipesModel$Book;") (by decide +kernel)) (fun _ h9 => h9) (v := .ref (M + 25)) rfl dX14_node_43 ?_
  refine lv_dup hx hb dX14_node_46 rfl ?_
  refine q_getN hx hb hts hown hA hW iX13 rO_25 rfl 17 (by decide) (va_Nw.use rfl (hA.2.2.2.1 ("HighRecipesModel", 159, "HighRecipesModel$Book", "nodes", "I", "HighRecipesModel") (by decide +kernel))) (fun _ h9 => h9) (v := .int (nI nd)) (congrArg (fun z => some (Value.int z)) hnd9) dX14_node_47 ?_
  refine lv_iconst (v := 1) hx hb dX14_node_50 (by decide) ?_
  refine lv_iadd hx hb dX14_node_51 ?_
  rw [nI_1]
  refine q_putN hx hb hts hown hA hW hS iX13 tyX13 tyX13_ok nmX13 rO_25 rfl 17 (by decide) (va_Nw.use rfl (hA.2.2.2.1 ("HighRecipesModel", 159, "HighRecipesModel$Book", "nodes", "I", "HighRecipesModel") (by decide +kernel))) (fun _ h9 => h9) rfl rfl rfl (Nat.le_of_ble_eq_true rfl) dX14_node_52 (fun H locs hW hS => ?_)
  have hW := q_s25 134 (nI (nd + 1)) hW rfl (by decide)
  refine lv_iload hx hb dX14_node_55 (lv_at hl 0 rfl) ?_
  exact q_iret hx hb hr hlocks hW hS ⟨rfl, rfl, rfl⟩ (Nat.le_of_ble_eq_true rfl) (Nat.le_of_ble_eq_true rfl) dX14_node_57

set_option maxHeartbeats 4000000 in
set_option maxRecDepth 100000 in
theorem kX14_isContent (l : Launch) (E : q_E) (f : q_H) (n : Nat) (M : Nat) (r : q_R) (K : Nat → Nat) (Wd : Nat → Int64) (T : Nat) (u : p_S) (tk nd cc ac : Nat)  (hm : RM E f M r) (hTK : r_T r K Wd T) (hT : T ≤ 400) (hKT : 39 ≤ K T) (hK41 : ∀ j, K j < 41) (hP : r_P r K T u tk nd cc ac) (hok : p_ok K T u) : Met l yX14_isContent wsX14_isContent ({ frames := 1, cells := 0, slots := 0, locals := 21 }) (q_P E [.ref M] f n) (q_Qi E (fun r0 f1 n1 => b01 (b_cont u.2.1) = r0 ∧ f = f1 ∧ n = n1)) 0 0 (q_ge E) := by
  refine Met.ofW (cc := cX14_isContent) (maxL := 1) (ret := (some .boolean)) (by decide) rfl ?_
  intro p e s m args below meth c s₁ B hml hv
  obtain ⟨rfl, hA, hW⟩ := hv
  have hx := B.exec
  have hb := B.bytes
  have hr := B.returns
  have hts := atoms_spec (ws := wsX14_isContent) B.pre
  have hown : s.vm.findClass RX14 = some m.cls := findClass_of_methodNamed B.named
  have hlocks := B.notSynchronized
  have hS : va_S (q_ge E) s.heap s.heap [] := va_S.rf
  have hl := lv_entry ([.ref M]) (n := 1) (Nat.le_of_ble_eq_true rfl)
  rw [lg_entry_eq]
  generalize (lg_sl ([.ref M]) ++ List.replicate (1 - (lg_sl ([.ref M])).length) Slot.unset).toArray = ls at hl ⊢
  have hl : lv_has ls 1 [(0, .ref M)] := hl
  have hmE := hm.eq
  rw [hm.eq] at hW
  have Q0 := r_Q.rf hP
  have htk := hP.1.2.1
  have hnd := hP.1.2.2.2.1
  have hcc := hP.1.2.2.2.2.2.1
  have hac := hP.1.2.2.2.2.2.2.2
  refine lv_aload_n hx hb dX14_isContent_0 rfl (lv_at hl 0 rfl) ?_
  refine lv_iconst (v := 4) hx hb dX14_isContent_1 (by decide) ?_
  refine q_ci (va_runV (As := [.int 4]) (rest := []) ⟨hx, hb, hml, hown, hts⟩ (kX14_is l E (rO E f M r) n M r K Wd T u tk nd cc ac 4 4 rO_K hTK hT hKT hK41 Q0.1 hok rfl (by decide)) (cwV 1 hts gX14_isContent_X14_is rfl rfl rfl (by decide +kernel) ⟨(Nat.le_of_ble_eq_true rfl), (Nat.le_of_ble_eq_true rfl)⟩) (q_pV hA hW hS (ci := 12) rfl rO_0) rfl rfl hl.1 rfl (lv_room (Nat.le_of_ble_eq_true rfl)) dX14_isContent_2 ⟨Nat.le_of_ble_eq_true rfl, Nat.le_of_ble_eq_true rfl⟩) hS (fun r_2 f_2 n_2 H locs hp hW hS => ?_)
  obtain ⟨rfl, rfl, rfl⟩ := hp
  have hW : q_W E (rO E f M r) n H := hW
  refine lv_if_ne (tgt := 43) hx hb dX14_isContent_5 (by decide) (fun c_5 => ?_) (fun c_5 => ?_)
  · have eu : u.2.1 = 4 := of_decide_eq_true (b01_1 c_5)
    refine lv_iconst (v := 1) hx hb dX14_isContent_43 (by decide) ?_
    refine lv_goto (tgt := 48) hx hb dX14_isContent_44 (by decide) ?_
    exact q_zret hx hb hr hlocks hW hS rfl ⟨by rw [eu]; rfl, hmE, rfl⟩ (Nat.le_of_ble_eq_true rfl) (Nat.le_of_ble_eq_true rfl) dX14_isContent_48
  · have eu4 : ¬ u.2.1 = 4 := of_decide_eq_false (b01_0 c_5)
    refine lv_aload_n hx hb dX14_isContent_8 rfl (lv_at hl 0 rfl) ?_
    refine lv_iconst (v := 5) hx hb dX14_isContent_9 (by decide) ?_
    refine q_ci (va_runV (As := [.int 5]) (rest := []) ⟨hx, hb, hml, hown, hts⟩ (kX14_is l E (rO E f M r) n M r K Wd T u tk nd cc ac 5 5 rO_K hTK hT hKT hK41 Q0.1 hok rfl (by decide)) (cwV 1 hts gX14_isContent_X14_is rfl rfl rfl (by decide +kernel) ⟨(Nat.le_of_ble_eq_true rfl), (Nat.le_of_ble_eq_true rfl)⟩) (q_pV hA hW hS (ci := 12) rfl rO_0) rfl rfl hl.1 rfl (lv_room (Nat.le_of_ble_eq_true rfl)) dX14_isContent_10 ⟨Nat.le_of_ble_eq_true rfl, Nat.le_of_ble_eq_true rfl⟩) hS (fun r_10 f_10 n_10 H locs hp hW hS => ?_)
    obtain ⟨rfl, rfl, rfl⟩ := hp
    have hW : q_W E (rO E f M r) n H := hW
    refine lv_if_ne (tgt := 43) hx hb dX14_isContent_13 (by decide) (fun c_13 => ?_) (fun c_13 => ?_)
    · have eu : u.2.1 = 5 := of_decide_eq_true (b01_1 c_13)
      refine lv_iconst (v := 1) hx hb dX14_isContent_43 (by decide) ?_
      refine lv_goto (tgt := 48) hx hb dX14_isContent_44 (by decide) ?_
      exact q_zret hx hb hr hlocks hW hS rfl ⟨by rw [eu]; rfl, hmE, rfl⟩ (Nat.le_of_ble_eq_true rfl) (Nat.le_of_ble_eq_true rfl) dX14_isContent_48
    · have eu5 : ¬ u.2.1 = 5 := of_decide_eq_false (b01_0 c_13)
      refine lv_aload_n hx hb dX14_isContent_16 rfl (lv_at hl 0 rfl) ?_
      refine lv_bipush (v := 7) hx hb dX14_isContent_17 (by decide) ?_
      refine q_ci (va_runV (As := [.int 7]) (rest := []) ⟨hx, hb, hml, hown, hts⟩ (kX14_is l E (rO E f M r) n M r K Wd T u tk nd cc ac 7 7 rO_K hTK hT hKT hK41 Q0.1 hok rfl (by decide)) (cwV 1 hts gX14_isContent_X14_is rfl rfl rfl (by decide +kernel) ⟨(Nat.le_of_ble_eq_true rfl), (Nat.le_of_ble_eq_true rfl)⟩) (q_pV hA hW hS (ci := 12) rfl rO_0) rfl rfl hl.1 rfl (lv_room (Nat.le_of_ble_eq_true rfl)) dX14_isContent_19 ⟨Nat.le_of_ble_eq_true rfl, Nat.le_of_ble_eq_true rfl⟩) hS (fun r_19 f_19 n_19 H locs hp hW hS => ?_)
      obtain ⟨rfl, rfl, rfl⟩ := hp
      have hW : q_W E (rO E f M r) n H := hW
      refine lv_if_ne (tgt := 43) hx hb dX14_isContent_22 (by decide) (fun c_22 => ?_) (fun c_22 => ?_)
      · have eu : u.2.1 = 7 := of_decide_eq_true (b01_1 c_22)
        refine lv_iconst (v := 1) hx hb dX14_isContent_43 (by decide) ?_
        refine lv_goto (tgt := 48) hx hb dX14_isContent_44 (by decide) ?_
        exact q_zret hx hb hr hlocks hW hS rfl ⟨by rw [eu]; rfl, hmE, rfl⟩ (Nat.le_of_ble_eq_true rfl) (Nat.le_of_ble_eq_true rfl) dX14_isContent_48
      · have eu7 : ¬ u.2.1 = 7 := of_decide_eq_false (b01_0 c_22)
        refine lv_aload_n hx hb dX14_isContent_25 rfl (lv_at hl 0 rfl) ?_
        refine lv_bipush (v := 25) hx hb dX14_isContent_26 (by decide) ?_
        refine q_ci (va_runV (As := [.int 25]) (rest := []) ⟨hx, hb, hml, hown, hts⟩ (kX14_is l E (rO E f M r) n M r K Wd T u tk nd cc ac 25 25 rO_K hTK hT hKT hK41 Q0.1 hok rfl (by decide)) (cwV 1 hts gX14_isContent_X14_is rfl rfl rfl (by decide +kernel) ⟨(Nat.le_of_ble_eq_true rfl), (Nat.le_of_ble_eq_true rfl)⟩) (q_pV hA hW hS (ci := 12) rfl rO_0) rfl rfl hl.1 rfl (lv_room (Nat.le_of_ble_eq_true rfl)) dX14_isContent_28 ⟨Nat.le_of_ble_eq_true rfl, Nat.le_of_ble_eq_true rfl⟩) hS (fun r_28 f_28 n_28 H locs hp hW hS => ?_)
        obtain ⟨rfl, rfl, rfl⟩ := hp
        have hW : q_W E (rO E f M r) n H := hW
        refine lv_if_ne (tgt := 43) hx hb dX14_isContent_31 (by decide) (fun c_31 => ?_) (fun c_31 => ?_)
        · have eu : u.2.1 = 25 := of_decide_eq_true (b01_1 c_31)
          refine lv_iconst (v := 1) hx hb dX14_isContent_43 (by decide) ?_
          refine lv_goto (tgt := 48) hx hb dX14_isContent_44 (by decide) ?_
          exact q_zret hx hb hr hlocks hW hS rfl ⟨by rw [eu]; rfl, hmE, rfl⟩ (Nat.le_of_ble_eq_true rfl) (Nat.le_of_ble_eq_true rfl) dX14_isContent_48
        · have eu25 : ¬ u.2.1 = 25 := of_decide_eq_false (b01_0 c_31)
          refine lv_aload_n hx hb dX14_isContent_34 rfl (lv_at hl 0 rfl) ?_
          refine lv_bipush (v := 26) hx hb dX14_isContent_35 (by decide) ?_
          refine q_ci (va_runV (As := [.int 26]) (rest := []) ⟨hx, hb, hml, hown, hts⟩ (kX14_is l E (rO E f M r) n M r K Wd T u tk nd cc ac 26 26 rO_K hTK hT hKT hK41 Q0.1 hok rfl (by decide)) (cwV 1 hts gX14_isContent_X14_is rfl rfl rfl (by decide +kernel) ⟨(Nat.le_of_ble_eq_true rfl), (Nat.le_of_ble_eq_true rfl)⟩) (q_pV hA hW hS (ci := 12) rfl rO_0) rfl rfl hl.1 rfl (lv_room (Nat.le_of_ble_eq_true rfl)) dX14_isContent_37 ⟨Nat.le_of_ble_eq_true rfl, Nat.le_of_ble_eq_true rfl⟩) hS (fun r_37 f_37 n_37 H locs hp hW hS => ?_)
          obtain ⟨rfl, rfl, rfl⟩ := hp
          have hW : q_W E (rO E f M r) n H := hW
          refine lv_if_eq (tgt := 47) hx hb dX14_isContent_40 (by decide) (fun c_40 => ?_) (fun c_40 => ?_)
          · have eu26 : ¬ u.2.1 = 26 := of_decide_eq_false (b01_0 c_40)
            refine lv_iconst (v := 0) hx hb dX14_isContent_47 (by decide) ?_
            exact q_zret hx hb hr hlocks hW hS rfl ⟨by rw [show b_cont u.2.1 = false from by simp [b_cont, eu4, eu5, eu7, eu25, eu26]]; rfl, hmE, rfl⟩ (Nat.le_of_ble_eq_true rfl) (Nat.le_of_ble_eq_true rfl) dX14_isContent_48
          · have eu : u.2.1 = 26 := of_decide_eq_true (b01_1 c_40)
            refine lv_iconst (v := 1) hx hb dX14_isContent_43 (by decide) ?_
            refine lv_goto (tgt := 48) hx hb dX14_isContent_44 (by decide) ?_
            exact q_zret hx hb hr hlocks hW hS rfl ⟨by rw [eu]; rfl, hmE, rfl⟩ (Nat.le_of_ble_eq_true rfl) (Nat.le_of_ble_eq_true rfl) dX14_isContent_48

set_option maxHeartbeats 4000000 in
set_option maxRecDepth 100000 in
theorem kX14_pan (l : Launch) (E : q_E) (f : q_H) (n : Nat) (M : Nat) (r : q_R) (K : Nat → Nat) (Wd : Nat → Int64) (T : Nat) (u : p_S) (tk nd cc ac : Nat) (pN : Nat → Int64) (pn : Nat)  (hm : RM E f M r) (hTK : r_T r K Wd T) (hT : T ≤ 400) (hKT : 39 ≤ K T) (hK41 : ∀ j, K j < 41) (hP : r_P r K T u tk nd cc ac) (hok : p_ok K T u) (hnm : r_nm r K Wd T 6 pn pN) (hpn : pn ≤ 8) (hpn9 : r 130 0 = nI pn) : Met l yX14_pan wsX14_pan ({ frames := 3, cells := 0, slots := 0, locals := 69 }) (q_P E [.ref M] f n) (q_Qi E (fun r0 f1 n1 => ∃ (r1 : q_R) (tk1 nd1 cc1 ac1 : Nat), r_Q r r1 K T (p_known K Wd pN pn u) tk nd cc ac tk1 nd1 cc1 ac1 ∧ r1 107 0 = r 107 0 ∧ (r1 108 0 = r 108 0) ∧ (cc1 = cc ∧ ac1 = ac) ∧ (((p_known K Wd pN pn u).2.1 ≠ 40 → (p_known K Wd pN pn u).2.2.1 = 0 → ∃ i, i < pn ∧ ix pN pn (Wd u.1) = nI i ∧ r0 = nI i)) ∧ rO E f M r1 = f1 ∧ n = n1)) 0 0 (q_ge E) := by
  refine Met.ofW (cc := cX14_pan) (maxL := 1) (ret := (some .int)) (by decide) rfl ?_
  intro p e s m args below meth c s₁ B hml hv
  obtain ⟨rfl, hA, hW⟩ := hv
  have hx := B.exec
  have hb := B.bytes
  have hr := B.returns
  have hts := atoms_spec (ws := wsX14_pan) B.pre
  have hown : s.vm.findClass RX14 = some m.cls := findClass_of_methodNamed B.named
  have hlocks := B.notSynchronized
  have hS : va_S (q_ge E) s.heap s.heap [] := va_S.rf
  have iX13 : ∀ w ∈ wsX130, w ∈ wsX14_pan := by decide +kernel
  have iX14 : ∀ w ∈ wsX140, w ∈ wsX14_pan := by decide +kernel
  have hl := lv_entry ([.ref M]) (n := 1) (Nat.le_of_ble_eq_true rfl)
  rw [lg_entry_eq]
  generalize (lg_sl ([.ref M]) ++ List.replicate (1 - (lg_sl ([.ref M])).length) Slot.unset).toArray = ls at hl ⊢
  have hl : lv_has ls 1 [(0, .ref M)] := hl
  have hmE := hm.eq
  rw [hm.eq] at hW
  have Q0 := r_Q.rf hP
  have htk := hP.1.2.1
  have hnd := hP.1.2.2.2.1
  have hcc := hP.1.2.2.2.2.2.1
  have hac := hP.1.2.2.2.2.2.2.2
  refine lv_aload_n hx hb dX14_pan_0 rfl (lv_at hl 0 rfl) ?_
  refine lv_aload_n hx hb dX14_pan_1 rfl (lv_at hl 0 rfl) ?_
  refine q_get hx hb hts hown hA hW iX14 rO_0 rfl 14 (by decide) (hts (.fieldLink RX14 29 "HighRecipesModel" "panName" "[I") (by decide +kernel)) (fun _ h9 => h9) (v := .ref (M + 6)) rfl dX14_pan_2 ?_
  refine lv_aload_n hx hb dX14_pan_5 rfl (lv_at hl 0 rfl) ?_
  refine q_get hx hb hts hown hA hW iX14 rO_0 rfl 18 (by decide) (hts (.fieldLink RX14 42 "HighRecipesModel" "fresh" "LHighRecipesModel$Book;") (by decide +kernel)) (fun _ h9 => h9) (v := .ref (M + 25)) rfl dX14_pan_6 ?_
  refine q_getN hx hb hts hown hA hW iX13 rO_25 rfl 0 (by decide) (va_Nw.use rfl (hA.2.2.2.1 ("HighRecipesModel", 150, "HighRecipesModel$Book", "pans", "I", "HighRecipesModel") (by decide +kernel))) (fun _ h9 => h9) (v := .int (nI pn)) (congrArg (fun z => some (Value.int z)) hpn9) dX14_pan_9 ?_
  refine q_ci (va_runV (As := [.ref (M + 6), .int (nI pn)]) (rest := []) ⟨hx, hb, hml, hown, hts⟩ (kX14_name_6 l E (rO E f M r) n M r K Wd T u tk nd cc ac pn pN rO_K hTK hT hKT hK41 Q0.1 hok hnm hpn) (cwV 2 hts gX14_pan_X14_name rfl rfl rfl (by decide +kernel) ⟨(Nat.le_of_ble_eq_true rfl), (Nat.le_of_ble_eq_true rfl)⟩) (q_pV hA hW hS (ci := 12) rfl rO_0) rfl rfl hl.1 rfl (lv_room (Nat.le_of_ble_eq_true rfl)) dX14_pan_12 ⟨Nat.le_of_ble_eq_true rfl, Nat.le_of_ble_eq_true rfl⟩) hS (fun r_12 f_12 n_12 H locs hp hW hS => ?_)
  obtain ⟨R_12, tk_12, nd_12, cc_12, ac_12, q_12, e7_12, e8_12, ec_12, ex_12, rfl, rfl⟩ := hp
  have G_12 : p_go K T u (p_known K Wd pN pn u) := (go_known hKT)
  have GG_12 := G_12 hok
  have ok_12 := GG_12.1
  have le_12 := GG_12.2.2.2.1
  have er_12 := GG_12.2.2.2.2
  have Q_12 := Q0.trans q_12
  have T_12 := Q_12.tok hTK
  have num_12 := Q_12.2.2
  unfold r_num at num_12
  have bt_12 := Q_12.1.1.2.1
  have bn_12 := Q_12.1.1.2.2.2.1
  have bc_12 := Q_12.1.1.2.2.2.2.2.1
  have ba_12 := Q_12.1.1.2.2.2.2.2.2.2
  have qn_12 := q_12.2.2
  unfold r_num at qn_12
  rw [rO_rO] at hW
  have hW : q_W E (rO E f M R_12) n H := hW
  exact q_iret hx hb hr hlocks hW hS ⟨_, _, _, _, _, Q_12, (e7_12.trans rfl), (e8_12.trans rfl), ⟨(ec_12.1.trans rfl), (ec_12.2.trans rfl)⟩, ex_12, rfl, rfl⟩ (Nat.le_of_ble_eq_true rfl) (Nat.le_of_ble_eq_true rfl) dX14_pan_15

set_option maxHeartbeats 4000000 in
set_option maxRecDepth 100000 in
theorem kX14_valueB (l : Launch) (E : q_E) (f : q_H) (n : Nat) (M : Nat) (r : q_R) (K : Nat → Nat) (Wd : Nat → Int64) (T : Nat) (u : p_S) (tk nd cc ac : Nat)  (hm : RM E f M r) (hTK : r_T r K Wd T) (hT : T ≤ 400) (hKT : 39 ≤ K T) (hK41 : ∀ j, K j < 41) (hP : r_P r K T u tk nd cc ac) (hok : p_ok K T u) (hbad : u.2.1 = 40) : Met l yX14_value wsX14_value ({ frames := 2, cells := 0, slots := 0, locals := 42 }) (q_P E [.ref M] f n) (q_Qi E (fun r0 f1 n1 => ∃ (r1 : q_R) (tk1 nd1 cc1 ac1 : Nat), r_Q r r1 K T (p_step K false (p_new u)) tk nd cc ac tk1 nd1 cc1 ac1 ∧ r1 107 0 = r 107 0 ∧ (r1 108 0 = r 108 0) ∧ (cc1 = cc ∧ ac1 = ac) ∧ (r1 104 0 = 1 ∧ 0 = r0) ∧ rO E f M r1 = f1 ∧ n = n1)) 0 0 (q_ge E) := by
  refine Met.ofW (cc := cX14_value) (maxL := 2) (ret := (some .int)) (by decide) rfl ?_
  intro p e s m args below meth c s₁ B hml hv
  obtain ⟨rfl, hA, hW⟩ := hv
  have hx := B.exec
  have hb := B.bytes
  have hr := B.returns
  have hts := atoms_spec (ws := wsX14_value) B.pre
  have hown : s.vm.findClass RX14 = some m.cls := findClass_of_methodNamed B.named
  have hlocks := B.notSynchronized
  have hS : va_S (q_ge E) s.heap s.heap [] := va_S.rf
  have hl := lv_entry ([.ref M]) (n := 2) (Nat.le_of_ble_eq_true rfl)
  rw [lg_entry_eq]
  generalize (lg_sl ([.ref M]) ++ List.replicate (2 - (lg_sl ([.ref M])).length) Slot.unset).toArray = ls at hl ⊢
  have hl : lv_has ls 2 [(0, .ref M)] := hl
  have hmE := hm.eq
  rw [hm.eq] at hW
  have Q0 := r_Q.rf hP
  have htk := hP.1.2.1
  have hnd := hP.1.2.2.2.1
  have hcc := hP.1.2.2.2.2.2.1
  have hac := hP.1.2.2.2.2.2.2.2
  have Q0n : r_Q r r K T (p_new u) tk nd cc ac tk nd cc ac := Q0
  have okn := hok.new
  refine lv_aload_n hx hb dX14_value_0 rfl (lv_at hl 0 rfl) ?_
  refine lv_bipush (v := 41) hx hb dX14_value_1 (by decide) ?_
  refine q_ci (va_runV (As := [.int 41]) (rest := []) ⟨hx, hb, hml, hown, hts⟩ (kX14_is l E (rO E f M r) n M r K Wd T (p_new u) tk nd cc ac 38 41 rO_K hTK hT hKT hK41 Q0n.1 okn rfl (by decide)) (cwV 1 hts gX14_value_X14_is rfl rfl rfl (by decide +kernel) ⟨(Nat.le_of_ble_eq_true rfl), (Nat.le_of_ble_eq_true rfl)⟩) (q_pV hA hW hS (ci := 12) rfl rO_0) rfl rfl hl.1 rfl (lv_room (Nat.le_of_ble_eq_true rfl)) dX14_value_3 ⟨Nat.le_of_ble_eq_true rfl, Nat.le_of_ble_eq_true rfl⟩) hS (fun r_3 f_3 n_3 H locs hp hW hS => ?_)
  obtain ⟨rfl, rfl, rfl⟩ := hp
  have hW : q_W E (rO E f M r) n H := hW
  refine lv_if_eq (tgt := 38) hx hb dX14_value_6 (by decide) (fun c_6 => ?_) (fun c_6 => False.elim ((fun h9 => h9 (b01_F (decide_eq_false (show ¬ u.2.1 = 38 by omega)))) c_6))
  refine lv_bipush (v := 19) hx hb dX14_value_38 (by decide) ?_
  refine lv_istore_n (lv' := [(1, .int 19), (0, .ref M)]) hx hb dX14_value_40 rfl hl (by decide) rfl (fun ls hl => ?_)
  refine lv_iload_n hx hb dX14_value_41 rfl (lv_at hl 0 rfl) ?_
  refine lv_bipush (v := 23) hx hb dX14_value_42 (by decide) ?_
  refine lv_icmp_gt (tgt := 69) hx hb dX14_value_44 (by decide) (fun c_44 => False.elim ((fun h9 => absurd h9 (by decide)) c_44)) (fun c_44 => ?_)
  refine lv_aload_n hx hb dX14_value_47 rfl (lv_at hl 1 rfl) ?_
  refine lv_iload_n hx hb dX14_value_48 rfl (lv_at hl 0 rfl) ?_
  refine q_ci (va_runV (As := [.int 19]) (rest := []) ⟨hx, hb, hml, hown, hts⟩ (kX14_takesF l E (rO E f M r) n M r K Wd T (p_new u) tk nd cc ac 19 19 rO_K hTK hT hKT hK41 Q0n.1 okn rfl (by decide) (show ¬ u.2.1 = 19 by omega)) (cwV 1 hts gX14_value_X14_takes rfl rfl rfl (by decide +kernel) ⟨(Nat.le_of_ble_eq_true rfl), (Nat.le_of_ble_eq_true rfl)⟩) (q_pV hA hW hS (ci := 12) rfl rO_0) rfl rfl hl.1 rfl (lv_room (Nat.le_of_ble_eq_true rfl)) dX14_value_49 ⟨Nat.le_of_ble_eq_true rfl, Nat.le_of_ble_eq_true rfl⟩) hS (fun r_49 f_49 n_49 H locs hp hW hS => ?_)
  obtain ⟨rfl, rfl, rfl⟩ := hp
  have hW : q_W E (rO E f M r) n H := hW
  refine lv_if_eq (tgt := 63) hx hb dX14_value_52 (by decide) (fun c_52 => ?_) (fun c_52 => False.elim ((fun h9 => h9 rfl) c_52))
  refine lv_iinc (v := 20) (lv' := [(1, .int 20), (0, .ref M)]) hx hb dX14_value_63 hl (k := 0) rfl rfl (by decide) rfl (fun ls hl => ?_)
  refine lv_goto (tgt := 41) hx hb dX14_value_66 (by decide) ?_
  refine lv_iload_n hx hb dX14_value_41 rfl (lv_at hl 0 rfl) ?_
  refine lv_bipush (v := 23) hx hb dX14_value_42 (by decide) ?_
  refine lv_icmp_gt (tgt := 69) hx hb dX14_value_44 (by decide) (fun c_44 => False.elim ((fun h9 => absurd h9 (by decide)) c_44)) (fun c_44 => ?_)
  refine lv_aload_n hx hb dX14_value_47 rfl (lv_at hl 1 rfl) ?_
  refine lv_iload_n hx hb dX14_value_48 rfl (lv_at hl 0 rfl) ?_
  refine q_ci (va_runV (As := [.int 20]) (rest := []) ⟨hx, hb, hml, hown, hts⟩ (kX14_takesF l E (rO E f M r) n M r K Wd T (p_new u) tk nd cc ac 20 20 rO_K hTK hT hKT hK41 Q0n.1 okn rfl (by decide) (show ¬ u.2.1 = 20 by omega)) (cwV 1 hts gX14_value_X14_takes rfl rfl rfl (by decide +kernel) ⟨(Nat.le_of_ble_eq_true rfl), (Nat.le_of_ble_eq_true rfl)⟩) (q_pV hA hW hS (ci := 12) rfl rO_0) rfl rfl hl.1 rfl (lv_room (Nat.le_of_ble_eq_true rfl)) dX14_value_49 ⟨Nat.le_of_ble_eq_true rfl, Nat.le_of_ble_eq_true rfl⟩) hS (fun r_49 f_49 n_49 H locs hp hW hS => ?_)
  obtain ⟨rfl, rfl, rfl⟩ := hp
  have hW : q_W E (rO E f M r) n H := hW
  refine lv_if_eq (tgt := 63) hx hb dX14_value_52 (by decide) (fun c_52 => ?_) (fun c_52 => False.elim ((fun h9 => h9 rfl) c_52))
  refine lv_iinc (v := 21) (lv' := [(1, .int 21), (0, .ref M)]) hx hb dX14_value_63 hl (k := 0) rfl rfl (by decide) rfl (fun ls hl => ?_)
  refine lv_goto (tgt := 41) hx hb dX14_value_66 (by decide) ?_
  refine lv_iload_n hx hb dX14_value_41 rfl (lv_at hl 0 rfl) ?_
  refine lv_bipush (v := 23) hx hb dX14_value_42 (by decide) ?_
  refine lv_icmp_gt (tgt := 69) hx hb dX14_value_44 (by decide) (fun c_44 => False.elim ((fun h9 => absurd h9 (by decide)) c_44)) (fun c_44 => ?_)
  refine lv_aload_n hx hb dX14_value_47 rfl (lv_at hl 1 rfl) ?_
  refine lv_iload_n hx hb dX14_value_48 rfl (lv_at hl 0 rfl) ?_
  refine q_ci (va_runV (As := [.int 21]) (rest := []) ⟨hx, hb, hml, hown, hts⟩ (kX14_takesF l E (rO E f M r) n M r K Wd T (p_new u) tk nd cc ac 21 21 rO_K hTK hT hKT hK41 Q0n.1 okn rfl (by decide) (show ¬ u.2.1 = 21 by omega)) (cwV 1 hts gX14_value_X14_takes rfl rfl rfl (by decide +kernel) ⟨(Nat.le_of_ble_eq_true rfl), (Nat.le_of_ble_eq_true rfl)⟩) (q_pV hA hW hS (ci := 12) rfl rO_0) rfl rfl hl.1 rfl (lv_room (Nat.le_of_ble_eq_true rfl)) dX14_value_49 ⟨Nat.le_of_ble_eq_true rfl, Nat.le_of_ble_eq_true rfl⟩) hS (fun r_49 f_49 n_49 H locs hp hW hS => ?_)
  obtain ⟨rfl, rfl, rfl⟩ := hp
  have hW : q_W E (rO E f M r) n H := hW
  refine lv_if_eq (tgt := 63) hx hb dX14_value_52 (by decide) (fun c_52 => ?_) (fun c_52 => False.elim ((fun h9 => h9 rfl) c_52))
  refine lv_iinc (v := 22) (lv' := [(1, .int 22), (0, .ref M)]) hx hb dX14_value_63 hl (k := 0) rfl rfl (by decide) rfl (fun ls hl => ?_)
  refine lv_goto (tgt := 41) hx hb dX14_value_66 (by decide) ?_
  refine lv_iload_n hx hb dX14_value_41 rfl (lv_at hl 0 rfl) ?_
  refine lv_bipush (v := 23) hx hb dX14_value_42 (by decide) ?_
  refine lv_icmp_gt (tgt := 69) hx hb dX14_value_44 (by decide) (fun c_44 => False.elim ((fun h9 => absurd h9 (by decide)) c_44)) (fun c_44 => ?_)
  refine lv_aload_n hx hb dX14_value_47 rfl (lv_at hl 1 rfl) ?_
  refine lv_iload_n hx hb dX14_value_48 rfl (lv_at hl 0 rfl) ?_
  refine q_ci (va_runV (As := [.int 22]) (rest := []) ⟨hx, hb, hml, hown, hts⟩ (kX14_takesF l E (rO E f M r) n M r K Wd T (p_new u) tk nd cc ac 22 22 rO_K hTK hT hKT hK41 Q0n.1 okn rfl (by decide) (show ¬ u.2.1 = 22 by omega)) (cwV 1 hts gX14_value_X14_takes rfl rfl rfl (by decide +kernel) ⟨(Nat.le_of_ble_eq_true rfl), (Nat.le_of_ble_eq_true rfl)⟩) (q_pV hA hW hS (ci := 12) rfl rO_0) rfl rfl hl.1 rfl (lv_room (Nat.le_of_ble_eq_true rfl)) dX14_value_49 ⟨Nat.le_of_ble_eq_true rfl, Nat.le_of_ble_eq_true rfl⟩) hS (fun r_49 f_49 n_49 H locs hp hW hS => ?_)
  obtain ⟨rfl, rfl, rfl⟩ := hp
  have hW : q_W E (rO E f M r) n H := hW
  refine lv_if_eq (tgt := 63) hx hb dX14_value_52 (by decide) (fun c_52 => ?_) (fun c_52 => False.elim ((fun h9 => h9 rfl) c_52))
  refine lv_iinc (v := 23) (lv' := [(1, .int 23), (0, .ref M)]) hx hb dX14_value_63 hl (k := 0) rfl rfl (by decide) rfl (fun ls hl => ?_)
  refine lv_goto (tgt := 41) hx hb dX14_value_66 (by decide) ?_
  refine lv_iload_n hx hb dX14_value_41 rfl (lv_at hl 0 rfl) ?_
  refine lv_bipush (v := 23) hx hb dX14_value_42 (by decide) ?_
  refine lv_icmp_gt (tgt := 69) hx hb dX14_value_44 (by decide) (fun c_44 => False.elim ((fun h9 => absurd h9 (by decide)) c_44)) (fun c_44 => ?_)
  refine lv_aload_n hx hb dX14_value_47 rfl (lv_at hl 1 rfl) ?_
  refine lv_iload_n hx hb dX14_value_48 rfl (lv_at hl 0 rfl) ?_
  refine q_ci (va_runV (As := [.int 23]) (rest := []) ⟨hx, hb, hml, hown, hts⟩ (kX14_takesF l E (rO E f M r) n M r K Wd T (p_new u) tk nd cc ac 23 23 rO_K hTK hT hKT hK41 Q0n.1 okn rfl (by decide) (show ¬ u.2.1 = 23 by omega)) (cwV 1 hts gX14_value_X14_takes rfl rfl rfl (by decide +kernel) ⟨(Nat.le_of_ble_eq_true rfl), (Nat.le_of_ble_eq_true rfl)⟩) (q_pV hA hW hS (ci := 12) rfl rO_0) rfl rfl hl.1 rfl (lv_room (Nat.le_of_ble_eq_true rfl)) dX14_value_49 ⟨Nat.le_of_ble_eq_true rfl, Nat.le_of_ble_eq_true rfl⟩) hS (fun r_49 f_49 n_49 H locs hp hW hS => ?_)
  obtain ⟨rfl, rfl, rfl⟩ := hp
  have hW : q_W E (rO E f M r) n H := hW
  refine lv_if_eq (tgt := 63) hx hb dX14_value_52 (by decide) (fun c_52 => ?_) (fun c_52 => False.elim ((fun h9 => h9 rfl) c_52))
  refine lv_iinc (v := 24) (lv' := [(1, .int 24), (0, .ref M)]) hx hb dX14_value_63 hl (k := 0) rfl rfl (by decide) rfl (fun ls hl => ?_)
  refine lv_goto (tgt := 41) hx hb dX14_value_66 (by decide) ?_
  refine lv_iload_n hx hb dX14_value_41 rfl (lv_at hl 0 rfl) ?_
  refine lv_bipush (v := 23) hx hb dX14_value_42 (by decide) ?_
  refine lv_icmp_gt (tgt := 69) hx hb dX14_value_44 (by decide) (fun c_44 => ?_) (fun c_44 => False.elim ((fun h9 => h9 (by decide)) c_44))
  refine lv_aload_n hx hb dX14_value_69 rfl (lv_at hl 1 rfl) ?_
  refine q_ci (va_runV (As := []) (rest := []) ⟨hx, hb, hml, hown, hts⟩ (kX14_isContent l E (rO E f M r) n M r K Wd T (p_new u) tk nd cc ac rO_K hTK hT hKT hK41 Q0n.1 okn) (cwV 0 hts gX14_value_X14_isContent rfl rfl rfl (by decide +kernel) ⟨(Nat.le_of_ble_eq_true rfl), (Nat.le_of_ble_eq_true rfl)⟩) (q_pV hA hW hS (ci := 12) rfl rO_0) rfl rfl hl.1 rfl (lv_room (Nat.le_of_ble_eq_true rfl)) dX14_value_70 ⟨Nat.le_of_ble_eq_true rfl, Nat.le_of_ble_eq_true rfl⟩) hS (fun r_70 f_70 n_70 H locs hp hW hS => ?_)
  obtain ⟨rfl, rfl, rfl⟩ := hp
  have hW : q_W E (rO E f M r) n H := hW
  refine lv_if_eq (tgt := 113) hx hb dX14_value_73 (by decide) (fun c_73 => ?_) (fun c_73 => False.elim ((fun h9 => h9 (b01_F (show b_cont u.2.1 = false by rw [hbad]; rfl))) c_73))
  refine lv_aload_n hx hb dX14_value_113 rfl (lv_at hl 1 rfl) ?_
  refine lv_bipush (v := 50) hx hb dX14_value_114 (by decide) ?_
  refine q_ci (va_runV (As := [.int 50]) (rest := []) ⟨hx, hb, hml, hown, hts⟩ (kX14_is l E (rO E f M r) n M r K Wd T (p_new u) tk nd cc ac 27 50 rO_K hTK hT hKT hK41 Q0n.1 okn rfl (by decide)) (cwV 1 hts gX14_value_X14_is rfl rfl rfl (by decide +kernel) ⟨(Nat.le_of_ble_eq_true rfl), (Nat.le_of_ble_eq_true rfl)⟩) (q_pV hA hW hS (ci := 12) rfl rO_0) rfl rfl hl.1 rfl (lv_room (Nat.le_of_ble_eq_true rfl)) dX14_value_116 ⟨Nat.le_of_ble_eq_true rfl, Nat.le_of_ble_eq_true rfl⟩) hS (fun r_116 f_116 n_116 H locs hp hW hS => ?_)
  obtain ⟨rfl, rfl, rfl⟩ := hp
  have hW : q_W E (rO E f M r) n H := hW
  refine lv_if_eq (tgt := 127) hx hb dX14_value_119 (by decide) (fun c_119 => ?_) (fun c_119 => False.elim ((fun h9 => h9 (b01_F (decide_eq_false (show ¬ u.2.1 = 27 by omega)))) c_119))
  refine lv_aload_n hx hb dX14_value_127 rfl (lv_at hl 1 rfl) ?_
  refine q_cv (va_runV (As := []) (rest := []) ⟨hx, hb, hml, hown, hts⟩ (kX14_wrong l E (rO E f M r) n M r K Wd T (p_new u) tk nd cc ac rO_K hTK hT hKT hK41 Q0n.1 okn) (cwV 0 hts gX14_value_X14_wrong rfl rfl rfl (by decide +kernel) ⟨(Nat.le_of_ble_eq_true rfl), (Nat.le_of_ble_eq_true rfl)⟩) (q_pV hA hW hS (ci := 12) rfl rO_0) rfl rfl hl.1 rfl (lv_room (Nat.le_of_ble_eq_true rfl)) dX14_value_128 ⟨Nat.le_of_ble_eq_true rfl, Nat.le_of_ble_eq_true rfl⟩) hS (fun f_128 n_128 H locs hp hW hS => ?_)
  obtain ⟨R_128, tk_128, nd_128, cc_128, ac_128, q_128, e7_128, e8_128, ec_128, ex_128, rfl, rfl⟩ := hp
  have G_128 : p_go K T (p_new u) (p_step K false (p_new u)) := (go_step hKT (fun h9 => by cases h9))
  have GG_128 := G_128 okn
  have ok_128 := GG_128.1
  have le_128 := GG_128.2.2.2.1
  have er_128 := GG_128.2.2.2.2
  have Q_128 := Q0n.trans q_128
  have T_128 := Q_128.tok hTK
  have num_128 := Q_128.2.2
  unfold r_num at num_128
  have bt_128 := Q_128.1.1.2.1
  have bn_128 := Q_128.1.1.2.2.2.1
  have bc_128 := Q_128.1.1.2.2.2.2.2.1
  have ba_128 := Q_128.1.1.2.2.2.2.2.2.2
  have qn_128 := q_128.2.2
  unfold r_num at qn_128
  rw [rO_rO] at hW
  have hW : q_W E (rO E f M R_128) n H := hW
  refine lv_iconst (v := 0) hx hb dX14_value_131 (by decide) ?_
  exact q_iret hx hb hr hlocks hW hS ⟨_, _, _, _, _, Q_128, (e7_128.trans rfl), (e8_128.trans rfl), ⟨(ec_128.1.trans rfl), (ec_128.2.trans rfl)⟩, ⟨ex_128, rfl⟩, rfl, rfl⟩ (Nat.le_of_ble_eq_true rfl) (Nat.le_of_ble_eq_true rfl) dX14_value_132

def RVAL (l : Launch) (E : q_E) (d : Nat) : Prop := ∀ (f : q_H) (n M : Nat) (r : q_R) (K : Nat → Nat) (Wd : Nat → Int64) (T : Nat) (u : p_S) (tk nd cc ac : Nat) (pN : Nat → Int64) (pn : Nat), RM E f M r → r_T r K Wd T → T ≤ 400 → 39 ≤ K T → (∀ j, K j < 41) → r_P r K T u tk nd cc ac → p_ok K T u → r_nm r K Wd T 6 pn pN → pn ≤ 8 → r 130 0 = nI pn → r 108 0 = nI (4 - d) → d ≤ 4 →
  Met l yX14_value wsX14_value ({ frames := 4 * d + 12, cells := 0, slots := 0, locals := 100 * d + 300 }) (q_P E [.ref M] f n) (q_Qi E (fun r0 f1 n1 => ∃ (r1 : q_R) (tk1 nd1 cc1 ac1 : Nat), r_Q r r1 K T (p_val K Wd pN pn d u) tk nd cc ac tk1 nd1 cc1 ac1 ∧ r1 107 0 = r 107 0 ∧ ((p_val K Wd pN pn d u).2.1 ≠ 40 → r1 108 0 = r 108 0) ∧ (cc1 = cc ∧ ac1 = ac) ∧ ((p_val K Wd pN pn d u).2.1 ≠ 40 → (p_val K Wd pN pn d u).2.2.1 = 0 → ∃ a, r0 = nI a ∧ mV (bR r1 25) pn nd1 (d + 1) a (p_valD K Wd pN pn d u)) ∧ rO E f M r1 = f1 ∧ n = n1)) 0 0 (q_ge E)
/-- a node that was just made -/
theorem node_rows {r : q_R} {nd : Nat} {x y z : Int32} : (rp (rp (rp (rp r 39 (upd (r 39) nd x)) 40 (upd (r 40) nd y)) 41 (upd (r 41) nd z)) 134 (fun _ => nI (nd + 1))) 39 nd = x ∧ (rp (rp (rp (rp r 39 (upd (r 39) nd x)) 40 (upd (r 40) nd y)) 41 (upd (r 41) nd z)) 134 (fun _ => nI (nd + 1))) 40 nd = y ∧ (rp (rp (rp (rp r 39 (upd (r 39) nd x)) 40 (upd (r 40) nd y)) 41 (upd (r 41) nd z)) 134 (fun _ => nI (nd + 1))) 41 nd = z := ⟨z_us, z_us, z_us⟩
theorem mV_le {B : q_R} {pn hn : Nat} : ∀ (dp dp' a : Nat) (D : q_D), dp ≤ dp' → mV B pn hn dp a D → mV B pn hn dp' a D
  | 0, _, _, _, _, h => h.elim
  | dp + 1, dp', a, D, hle, h => by
    obtain ⟨q, rfl⟩ : ∃ q, dp' = q + 1 := ⟨dp' - 1, by omega⟩
    obtain ⟨ha, kd, e, hc⟩ := h
    refine ⟨ha, kd, e, ?_⟩
    rcases hc with hc | hc | hc | ⟨z1, z2, x, y, D1, D2, e1, e2, r1, r2, eD⟩
    · exact Or.inl hc
    · exact Or.inr (Or.inl hc)
    · exact Or.inr (Or.inr (Or.inl hc))
    · exact Or.inr (Or.inr (Or.inr ⟨z1, z2, x, y, D1, D2, e1, e2, mV_le dp q x D1 (by omega) r1, mV_le dp q y D2 (by omega) r2, eD⟩))
/-- a value lives on, as reading goes on -/
theorem mV_G {r r1 : q_R} {pn nd cc ac nd1 dp a : Nat} {D : q_D} (h : mV (bR r 25) pn nd dp a D) (hG : r_G r r1 nd cc ac) (hn : nd ≤ nd1) : mV (bR r1 25) pn nd1 dp a D :=
  mV_frame (fun q hq => hG.2.1 39 q (by decide) (by decide) hq) (fun q hq => hG.2.1 40 q (by decide) (by decide) hq) (fun q hq => hG.2.1 41 q (by decide) (by decide) hq) hn dp a D h
