/-! tokens of a tape, as the class finds them -/
theorem nI_sub {a b : Nat} (h : b ≤ a) : nI a - nI b = nI (a - b) := by
  have : nI a = nI (a - b) + nI b := by rw [nI_add]; congr 1; omega
  rw [this, Int32.add_sub_cancel]

set_option maxHeartbeats 4000000 in
set_option maxRecDepth 100000 in
theorem kX10_behindBlanks (l : Launch) (E : q_E) (f : q_H) (n : Nat) (x L : Nat) (g : Nat → Int32) (j0 : Nat) (h0 : f x = some (cTape x (nI L))) (h1 : f (x + 1) = some (aB E 1600 g)) (hL : L ≤ 1600) (hj0 : j0 ≤ L) : Met l yX10_behindBlanks wsX10_behindBlanks ({ frames := 1, cells := 0, slots := 0, locals := 21 }) (q_P E [.ref x, .int (nI j0)] f n) (q_Qi E (fun r f1 n1 => nI (t_skip g L j0) = r ∧ f = f1 ∧ n = n1)) 0 0 (q_ge E) := by
  refine Met.ofW (cc := cX10_behindBlanks) (maxL := 3) (ret := (some .int)) (by decide) rfl ?_
  intro p e s m args below meth c s₁ B hml hv
  obtain ⟨rfl, hA, hW⟩ := hv
  have hx := B.exec
  have hb := B.bytes
  have hr := B.returns
  have hts := atoms_spec (ws := wsX10_behindBlanks) B.pre
  have hown : s.vm.findClass RX10 = some m.cls := findClass_of_methodNamed B.named
  have hlocks := B.notSynchronized
  have hS : va_S (q_ge E) s.heap s.heap [] := va_S.rf
  have iX9 : ∀ w ∈ wsX90, w ∈ wsX10_behindBlanks := by decide +kernel
  have hl := lv_entry ([.ref x, .int (nI j0)]) (n := 3) (Nat.le_of_ble_eq_true rfl)
  rw [lg_entry_eq]
  generalize (lg_sl ([.ref x, .int (nI j0)]) ++ List.replicate (3 - (lg_sl ([.ref x, .int (nI j0)])).length) Slot.unset).toArray = ls at hl ⊢
  have hl : lv_has ls 3 [(0, .ref x), (1, .int (nI j0))] := hl
  refine lv_iload_n hx hb dX10_behindBlanks_0 rfl (lv_at hl 1 rfl) ?_
  refine lv_istore_n (lv' := [(2, .int (nI j0)), (0, .ref x), (1, .int (nI j0))]) hx hb dX10_behindBlanks_1 rfl hl (by decide) rfl (fun ls hl => ?_)
  have K2 : ∀ (fu : Nat) (j : Nat) (hj : j ≤ L) (hinv : t_skip g L j0 = t_skip g L j) (hm : L - j < fu) (H : Heap) (locs : List Loc) (ls : Array Slot), q_W E (f) n H → va_S (q_ge E) s.heap H locs → lv_has ls 3 [(0, .ref x), (1, .int (nI j0)), (2, .int (nI j))] → W p l e (headSpec wsX10_behindBlanks ({ frames := 1, cells := 0, slots := 0, locals := 21 })).room s m ([.ref x, .int (nI j0)] : List Value).toArray below meth c H locs 0 0 (MQ below (q_Qi E (fun r f1 n1 => nI (t_skip g L j0) = r ∧ f = f1 ∧ n = n1)) ([.ref x, .int (nI j0)] : List Value).toArray s 0 0 (q_ge E)) (F0 m 2 ls []) := by
    intro fu
    induction fu with
    | zero =>
      intro j hj hinv hm
      exact absurd hm (Nat.not_lt_zero _)
    | succ fu ih =>
      intro j hj hinv hm H locs ls hW hS hl
      refine lv_iload_n hx hb dX10_behindBlanks_2 rfl (lv_at hl 2 rfl) ?_
      refine lv_aload_n hx hb dX10_behindBlanks_3 rfl (lv_at hl 0 rfl) ?_
      refine q_getN hx hb hts hown hA hW iX9 h0 rfl 1 (by decide) (va_Nw.use rfl (hA.2.2.2.1 ("HighRecipes$Tokens", 38, "HighRecipes$Tape", "length", "I", "HighRecipes") (by decide +kernel))) (fun _ h9 => h9) (v := .int (nI L)) rfl dX10_behindBlanks_4 ?_
      refine lv_icmp_ge (tgt := 36) hx hb dX10_behindBlanks_7 (by decide) (fun c_7 => ?_) (fun c_7 => ?_)
      · have ej : j = L := by rcases Nat.lt_or_ge j L with h9 | h9; exact absurd c_7 (nI_ge h9 (by omega)); omega
        refine lv_iload_n hx hb dX10_behindBlanks_36 rfl (lv_at hl 2 rfl) ?_
        exact q_iret hx hb hr hlocks hW hS ⟨(by rw [hinv]; first | (subst ej; unfold t_skip; rw [Nat.sub_self]; rfl) | (unfold t_skip; rw [show L - j = (L - (j + 1)) + 1 by omega]; exact congrArg nI (if_neg fun h9 => hw h9.2))), rfl, rfl⟩ (Nat.le_of_ble_eq_true rfl) (Nat.le_of_ble_eq_true rfl) dX10_behindBlanks_37
      · have hlt : j < L := by rcases Nat.lt_or_ge j L with h9 | h9; exact h9; exact absurd (nI_le h9 (by omega)) c_7
        refine lv_aload_n hx hb dX10_behindBlanks_10 rfl (lv_at hl 0 rfl) ?_
        refine lv_iload_n hx hb dX10_behindBlanks_11 rfl (lv_at hl 2 rfl) ?_
        refine q_ci (va_runV (As := [.int (nI j)]) (rest := []) ⟨hx, hb, hml, hown, hts⟩ (kX9_byteAt l E f n x L g j h0 h1 (by assumption) (by omega)) (cwV 1 hts gX10_behindBlanks_X9_byteAt rfl rfl rfl (by decide +kernel) ⟨(Nat.le_of_ble_eq_true rfl), (Nat.le_of_ble_eq_true rfl)⟩) (q_pV hA hW hS (ci := 9) rfl h0) rfl rfl hl.1 rfl (lv_room (Nat.le_of_ble_eq_true rfl)) dX10_behindBlanks_12 ⟨Nat.le_of_ble_eq_true rfl, Nat.le_of_ble_eq_true rfl⟩) hS (fun r_12 f_12 n_12 H locs hp hW hS => ?_)
        obtain ⟨rfl, rfl, rfl⟩ := hp
        have hW : q_W E (f) n H := hW
        refine lv_bipush (v := 32) hx hb dX10_behindBlanks_15 (by decide) ?_
        refine lv_icmp_eq (tgt := 30) hx hb dX10_behindBlanks_17 (by decide) (fun c_17 => ?_) (fun c_17 => ?_)
        · have hw : t_at g L j = 32 ∨ t_at g L j = 10 := Or.inl c_17
          refine lv_iinc (v := nI (j + 1)) (lv' := [(2, .int (nI (j + 1))), (0, .ref x), (1, .int (nI j0))]) hx hb dX10_behindBlanks_30 hl (k := 2) rfl (nI_1 j) (by decide) rfl (fun ls hl => ?_)
          refine lv_goto (tgt := 2) hx hb dX10_behindBlanks_33 (by decide) ?_
          exact ih (j + 1) hlt (hinv.trans (by unfold t_skip; rw [show L - j = (L - (j + 1)) + 1 by omega]; exact if_pos ⟨hlt, hw⟩)) (by omega) _ _ _ hW hS (lv_sub hl [1, 2, 0] rfl)
        · refine lv_aload_n hx hb dX10_behindBlanks_20 rfl (lv_at hl 0 rfl) ?_
          refine lv_iload_n hx hb dX10_behindBlanks_21 rfl (lv_at hl 2 rfl) ?_
          refine q_ci (va_runV (As := [.int (nI j)]) (rest := []) ⟨hx, hb, hml, hown, hts⟩ (kX9_byteAt l E f n x L g j h0 h1 (by assumption) (by omega)) (cwV 1 hts gX10_behindBlanks_X9_byteAt rfl rfl rfl (by decide +kernel) ⟨(Nat.le_of_ble_eq_true rfl), (Nat.le_of_ble_eq_true rfl)⟩) (q_pV hA hW hS (ci := 9) rfl h0) rfl rfl hl.1 rfl (lv_room (Nat.le_of_ble_eq_true rfl)) dX10_behindBlanks_22 ⟨Nat.le_of_ble_eq_true rfl, Nat.le_of_ble_eq_true rfl⟩) hS (fun r_22 f_22 n_22 H locs hp hW hS => ?_)
          obtain ⟨rfl, rfl, rfl⟩ := hp
          have hW : q_W E (f) n H := hW
          refine lv_bipush (v := 10) hx hb dX10_behindBlanks_25 (by decide) ?_
          refine lv_icmp_ne (tgt := 36) hx hb dX10_behindBlanks_27 (by decide) (fun c_27 => ?_) (fun c_27 => ?_)
          · have hw : ¬ (t_at g L j = 32 ∨ t_at g L j = 10) := fun h9 => h9.elim c_17 c_27
            refine lv_iload_n hx hb dX10_behindBlanks_36 rfl (lv_at hl 2 rfl) ?_
            exact q_iret hx hb hr hlocks hW hS ⟨(by rw [hinv]; first | (subst ej; unfold t_skip; rw [Nat.sub_self]; rfl) | (unfold t_skip; rw [show L - j = (L - (j + 1)) + 1 by omega]; exact congrArg nI (if_neg fun h9 => hw h9.2))), rfl, rfl⟩ (Nat.le_of_ble_eq_true rfl) (Nat.le_of_ble_eq_true rfl) dX10_behindBlanks_37
          · have hw : t_at g L j = 32 ∨ t_at g L j = 10 := Or.inr c_27
            refine lv_iinc (v := nI (j + 1)) (lv' := [(2, .int (nI (j + 1))), (0, .ref x), (1, .int (nI j0))]) hx hb dX10_behindBlanks_30 hl (k := 2) rfl (nI_1 j) (by decide) rfl (fun ls hl => ?_)
            refine lv_goto (tgt := 2) hx hb dX10_behindBlanks_33 (by decide) ?_
            exact ih (j + 1) hlt (hinv.trans (by unfold t_skip; rw [show L - j = (L - (j + 1)) + 1 by omega]; exact if_pos ⟨hlt, hw⟩)) (by omega) _ _ _ hW hS (lv_sub hl [1, 2, 0] rfl)
  exact K2 _ j0 hj0 rfl (Nat.lt_succ_self _) _ _ _ hW hS (lv_sub hl [1, 2, 0] rfl)

set_option maxHeartbeats 4000000 in
set_option maxRecDepth 100000 in
theorem kX10_endOfToken (l : Launch) (E : q_E) (f : q_H) (n : Nat) (x L : Nat) (g : Nat → Int32) (j0 : Nat) (h0 : f x = some (cTape x (nI L))) (h1 : f (x + 1) = some (aB E 1600 g)) (hL : L ≤ 1600) (hj0 : j0 < L) : Met l yX10_endOfToken wsX10_endOfToken ({ frames := 2, cells := 0, slots := 0, locals := 41 }) (q_P E [.ref x, .int (nI j0)] f n) (q_Qi E (fun r f1 n1 => nI (t_end g L j0) = r ∧ f = f1 ∧ n = n1)) 0 0 (q_ge E) := by
  refine Met.ofW (cc := cX10_endOfToken) (maxL := 4) (ret := (some .int)) (by decide) rfl ?_
  intro p e s m args below meth c s₁ B hml hv
  obtain ⟨rfl, hA, hW⟩ := hv
  have hx := B.exec
  have hb := B.bytes
  have hr := B.returns
  have hts := atoms_spec (ws := wsX10_endOfToken) B.pre
  have hown : s.vm.findClass RX10 = some m.cls := findClass_of_methodNamed B.named
  have hlocks := B.notSynchronized
  have hS : va_S (q_ge E) s.heap s.heap [] := va_S.rf
  have iX9 : ∀ w ∈ wsX90, w ∈ wsX10_endOfToken := by decide +kernel
  have hl := lv_entry ([.ref x, .int (nI j0)]) (n := 4) (Nat.le_of_ble_eq_true rfl)
  rw [lg_entry_eq]
  generalize (lg_sl ([.ref x, .int (nI j0)]) ++ List.replicate (4 - (lg_sl ([.ref x, .int (nI j0)])).length) Slot.unset).toArray = ls at hl ⊢
  have hl : lv_has ls 4 [(0, .ref x), (1, .int (nI j0))] := hl
  refine lv_aload_n hx hb dX10_endOfToken_0 rfl (lv_at hl 0 rfl) ?_
  refine lv_iload_n hx hb dX10_endOfToken_1 rfl (lv_at hl 1 rfl) ?_
  refine q_ci (va_runV (As := [.int (nI j0)]) (rest := []) ⟨hx, hb, hml, hown, hts⟩ (kX9_byteAt l E f n x L g j0 h0 h1 (by assumption) (by omega)) (cwV 1 hts gX10_endOfToken_X9_byteAt rfl rfl rfl (by decide +kernel) ⟨(Nat.le_of_ble_eq_true rfl), (Nat.le_of_ble_eq_true rfl)⟩) (q_pV hA hW hS (ci := 9) rfl h0) rfl rfl hl.1 rfl (lv_room (Nat.le_of_ble_eq_true rfl)) dX10_endOfToken_2 ⟨Nat.le_of_ble_eq_true rfl, Nat.le_of_ble_eq_true rfl⟩) hS (fun r_2 f_2 n_2 H locs hp hW hS => ?_)
  obtain ⟨rfl, rfl, rfl⟩ := hp
  have hW : q_W E (f) n H := hW
  refine lv_istore_n (lv' := [(2, .int (t_at g L j0)), (0, .ref x), (1, .int (nI j0))]) hx hb dX10_endOfToken_5 rfl hl (by decide) rfl (fun ls hl => ?_)
  refine lv_iload_n hx hb dX10_endOfToken_6 rfl (lv_at hl 2 rfl) ?_
  refine lv_iconst (v := 1) hx hb dX10_endOfToken_7 (by decide) ?_
  refine lv_iadd hx hb dX10_endOfToken_8 ?_
  rw [nI_1]
  refine lv_istore_n (lv' := [(3, .int (nI (j0 + 1))), (2, .int (t_at g L j0)), (0, .ref x), (1, .int (nI j0))]) hx hb dX10_endOfToken_9 rfl hl (by decide) rfl (fun ls hl => ?_)
  have K10 : ∀ (fu : Nat) (j : Nat) (hj : j ≤ L) (hinv : t_end g L j0 = t_endF g L (t_at g L j0) (L - j) j) (hm : L - j < fu) (H : Heap) (locs : List Loc) (ls : Array Slot), q_W E (f) n H → va_S (q_ge E) s.heap H locs → lv_has ls 4 [(0, .ref x), (1, .int (nI j0)), (2, .int (t_at g L j0)), (3, .int (nI j))] → W p l e (headSpec wsX10_endOfToken ({ frames := 2, cells := 0, slots := 0, locals := 41 })).room s m ([.ref x, .int (nI j0)] : List Value).toArray below meth c H locs 0 0 (MQ below (q_Qi E (fun r f1 n1 => nI (t_end g L j0) = r ∧ f = f1 ∧ n = n1)) ([.ref x, .int (nI j0)] : List Value).toArray s 0 0 (q_ge E)) (F0 m 10 ls []) := by
    intro fu
    induction fu with
    | zero =>
      intro j hj hinv hm
      exact absurd hm (Nat.not_lt_zero _)
    | succ fu ih =>
      intro j hj hinv hm H locs ls hW hS hl
      refine lv_iload_n hx hb dX10_endOfToken_10 rfl (lv_at hl 3 rfl) ?_
      refine lv_aload_n hx hb dX10_endOfToken_11 rfl (lv_at hl 0 rfl) ?_
      refine q_getN hx hb hts hown hA hW iX9 h0 rfl 1 (by decide) (va_Nw.use rfl (hA.2.2.2.1 ("HighRecipes$Tokens", 38, "HighRecipes$Tape", "length", "I", "HighRecipes") (by decide +kernel))) (fun _ h9 => h9) (v := .int (nI L)) rfl dX10_endOfToken_12 ?_
      refine lv_icmp_ge (tgt := 36) hx hb dX10_endOfToken_15 (by decide) (fun c_15 => ?_) (fun c_15 => ?_)
      · have ej : j = L := by rcases Nat.lt_or_ge j L with h9 | h9; exact absurd c_15 (nI_ge h9 (by omega)); omega
        refine lv_iload_n hx hb dX10_endOfToken_36 rfl (lv_at hl 3 rfl) ?_
        exact q_iret hx hb hr hlocks hW hS ⟨(by rw [hinv]; first | (subst ej; rw [Nat.sub_self]; rfl) | (rw [show L - j = (L - (j + 1)) + 1 by omega]; exact congrArg nI (if_neg fun h9 => by rw [hw] at h9; cases h9.2))), rfl, rfl⟩ (Nat.le_of_ble_eq_true rfl) (Nat.le_of_ble_eq_true rfl) dX10_endOfToken_37
      · have hlt : j < L := by rcases Nat.lt_or_ge j L with h9 | h9; exact h9; exact absurd (nI_le h9 (by omega)) c_15
        refine lv_iload_n hx hb dX10_endOfToken_18 rfl (lv_at hl 2 rfl) ?_
        refine lv_aload_n hx hb dX10_endOfToken_19 rfl (lv_at hl 0 rfl) ?_
        refine lv_iload_n hx hb dX10_endOfToken_20 rfl (lv_at hl 3 rfl) ?_
        refine q_ci (va_runV (As := [.int (nI j)]) (rest := [.int (t_at g L j0)]) ⟨hx, hb, hml, hown, hts⟩ (kX9_byteAt l E f n x L g j h0 h1 (by assumption) (by omega)) (cwV 1 hts gX10_endOfToken_X9_byteAt rfl rfl rfl (by decide +kernel) ⟨(Nat.le_of_ble_eq_true rfl), (Nat.le_of_ble_eq_true rfl)⟩) (q_pV hA hW hS (ci := 9) rfl h0) rfl rfl hl.1 rfl (lv_room (Nat.le_of_ble_eq_true rfl)) dX10_endOfToken_21 ⟨Nat.le_of_ble_eq_true rfl, Nat.le_of_ble_eq_true rfl⟩) hS (fun r_21 f_21 n_21 H locs hp hW hS => ?_)
        obtain ⟨rfl, rfl, rfl⟩ := hp
        have hW : q_W E (f) n H := hW
        refine q_ci (va_runS (As := [.int (t_at g L j0), .int (t_at g L j)]) (rest := []) ⟨hx, hb, hml, hown, hts⟩ (kX10_goesOn l E f n (t_at g L j0) (t_at g L j)) (va_cwS 2 hts gX10_endOfToken_X10_goesOn rfl rfl rfl (by decide +kernel) ⟨(Nat.le_of_ble_eq_true rfl), (Nat.le_of_ble_eq_true rfl)⟩) (q_pS hA hW hS) rfl rfl hl.1 rfl (lv_room (Nat.le_of_ble_eq_true rfl)) dX10_endOfToken_24 ⟨Nat.le_of_ble_eq_true rfl, Nat.le_of_ble_eq_true rfl⟩) hS (fun r_24 f_24 n_24 H locs hp hW hS => ?_)
        obtain ⟨rfl, rfl, rfl⟩ := hp
        have hW : q_W E (f) n H := hW
        refine lv_if_eq (tgt := 36) hx hb dX10_endOfToken_27 (by decide) (fun c_27 => ?_) (fun c_27 => ?_)
        · have hw := b01_0 c_27
          refine lv_iload_n hx hb dX10_endOfToken_36 rfl (lv_at hl 3 rfl) ?_
          exact q_iret hx hb hr hlocks hW hS ⟨(by rw [hinv]; first | (subst ej; rw [Nat.sub_self]; rfl) | (rw [show L - j = (L - (j + 1)) + 1 by omega]; exact congrArg nI (if_neg fun h9 => by rw [hw] at h9; cases h9.2))), rfl, rfl⟩ (Nat.le_of_ble_eq_true rfl) (Nat.le_of_ble_eq_true rfl) dX10_endOfToken_37
        · have hw := b01_1 c_27
          refine lv_iinc (v := nI (j + 1)) (lv' := [(3, .int (nI (j + 1))), (0, .ref x), (1, .int (nI j0)), (2, .int (t_at g L j0))]) hx hb dX10_endOfToken_30 hl (k := 3) rfl (nI_1 j) (by decide) rfl (fun ls hl => ?_)
          refine lv_goto (tgt := 10) hx hb dX10_endOfToken_33 (by decide) ?_
          exact ih (j + 1) hlt (hinv.trans (by rw [show L - j = (L - (j + 1)) + 1 by omega]; exact if_pos ⟨hlt, hw⟩)) (by omega) _ _ _ hW hS (lv_sub hl [1, 2, 3, 0] rfl)
  exact K10 _ (j0 + 1) hj0 rfl (Nat.lt_succ_self _) _ _ _ hW hS (lv_sub hl [2, 3, 1, 0] rfl)

set_option maxHeartbeats 4000000 in
set_option maxRecDepth 100000 in
theorem kX10_worthOf (l : Launch) (E : q_E) (f : q_H) (n : Nat) (x L : Nat) (g : Nat → Int32) (j0 e0 : Nat) (h0 : f x = some (cTape x (nI L))) (h1 : f (x + 1) = some (aB E 1600 g)) (hL : L ≤ 1600) (hj0 : j0 ≤ e0) (he0 : e0 ≤ L) : Met l yX10_worthOf wsX10_worthOf ({ frames := 1, cells := 0, slots := 0, locals := 22 }) (q_P E [.ref x, .int (nI j0), .int (nI e0)] f n) (q_Ql E (fun r f1 n1 => t_wor g L j0 e0 = r ∧ f = f1 ∧ n = n1)) 0 0 (q_ge E) := by
  refine Met.ofW (cc := cX10_worthOf) (maxL := 7) (ret := (some .long)) (by decide) rfl ?_
  intro p e s m args below meth c s₁ B hml hv
  obtain ⟨rfl, hA, hW⟩ := hv
  have hx := B.exec
  have hb := B.bytes
  have hr := B.returns
  have hts := atoms_spec (ws := wsX10_worthOf) B.pre
  have hown : s.vm.findClass RX10 = some m.cls := findClass_of_methodNamed B.named
  have hlocks := B.notSynchronized
  have hS : va_S (q_ge E) s.heap s.heap [] := va_S.rf
  have hl := lv_entry ([.ref x, .int (nI j0), .int (nI e0)]) (n := 7) (Nat.le_of_ble_eq_true rfl)
  rw [lg_entry_eq]
  generalize (lg_sl ([.ref x, .int (nI j0), .int (nI e0)]) ++ List.replicate (7 - (lg_sl ([.ref x, .int (nI j0), .int (nI e0)])).length) Slot.unset).toArray = ls at hl ⊢
  have hl : lv_has ls 7 [(0, .ref x), (1, .int (nI j0)), (2, .int (nI e0))] := hl
  refine lv_lconst (v := 0) hx hb dX10_worthOf_0 (by decide) ?_
  refine lv_lstore_n (lv' := [(3, .long 0), (0, .ref x), (1, .int (nI j0)), (2, .int (nI e0))]) hx hb dX10_worthOf_1 rfl hl (by decide) rfl (fun ls hl => ?_)
  refine lv_iload_n hx hb dX10_worthOf_2 rfl (lv_at hl 2 rfl) ?_
  refine lv_istore (lv' := [(5, .int (nI j0)), (3, .long 0), (0, .ref x), (1, .int (nI j0)), (2, .int (nI e0))]) hx hb dX10_worthOf_3 hl (by decide) rfl (fun ls hl => ?_)
  have K5 : ∀ (fu : Nat) (j : Nat) (w : Int64) (hj : j ≤ e0) (hinv : t_wor g L j0 e0 = t_worF g L (e0 - j) j w) (hm : e0 - j < fu) (H : Heap) (locs : List Loc) (ls : Array Slot), q_W E (f) n H → va_S (q_ge E) s.heap H locs → lv_has ls 7 [(0, .ref x), (1, .int (nI j0)), (2, .int (nI e0)), (3, .long w), (5, .int (nI j))] → W p l e (headSpec wsX10_worthOf ({ frames := 1, cells := 0, slots := 0, locals := 22 })).room s m ([.ref x, .int (nI j0), .int (nI e0)] : List Value).toArray below meth c H locs 0 0 (MQ below (q_Ql E (fun r f1 n1 => t_wor g L j0 e0 = r ∧ f = f1 ∧ n = n1)) ([.ref x, .int (nI j0), .int (nI e0)] : List Value).toArray s 0 0 (q_ge E)) (F0 m 5 ls []) := by
    intro fu
    induction fu with
    | zero =>
      intro j w hj hinv hm
      exact absurd hm (Nat.not_lt_zero _)
    | succ fu ih =>
      intro j w hj hinv hm H locs ls hW hS hl
      refine lv_iload hx hb dX10_worthOf_5 (lv_at hl 4 rfl) ?_
      refine lv_iload_n hx hb dX10_worthOf_7 rfl (lv_at hl 2 rfl) ?_
      refine lv_icmp_ge (tgt := 55) hx hb dX10_worthOf_8 (by decide) (fun c_8 => ?_) (fun c_8 => ?_)
      · have ej : j = e0 := by rcases Nat.lt_or_ge j e0 with h9 | h9; exact absurd c_8 (nI_ge h9 (by omega)); omega
        refine lv_lload_n hx hb dX10_worthOf_55 rfl (lv_at hl 3 rfl) ?_
        exact q_lret hx hb hr hlocks hW hS ⟨(by rw [hinv, ej, Nat.sub_self]; rfl), rfl, rfl⟩ (Nat.le_of_ble_eq_true rfl) (Nat.le_of_ble_eq_true rfl) dX10_worthOf_56
      · have hlt : j < e0 := by rcases Nat.lt_or_ge j e0 with h9 | h9; exact h9; exact absurd (nI_le h9 (by omega)) c_8
        refine lv_aload_n hx hb dX10_worthOf_11 rfl (lv_at hl 0 rfl) ?_
        refine lv_iload hx hb dX10_worthOf_12 (lv_at hl 4 rfl) ?_
        refine q_ci (va_runV (As := [.int (nI j)]) (rest := []) ⟨hx, hb, hml, hown, hts⟩ (kX9_byteAt l E f n x L g j h0 h1 (by assumption) (by omega)) (cwV 1 hts gX10_worthOf_X9_byteAt rfl rfl rfl (by decide +kernel) ⟨(Nat.le_of_ble_eq_true rfl), (Nat.le_of_ble_eq_true rfl)⟩) (q_pV hA hW hS (ci := 9) rfl h0) rfl rfl hl.1 rfl (lv_room (Nat.le_of_ble_eq_true rfl)) dX10_worthOf_14 ⟨Nat.le_of_ble_eq_true rfl, Nat.le_of_ble_eq_true rfl⟩) hS (fun r_14 f_14 n_14 H locs hp hW hS => ?_)
        obtain ⟨rfl, rfl, rfl⟩ := hp
        have hW : q_W E (f) n H := hW
        refine lv_istore (lv' := [(6, .int (t_at g L j)), (0, .ref x), (1, .int (nI j0)), (2, .int (nI e0)), (3, .long w), (5, .int (nI j))]) hx hb dX10_worthOf_17 hl (by decide) rfl (fun ls hl => ?_)
        refine lv_iload hx hb dX10_worthOf_19 (lv_at hl 0 rfl) ?_
        refine q_ci (va_runS (As := [.int (t_at g L j)]) (rest := []) ⟨hx, hb, hml, hown, hts⟩ (kX10_isDigit l E f n (t_at g L j)) (va_cwS 1 hts gX10_worthOf_X10_isDigit rfl rfl rfl (by decide +kernel) ⟨(Nat.le_of_ble_eq_true rfl), (Nat.le_of_ble_eq_true rfl)⟩) (q_pS hA hW hS) rfl rfl hl.1 rfl (lv_room (Nat.le_of_ble_eq_true rfl)) dX10_worthOf_21 ⟨Nat.le_of_ble_eq_true rfl, Nat.le_of_ble_eq_true rfl⟩) hS (fun r_21 f_21 n_21 H locs hp hW hS => ?_)
        obtain ⟨rfl, rfl, rfl⟩ := hp
        have hW : q_W E (f) n H := hW
        refine lv_if_eq (tgt := 42) hx hb dX10_worthOf_24 (by decide) (fun c_24 => ?_) (fun c_24 => ?_)
        · have hw := b01_0 c_24
          refine lv_lload_n hx hb dX10_worthOf_42 rfl (lv_at hl 4 rfl) ?_
          refine lv_iload hx hb dX10_worthOf_43 (lv_at hl 0 rfl) ?_
          refine q_cl (va_runS (As := [.long w, .int (t_at g L j)]) (rest := []) ⟨hx, hb, hml, hown, hts⟩ (kX5_withLetter l E f n w (t_at g L j)) (va_cwS 2 hts gX10_worthOf_X5_withLetter rfl rfl rfl (by decide +kernel) ⟨(Nat.le_of_ble_eq_true rfl), (Nat.le_of_ble_eq_true rfl)⟩) (q_pS hA hW hS) rfl rfl hl.1 rfl (lv_room (Nat.le_of_ble_eq_true rfl)) dX10_worthOf_45 ⟨Nat.le_of_ble_eq_true rfl, Nat.le_of_ble_eq_true rfl⟩) hS (fun r_45 f_45 n_45 H locs hp hW hS => ?_)
          obtain ⟨rfl, rfl, rfl⟩ := hp
          have hW : q_W E (f) n H := hW
          refine lv_lstore_n (lv' := [(3, .long (w * 32 + ((t_at g L j) - 97 + 1).toInt64)), (6, .int (t_at g L j)), (0, .ref x), (1, .int (nI j0)), (2, .int (nI e0)), (5, .int (nI j))]) hx hb dX10_worthOf_48 rfl hl (by decide) rfl (fun ls hl => ?_)
          refine lv_iinc (v := nI (j + 1)) (lv' := [(5, .int (nI (j + 1))), (3, .long (w * 32 + ((t_at g L j) - 97 + 1).toInt64)), (6, .int (t_at g L j)), (0, .ref x), (1, .int (nI j0)), (2, .int (nI e0))]) hx hb dX10_worthOf_49 hl (k := 5) rfl (nI_1 j) (by decide) rfl (fun ls hl => ?_)
          refine lv_goto (tgt := 5) hx hb dX10_worthOf_52 (by decide) ?_
          exact ih (j + 1) (w * 32 + ((t_at g L j) - 97 + 1).toInt64) hlt (hinv.trans (by rw [show e0 - j = (e0 - (j + 1)) + 1 by omega]; show t_worF g L (e0 - (j + 1)) (j + 1) (t_w1 w (t_at g L j)) = _; unfold t_w1; first | rw [if_pos hw] | rw [if_neg (by rw [hw]; decide)])) (by omega) _ _ _ hW hS (lv_sub hl [3, 4, 5, 1, 0] rfl)
        · have hw := b01_1 c_24
          refine lv_lload_n hx hb dX10_worthOf_27 rfl (lv_at hl 4 rfl) ?_
          refine lv_ldc2 hx hb hown (hts (.constantLong RX10 83 (10)) (by decide +kernel)) dX10_worthOf_28 ?_
          refine lv_lmul hx hb dX10_worthOf_31 ?_
          refine lv_iload hx hb dX10_worthOf_32 (lv_at hl 0 rfl) ?_
          refine lv_bipush (v := 48) hx hb dX10_worthOf_34 (by decide) ?_
          refine lv_isub hx hb dX10_worthOf_36 ?_
          refine lv_i2l hx hb dX10_worthOf_37 rfl ?_
          refine lv_ladd hx hb dX10_worthOf_38 ?_
          refine lv_goto (tgt := 48) hx hb dX10_worthOf_39 (by decide) ?_
          refine lv_lstore_n (lv' := [(3, .long ((w * 10) + (((t_at g L j) - 48).toInt64))), (6, .int (t_at g L j)), (0, .ref x), (1, .int (nI j0)), (2, .int (nI e0)), (5, .int (nI j))]) hx hb dX10_worthOf_48 rfl hl (by decide) rfl (fun ls hl => ?_)
          refine lv_iinc (v := nI (j + 1)) (lv' := [(5, .int (nI (j + 1))), (3, .long ((w * 10) + (((t_at g L j) - 48).toInt64))), (6, .int (t_at g L j)), (0, .ref x), (1, .int (nI j0)), (2, .int (nI e0))]) hx hb dX10_worthOf_49 hl (k := 5) rfl (nI_1 j) (by decide) rfl (fun ls hl => ?_)
          refine lv_goto (tgt := 5) hx hb dX10_worthOf_52 (by decide) ?_
          exact ih (j + 1) ((w * 10) + (((t_at g L j) - 48).toInt64)) hlt (hinv.trans (by rw [show e0 - j = (e0 - (j + 1)) + 1 by omega]; show t_worF g L (e0 - (j + 1)) (j + 1) (t_w1 w (t_at g L j)) = _; unfold t_w1; first | rw [if_pos hw] | rw [if_neg (by rw [hw]; decide)])) (by omega) _ _ _ hW hS (lv_sub hl [3, 4, 5, 1, 0] rfl)
  exact K5 _ j0 0 hj0 rfl (Nat.lt_succ_self _) _ _ _ hW hS (lv_sub hl [2, 3, 4, 1, 0] rfl)

set_option maxHeartbeats 4000000 in
set_option maxRecDepth 100000 in
theorem kX10_kindOf (l : Launch) (E : q_E) (f : q_H) (n : Nat) (c9 : Int32) (len : Nat) (w : Int64)  (hlen : len < 2 ^ 31) : Met l yX10_kindOf wsX10_kindOf ({ frames := 1, cells := 0, slots := 0, locals := 25 }) (q_P E [.int c9, .int (nI len), .long w] f n) (q_Qq E (fun r f1 n1 => some (E.2.2.2 (t_kind c9 len w)) = r ∧ f = f1 ∧ n = n1)) 0 0 (q_ge E) := by
  refine Met.ofW (cc := cX10_kindOf) (maxL := 4) (ret := (some (.object "HighRecipes$Kind"))) (by decide) rfl ?_
  intro p e s m args below meth c s₁ B hml hv
  obtain ⟨rfl, hA, hW⟩ := hv
  have hx := B.exec
  have hb := B.bytes
  have hr := B.returns
  have hts := atoms_spec (ws := wsX10_kindOf) B.pre
  have hown : s.vm.findClass RX10 = some m.cls := findClass_of_methodNamed B.named
  have hlocks := B.notSynchronized
  have hS : va_S (q_ge E) s.heap s.heap [] := va_S.rf
  have hl := lv_entry ([.int c9, .int (nI len), .long w]) (n := 4) (Nat.le_of_ble_eq_true rfl)
  rw [lg_entry_eq]
  generalize (lg_sl ([.int c9, .int (nI len), .long w]) ++ List.replicate (4 - (lg_sl ([.int c9, .int (nI len), .long w])).length) Slot.unset).toArray = ls at hl ⊢
  have hl : lv_has ls 4 [(0, .int c9), (1, .int (nI len)), (2, .long w)] := hl
  refine lv_iload_n hx hb dX10_kindOf_0 rfl (lv_at hl 0 rfl) ?_
  refine q_ci (va_runS (As := [.int c9]) (rest := []) ⟨hx, hb, hml, hown, hts⟩ (kX10_isLetter l E f n c9) (va_cwS 1 hts gX10_kindOf_X10_isLetter rfl rfl rfl (by decide +kernel) ⟨(Nat.le_of_ble_eq_true rfl), (Nat.le_of_ble_eq_true rfl)⟩) (q_pS hA hW hS) rfl rfl hl.1 rfl (lv_room (Nat.le_of_ble_eq_true rfl)) dX10_kindOf_1 ⟨Nat.le_of_ble_eq_true rfl, Nat.le_of_ble_eq_true rfl⟩) hS (fun r_1 f_1 n_1 H locs hp hW hS => ?_)
  obtain ⟨rfl, rfl, rfl⟩ := hp
  have hW : q_W E (f) n H := hW
  refine lv_if_eq (tgt := 24) hx hb dX10_kindOf_4 (by decide) (fun c_4 => ?_) (fun c_4 => ?_)
  · have h4 := b01_0 c_4
    have e4 : ¬ b_let c9 = true := by rw [h4]; decide
    refine lv_iload_n hx hb dX10_kindOf_24 rfl (lv_at hl 0 rfl) ?_
    refine q_ci (va_runS (As := [.int c9]) (rest := []) ⟨hx, hb, hml, hown, hts⟩ (kX10_isDigit l E f n c9) (va_cwS 1 hts gX10_kindOf_X10_isDigit rfl rfl rfl (by decide +kernel) ⟨(Nat.le_of_ble_eq_true rfl), (Nat.le_of_ble_eq_true rfl)⟩) (q_pS hA hW hS) rfl rfl hl.1 rfl (lv_room (Nat.le_of_ble_eq_true rfl)) dX10_kindOf_25 ⟨Nat.le_of_ble_eq_true rfl, Nat.le_of_ble_eq_true rfl⟩) hS (fun r_25 f_25 n_25 H locs hp hW hS => ?_)
    obtain ⟨rfl, rfl, rfl⟩ := hp
    have hW : q_W E (f) n H := hW
    refine lv_if_eq (tgt := 46) hx hb dX10_kindOf_28 (by decide) (fun c_28 => ?_) (fun c_28 => ?_)
    · have h28 := b01_0 c_28
      have e28 : ¬ b_dig c9 = true := by rw [h28]; decide
      refine lv_iload_n hx hb dX10_kindOf_46 rfl (lv_at hl 0 rfl) ?_
      refine q_cq (va_runS (As := [.int c9]) (rest := []) ⟨hx, hb, hml, hown, hts⟩ (kX5_ofSign l E f n c9) (va_cwS 1 hts gX10_kindOf_X5_ofSign rfl rfl rfl (by decide +kernel) ⟨(Nat.le_of_ble_eq_true rfl), (Nat.le_of_ble_eq_true rfl)⟩) (q_pS hA hW hS) rfl rfl hl.1 rfl (lv_room (Nat.le_of_ble_eq_true rfl)) dX10_kindOf_47 ⟨Nat.le_of_ble_eq_true rfl, Nat.le_of_ble_eq_true rfl⟩) hS (fun r_47 f_47 n_47 H locs hp hW hS => ?_)
      obtain ⟨rfl, rfl, rfl⟩ := hp
      have hW : q_W E (f) n H := hW
      exact q_aret (v := some (E.2.2.2 (k_sign c9))) hx hb hr (Or.inl ⟨_, rfl⟩) hlocks hW hS ⟨(by unfold t_kind; rw [if_neg e4, if_neg e28]), rfl, rfl⟩ (Nat.le_of_ble_eq_true rfl) (Nat.le_of_ble_eq_true rfl) dX10_kindOf_50
    · have e28 := b01_1 c_28
      refine lv_iload_n hx hb dX10_kindOf_31 rfl (lv_at hl 1 rfl) ?_
      refine lv_iconst (v := 3) hx hb dX10_kindOf_32 (by decide) ?_
      refine lv_icmp_gt (tgt := 42) hx hb dX10_kindOf_33 (by decide) (fun c_33 => ?_) (fun c_33 => ?_)
      · have e10 : ¬ len ≤ 3 := fun h9 => absurd c_33 (q_nlt2 (show nI len ≤ nI 3 from nI_le h9 (by decide)))
        refine va_gets (n := "BAD") (v := .ref (E.2.2.2 40)) hx hb (hA.2.2.1.1.1 40 (by decide)).1 hS hown (hts (.fieldLink RX10 43 "HighRecipes$Kind" "BAD" "LHighRecipes$Kind;") (by decide +kernel)) (fun _ h9 => h9) dX10_kindOf_42 ?_
        exact q_aret (v := some (E.2.2.2 40)) hx hb hr (Or.inl ⟨_, rfl⟩) hlocks hW hS ⟨(by unfold t_kind; first | rw [if_neg e4, if_pos e28, if_pos e10] | rw [if_neg e4, if_pos e28, if_neg e10]), rfl, rfl⟩ (Nat.le_of_ble_eq_true rfl) (Nat.le_of_ble_eq_true rfl) dX10_kindOf_45
      · have e10 : len ≤ 3 := by rcases Nat.lt_or_ge 3 len with h9 | h9; exact absurd (show nI 3 < nI len from nI_lt h9 hlen) c_33; exact h9
        refine va_gets (n := "NUMBER") (v := .ref (E.2.2.2 38)) hx hb (hA.2.2.1.1.1 38 (by decide)).1 hS hown (hts (.fieldLink RX10 93 "HighRecipes$Kind" "NUMBER" "LHighRecipes$Kind;") (by decide +kernel)) (fun _ h9 => h9) dX10_kindOf_36 ?_
        refine lv_goto (tgt := 45) hx hb dX10_kindOf_39 (by decide) ?_
        exact q_aret (v := some (E.2.2.2 38)) hx hb hr (Or.inl ⟨_, rfl⟩) hlocks hW hS ⟨(by unfold t_kind; first | rw [if_neg e4, if_pos e28, if_pos e10] | rw [if_neg e4, if_pos e28, if_neg e10]), rfl, rfl⟩ (Nat.le_of_ble_eq_true rfl) (Nat.le_of_ble_eq_true rfl) dX10_kindOf_45
  · have e4 := b01_1 c_4
    refine lv_iload_n hx hb dX10_kindOf_7 rfl (lv_at hl 1 rfl) ?_
    refine lv_bipush (v := 8) hx hb dX10_kindOf_8 (by decide) ?_
    refine lv_icmp_gt (tgt := 20) hx hb dX10_kindOf_10 (by decide) (fun c_10 => ?_) (fun c_10 => ?_)
    · have e10 : ¬ len ≤ 8 := fun h9 => absurd c_10 (q_nlt2 (show nI len ≤ nI 8 from nI_le h9 (by decide)))
      refine va_gets (n := "BAD") (v := .ref (E.2.2.2 40)) hx hb (hA.2.2.1.1.1 40 (by decide)).1 hS hown (hts (.fieldLink RX10 43 "HighRecipes$Kind" "BAD" "LHighRecipes$Kind;") (by decide +kernel)) (fun _ h9 => h9) dX10_kindOf_20 ?_
      exact q_aret (v := some (E.2.2.2 40)) hx hb hr (Or.inl ⟨_, rfl⟩) hlocks hW hS ⟨(by unfold t_kind; first | rw [if_pos e4, if_pos e10] | rw [if_pos e4, if_neg e10]), rfl, rfl⟩ (Nat.le_of_ble_eq_true rfl) (Nat.le_of_ble_eq_true rfl) dX10_kindOf_23
    · have e10 : len ≤ 8 := by rcases Nat.lt_or_ge 8 len with h9 | h9; exact absurd (show nI 8 < nI len from nI_lt h9 hlen) c_10; exact h9
      refine lv_lload_n hx hb dX10_kindOf_13 rfl (lv_at hl 2 rfl) ?_
      refine q_cq (va_runS (As := [.long w]) (rest := []) ⟨hx, hb, hml, hown, hts⟩ (kX5_ofWord l E f n w) (va_cwS 1 hts gX10_kindOf_X5_ofWord rfl rfl rfl (by decide +kernel) ⟨(Nat.le_of_ble_eq_true rfl), (Nat.le_of_ble_eq_true rfl)⟩) (q_pS hA hW hS) rfl rfl hl.1 rfl (lv_room (Nat.le_of_ble_eq_true rfl)) dX10_kindOf_14 ⟨Nat.le_of_ble_eq_true rfl, Nat.le_of_ble_eq_true rfl⟩) hS (fun r_14 f_14 n_14 H locs hp hW hS => ?_)
      obtain ⟨rfl, rfl, rfl⟩ := hp
      have hW : q_W E (f) n H := hW
      refine lv_goto (tgt := 23) hx hb dX10_kindOf_17 (by decide) ?_
      exact q_aret (v := some (E.2.2.2 (k_word w))) hx hb hr (Or.inl ⟨_, rfl⟩) hlocks hW hS ⟨(by unfold t_kind; first | rw [if_pos e4, if_pos e10] | rw [if_pos e4, if_neg e10]), rfl, rfl⟩ (Nat.le_of_ble_eq_true rfl) (Nat.le_of_ble_eq_true rfl) dX10_kindOf_23

set_option maxHeartbeats 4000000 in
set_option maxRecDepth 100000 in
theorem kX10_add (l : Launch) (E : q_E) (f : q_H) (n : Nat) (t : Nat) (kk : Nat → Option Nat) (po : Nat → Int32) (wo : Nat → Int64) (c9 : Nat) (here : Int32) (k0 kd : Nat) (y : Int32) (w : Int64) (h0 : f t = some (cTok E t (nI c9) here k0)) (h1 : f (t + 1) = some (aQ E 5 401 kk)) (h2 : f (t + 2) = some (aI E 401 po)) (h3 : f (t + 3) = some (aJ E 401 wo)) (hc : c9 < 401) (hkd : kd < 41) : Met l yX10_add wsX10_add ({ frames := 0, cells := 0, slots := 0, locals := 0 }) (q_P E [.ref t, .ref (E.2.2.2 kd), .int y, .long w] f n) (q_Qv E (fun f1 n1 => va_up (va_up (va_up (va_up f (t + 1) (some (aQ E 5 401 (va_up kk c9 (some (E.2.2.2 kd)))))) (t + 2) (some (aI E 401 (upd po c9 y)))) (t + 3) (some (aJ E 401 (vp_updL wo c9 w)))) t (some (cTok E t (nI (c9 + 1)) here k0)) = f1 ∧ n = n1)) 0 0 (q_ge E) := by
  refine Met.ofW (cc := cX10_add) (maxL := 5) (ret := none) (by decide) rfl ?_
  intro p e s m args below meth c s₁ B hml hv
  obtain ⟨rfl, hA, hW⟩ := hv
  have hx := B.exec
  have hb := B.bytes
  have hr := B.returns
  have hts := atoms_spec (ws := wsX10_add) B.pre
  have hown : s.vm.findClass RX10 = some m.cls := findClass_of_methodNamed B.named
  have hlocks := B.notSynchronized
  have hS : va_S (q_ge E) s.heap s.heap [] := va_S.rf
  have iX10 : ∀ w ∈ wsX100, w ∈ wsX10_add := by decide +kernel
  have hl := lv_entry ([.ref t, .ref (E.2.2.2 kd), .int y, .long w]) (n := 5) (Nat.le_of_ble_eq_true rfl)
  rw [lg_entry_eq]
  generalize (lg_sl ([.ref t, .ref (E.2.2.2 kd), .int y, .long w]) ++ List.replicate (5 - (lg_sl ([.ref t, .ref (E.2.2.2 kd), .int y, .long w])).length) Slot.unset).toArray = ls at hl ⊢
  have hl : lv_has ls 5 [(0, .ref t), (1, .ref (E.2.2.2 kd)), (2, .int y), (3, .long w)] := hl
  refine lv_aload_n hx hb dX10_add_0 rfl (lv_at hl 0 rfl) ?_
  refine q_get hx hb hts hown hA hW iX10 h0 rfl 3 (by decide) (hts (.fieldLink RX10 30 "HighRecipes$Tokens" "count" "I") (by decide +kernel)) (fun _ h9 => h9) (v := .int (nI c9)) rfl dX10_add_1 ?_
  refine lv_if_lt (tgt := 83) hx hb dX10_add_4 (by decide) (fun c_4 => absurd c_4 (nI_pos (by omega))) (fun c_4 => ?_)
  refine lv_aload_n hx hb dX10_add_7 rfl (lv_at hl 0 rfl) ?_
  refine q_get hx hb hts hown hA hW iX10 h0 rfl 3 (by decide) (hts (.fieldLink RX10 30 "HighRecipes$Tokens" "count" "I") (by decide +kernel)) (fun _ h9 => h9) (v := .int (nI c9)) rfl dX10_add_8 ?_
  refine lv_aload_n hx hb dX10_add_11 rfl (lv_at hl 0 rfl) ?_
  refine q_get hx hb hts hown hA hW iX10 h0 rfl 0 (by decide) (hts (.fieldLink RX10 11 "HighRecipes$Tokens" "kinds" "[LHighRecipes$Kind;") (by decide +kernel)) (fun _ h9 => h9) (v := .ref (t + 1)) rfl dX10_add_12 ?_
  refine q_alen hx hb hA hW 5 rfl h1 (v := Int32.ofNat 401) rfl dX10_add_15 ?_
  refine lv_icmp_ge (tgt := 83) hx hb dX10_add_16 (by decide) (fun c_16 => absurd c_16 (nI_ge hc (by decide))) (fun c_16 => ?_)
  refine lv_aload_n hx hb dX10_add_19 rfl (lv_at hl 0 rfl) ?_
  refine q_get hx hb hts hown hA hW iX10 h0 rfl 3 (by decide) (hts (.fieldLink RX10 30 "HighRecipes$Tokens" "count" "I") (by decide +kernel)) (fun _ h9 => h9) (v := .int (nI c9)) rfl dX10_add_20 ?_
  refine lv_aload_n hx hb dX10_add_23 rfl (lv_at hl 0 rfl) ?_
  refine q_get hx hb hts hown hA hW iX10 h0 rfl 1 (by decide) (hts (.fieldLink RX10 15 "HighRecipes$Tokens" "positions" "[I") (by decide +kernel)) (fun _ h9 => h9) (v := .ref (t + 2)) rfl dX10_add_24 ?_
  refine q_alen hx hb hA hW 0 rfl h2 (v := Int32.ofNat 401) rfl dX10_add_27 ?_
  refine lv_icmp_ge (tgt := 83) hx hb dX10_add_28 (by decide) (fun c_28 => absurd c_28 (nI_ge hc (by decide))) (fun c_28 => ?_)
  refine lv_aload_n hx hb dX10_add_31 rfl (lv_at hl 0 rfl) ?_
  refine q_get hx hb hts hown hA hW iX10 h0 rfl 3 (by decide) (hts (.fieldLink RX10 30 "HighRecipes$Tokens" "count" "I") (by decide +kernel)) (fun _ h9 => h9) (v := .int (nI c9)) rfl dX10_add_32 ?_
  refine lv_aload_n hx hb dX10_add_35 rfl (lv_at hl 0 rfl) ?_
  refine q_get hx hb hts hown hA hW iX10 h0 rfl 2 (by decide) (hts (.fieldLink RX10 19 "HighRecipes$Tokens" "worths" "[J") (by decide +kernel)) (fun _ h9 => h9) (v := .ref (t + 3)) rfl dX10_add_36 ?_
  refine q_alen hx hb hA hW 1 rfl h3 (v := Int32.ofNat 401) rfl dX10_add_39 ?_
  refine lv_icmp_ge (tgt := 83) hx hb dX10_add_40 (by decide) (fun c_40 => absurd c_40 (nI_ge hc (by decide))) (fun c_40 => ?_)
  refine lv_aload_n hx hb dX10_add_43 rfl (lv_at hl 0 rfl) ?_
  refine q_get hx hb hts hown hA hW iX10 h0 rfl 0 (by decide) (hts (.fieldLink RX10 11 "HighRecipes$Tokens" "kinds" "[LHighRecipes$Kind;") (by decide +kernel)) (fun _ h9 => h9) (v := .ref (t + 1)) rfl dX10_add_44 ?_
  refine lv_aload_n hx hb dX10_add_47 rfl (lv_at hl 0 rfl) ?_
  refine q_get hx hb hts hown hA hW iX10 h0 rfl 3 (by decide) (hts (.fieldLink RX10 30 "HighRecipes$Tokens" "count" "I") (by decide +kernel)) (fun _ h9 => h9) (v := .int (nI c9)) rfl dX10_add_48 ?_
  refine lv_aload_n hx hb dX10_add_51 rfl (lv_at hl 1 rfl) ?_
  refine q_aastK hx hb hA hW hS h1 hkd (vp_in_nI hc (by decide)) dX10_add_52 (fun H locs hW hS => ?_)
  rw [show (nI c9).toNatClampNeg = c9 from (nI_clamp (by omega))] at hW
  have hW : q_W E (va_up f (t + 1) (some (aQ E 5 401 (va_up kk c9 (some (E.2.2.2 kd)))))) n H := hW
  refine lv_aload_n hx hb dX10_add_53 rfl (lv_at hl 0 rfl) ?_
  refine q_get hx hb hts hown hA hW iX10 (q_ne (by omega) h0) rfl 1 (by decide) (hts (.fieldLink RX10 15 "HighRecipes$Tokens" "positions" "[I") (by decide +kernel)) (fun _ h9 => h9) (v := .ref (t + 2)) rfl dX10_add_54 ?_
  refine lv_aload_n hx hb dX10_add_57 rfl (lv_at hl 0 rfl) ?_
  refine q_get hx hb hts hown hA hW iX10 (q_ne (by omega) h0) rfl 3 (by decide) (hts (.fieldLink RX10 30 "HighRecipes$Tokens" "count" "I") (by decide +kernel)) (fun _ h9 => h9) (v := .int (nI c9)) rfl dX10_add_58 ?_
  refine lv_iload_n hx hb dX10_add_61 rfl (lv_at hl 2 rfl) ?_
  refine q_iast hx hb hA hW hS (q_ne (by omega) h2) (vp_in_nI hc (by decide)) dX10_add_62 (fun H locs hW hS => ?_)
  rw [show (nI c9).toNatClampNeg = c9 from (nI_clamp (by omega))] at hW
  have hW : q_W E (va_up (va_up f (t + 1) (some (aQ E 5 401 (va_up kk c9 (some (E.2.2.2 kd)))))) (t + 2) (some (aI E 401 (upd po c9 y)))) n H := hW
  refine lv_aload_n hx hb dX10_add_63 rfl (lv_at hl 0 rfl) ?_
  refine q_get hx hb hts hown hA hW iX10 (q_ne (by omega) (q_ne (by omega) h0)) rfl 2 (by decide) (hts (.fieldLink RX10 19 "HighRecipes$Tokens" "worths" "[J") (by decide +kernel)) (fun _ h9 => h9) (v := .ref (t + 3)) rfl dX10_add_64 ?_
  refine lv_aload_n hx hb dX10_add_67 rfl (lv_at hl 0 rfl) ?_
  refine q_get hx hb hts hown hA hW iX10 (q_ne (by omega) (q_ne (by omega) h0)) rfl 3 (by decide) (hts (.fieldLink RX10 30 "HighRecipes$Tokens" "count" "I") (by decide +kernel)) (fun _ h9 => h9) (v := .int (nI c9)) rfl dX10_add_68 ?_
  refine lv_lload_n hx hb dX10_add_71 rfl (lv_at hl 3 rfl) ?_
  refine q_last hx hb hA hW hS (q_ne (by omega) (q_ne (by omega) h3)) (vp_in_nI hc (by decide)) dX10_add_72 (fun H locs hW hS => ?_)
  rw [show (nI c9).toNatClampNeg = c9 from (nI_clamp (by omega))] at hW
  have hW : q_W E (va_up (va_up (va_up f (t + 1) (some (aQ E 5 401 (va_up kk c9 (some (E.2.2.2 kd)))))) (t + 2) (some (aI E 401 (upd po c9 y)))) (t + 3) (some (aJ E 401 (vp_updL wo c9 w)))) n H := hW
  refine lv_aload_n hx hb dX10_add_73 rfl (lv_at hl 0 rfl) ?_
  refine lv_dup hx hb dX10_add_74 rfl ?_
  refine q_get hx hb hts hown hA hW iX10 (q_ne (by omega) (q_ne (by omega) (q_ne (by omega) h0))) rfl 3 (by decide) (hts (.fieldLink RX10 30 "HighRecipes$Tokens" "count" "I") (by decide +kernel)) (fun _ h9 => h9) (v := .int (nI c9)) rfl dX10_add_75 ?_
  refine lv_iconst (v := 1) hx hb dX10_add_78 (by decide) ?_
  refine lv_iadd hx hb dX10_add_79 ?_
  rw [nI_1]
  refine q_put hx hb hts hown hA hW hS iX10 tyX10 tyX10_ok nmX10 (q_ne (by omega) (q_ne (by omega) (q_ne (by omega) h0))) rfl 3 (by decide) (hts (.fieldLink RX10 30 "HighRecipes$Tokens" "count" "I") (by decide +kernel)) (fun _ h9 => h9) rfl rfl rfl (Nat.le_of_ble_eq_true rfl) dX10_add_80 (fun H locs hW hS => ?_)
  have hW : q_W E (va_up (va_up (va_up (va_up f (t + 1) (some (aQ E 5 401 (va_up kk c9 (some (E.2.2.2 kd)))))) (t + 2) (some (aI E 401 (upd po c9 y)))) (t + 3) (some (aJ E 401 (vp_updL wo c9 w)))) t (some (cTok E t (nI (c9 + 1)) here k0))) n H := hW
  exact q_vret hx hb hr hlocks hW hS ⟨rfl, rfl⟩ (Nat.le_of_ble_eq_true rfl) (Nat.le_of_ble_eq_true rfl) dX10_add_83

set_option maxHeartbeats 4000000 in
set_option maxRecDepth 100000 in
theorem kX10_stepT (l : Launch) (E : q_E) (f : q_H) (n : Nat) (t cN : Nat) (here : Int32) (k0 i k1 : Nat) (kk : Nat → Option Nat) (h0 : f t = some (cTok E t (nI cN) here k0)) (h1 : f (t + 1) = some (aQ E 5 401 kk)) (hh : here + 1 = nI i) (hi : i < cN) (hc : cN ≤ 401) (hk : kk i = some (E.2.2.2 k1)) : Met l yX10_step wsX10_step ({ frames := 0, cells := 0, slots := 0, locals := 0 }) (q_P E [.ref t, .int 1] f n) (q_Qv E (fun f1 n1 => va_up f t (some (cTok E t (nI cN) (nI i) k1)) = f1 ∧ n = n1)) 0 0 (q_ge E) := by
  refine Met.ofW (cc := cX10_step) (maxL := 3) (ret := none) (by decide) rfl ?_
  intro p e s m args below meth c s₁ B hml hv
  obtain ⟨rfl, hA, hW⟩ := hv
  have hx := B.exec
  have hb := B.bytes
  have hr := B.returns
  have hts := atoms_spec (ws := wsX10_step) B.pre
  have hown : s.vm.findClass RX10 = some m.cls := findClass_of_methodNamed B.named
  have hlocks := B.notSynchronized
  have hS : va_S (q_ge E) s.heap s.heap [] := va_S.rf
  have iX10 : ∀ w ∈ wsX100, w ∈ wsX10_step := by decide +kernel
  have hl := lv_entry ([.ref t, .int 1]) (n := 3) (Nat.le_of_ble_eq_true rfl)
  rw [lg_entry_eq]
  generalize (lg_sl ([.ref t, .int 1]) ++ List.replicate (3 - (lg_sl ([.ref t, .int 1])).length) Slot.unset).toArray = ls at hl ⊢
  have hl : lv_has ls 3 [(0, .ref t), (1, .int 1)] := hl
  refine lv_null hx hb dX10_step_0 ?_
  refine lv_astore_nN (lv' := [(2, .null), (0, .ref t), (1, .int 1)]) hx hb dX10_step_1 rfl hl (by decide) rfl (fun ls hl => ?_)
  refine lv_iload_n hx hb dX10_step_2 rfl (lv_at hl 2 rfl) ?_
  refine lv_if_eq (tgt := 60) hx hb dX10_step_3 (by decide) (fun c_3 => absurd c_3 (by decide)) (fun c_3 => ?_)
  refine lv_aload_n hx hb dX10_step_6 rfl (lv_at hl 1 rfl) ?_
  refine lv_dup hx hb dX10_step_7 rfl ?_
  refine q_get hx hb hts hown hA hW iX10 h0 rfl 4 (by decide) (hts (.fieldLink RX10 65 "HighRecipes$Tokens" "here" "I") (by decide +kernel)) (fun _ h9 => h9) (v := .int here) rfl dX10_step_8 ?_
  refine lv_iconst (v := 1) hx hb dX10_step_11 (by decide) ?_
  refine lv_iadd hx hb dX10_step_12 ?_
  rw [hh]
  refine q_put hx hb hts hown hA hW hS iX10 tyX10 tyX10_ok nmX10 h0 rfl 4 (by decide) (hts (.fieldLink RX10 65 "HighRecipes$Tokens" "here" "I") (by decide +kernel)) (fun _ h9 => h9) rfl rfl rfl (Nat.le_of_ble_eq_true rfl) dX10_step_13 (fun H locs hW hS => ?_)
  have hW : q_W E (va_up f t (some (cTok E t (nI cN) (nI i) k0))) n H := hW
  refine lv_aload_n hx hb dX10_step_16 rfl (lv_at hl 1 rfl) ?_
  refine q_get hx hb hts hown hA hW iX10 q_eq rfl 4 (by decide) (hts (.fieldLink RX10 65 "HighRecipes$Tokens" "here" "I") (by decide +kernel)) (fun _ h9 => h9) (v := .int (nI i)) rfl dX10_step_17 ?_
  refine lv_if_lt (tgt := 58) hx hb dX10_step_20 (by decide) (fun c_20 => absurd c_20 (nI_pos (by omega))) (fun c_20 => ?_)
  refine lv_aload_n hx hb dX10_step_23 rfl (lv_at hl 1 rfl) ?_
  refine q_get hx hb hts hown hA hW iX10 q_eq rfl 4 (by decide) (hts (.fieldLink RX10 65 "HighRecipes$Tokens" "here" "I") (by decide +kernel)) (fun _ h9 => h9) (v := .int (nI i)) rfl dX10_step_24 ?_
  refine lv_aload_n hx hb dX10_step_27 rfl (lv_at hl 1 rfl) ?_
  refine q_get hx hb hts hown hA hW iX10 q_eq rfl 3 (by decide) (hts (.fieldLink RX10 30 "HighRecipes$Tokens" "count" "I") (by decide +kernel)) (fun _ h9 => h9) (v := .int (nI cN)) rfl dX10_step_28 ?_
  refine lv_icmp_ge (tgt := 58) hx hb dX10_step_31 (by decide) (fun c_31 => absurd c_31 (nI_ge hi (by omega))) (fun c_31 => ?_)
  refine lv_aload_n hx hb dX10_step_34 rfl (lv_at hl 1 rfl) ?_
  refine q_get hx hb hts hown hA hW iX10 q_eq rfl 4 (by decide) (hts (.fieldLink RX10 65 "HighRecipes$Tokens" "here" "I") (by decide +kernel)) (fun _ h9 => h9) (v := .int (nI i)) rfl dX10_step_35 ?_
  refine lv_aload_n hx hb dX10_step_38 rfl (lv_at hl 1 rfl) ?_
  refine q_get hx hb hts hown hA hW iX10 q_eq rfl 0 (by decide) (hts (.fieldLink RX10 11 "HighRecipes$Tokens" "kinds" "[LHighRecipes$Kind;") (by decide +kernel)) (fun _ h9 => h9) (v := .ref (t + 1)) rfl dX10_step_39 ?_
  refine q_alen hx hb hA hW 5 rfl (q_ne (by omega) h1) (v := Int32.ofNat 401) rfl dX10_step_42 ?_
  refine lv_icmp_ge (tgt := 58) hx hb dX10_step_43 (by decide) (fun c_43 => absurd c_43 (nI_ge (show i < 401 by omega) (by decide))) (fun c_43 => ?_)
  refine lv_aload_n hx hb dX10_step_46 rfl (lv_at hl 1 rfl) ?_
  refine q_get hx hb hts hown hA hW iX10 q_eq rfl 0 (by decide) (hts (.fieldLink RX10 11 "HighRecipes$Tokens" "kinds" "[LHighRecipes$Kind;") (by decide +kernel)) (fun _ h9 => h9) (v := .ref (t + 1)) rfl dX10_step_47 ?_
  refine lv_aload_n hx hb dX10_step_50 rfl (lv_at hl 1 rfl) ?_
  refine q_get hx hb hts hown hA hW iX10 q_eq rfl 4 (by decide) (hts (.fieldLink RX10 65 "HighRecipes$Tokens" "here" "I") (by decide +kernel)) (fun _ h9 => h9) (v := .int (nI i)) rfl dX10_step_51 ?_
  refine q_aald hx hb hA hW 5 rfl (q_ne (by omega) h1) (vp_in_nI (show i < 401 by omega) (by decide)) dX10_step_54 ?_
  rw [nI_clamp (by omega), hk]
  show W _ _ _ _ _ _ _ _ _ _ _ _ _ _ _ (F0 m 55 ls (.ref (E.2.2.2 k1) :: []))
  refine lv_goto (tgt := 59) hx hb dX10_step_55 (by decide) ?_
  refine lv_astore_n (lv' := [(2, .ref (E.2.2.2 k1)), (0, .ref t), (1, .int 1)]) hx hb dX10_step_59 rfl hl (by decide) rfl (fun ls hl => ?_)
  refine lv_aload_n hx hb dX10_step_60 rfl (lv_at hl 1 rfl) ?_
  refine lv_aload_n hx hb dX10_step_61 rfl (lv_at hl 0 rfl) ?_
  refine lv_ifnonnull (tgt := 71) hx hb dX10_step_62 (by decide) ?_
  refine lv_aload_n hx hb dX10_step_71 rfl (lv_at hl 0 rfl) ?_
  refine q_put hx hb hts hown hA hW hS iX10 tyX10 tyX10_ok nmX10 q_eq rfl 5 (by decide) (hts (.fieldLink RX10 27 "HighRecipes$Tokens" "kind" "LHighRecipes$Kind;") (by decide +kernel)) (fun _ h9 => h9) rfl rfl rfl (Nat.le_of_ble_eq_true rfl) dX10_step_72 (fun H locs hW hS => ?_)
  rw [q_upup] at hW
  have hW : q_W E (va_up f t (some (cTok E t (nI cN) (nI i) k1))) n H := hW
  exact q_vret hx hb hr hlocks hW hS ⟨rfl, rfl⟩ (Nat.le_of_ble_eq_true rfl) (Nat.le_of_ble_eq_true rfl) dX10_step_75

set_option maxHeartbeats 4000000 in
set_option maxRecDepth 100000 in
theorem kX10_stepF (l : Launch) (E : q_E) (f : q_H) (n : Nat) (t : Nat) (cN here : Int32) (k0 : Nat) (h0 : f t = some (cTok E t cN here k0)) : Met l yX10_step wsX10_step ({ frames := 0, cells := 0, slots := 0, locals := 0 }) (q_P E [.ref t, .int 0] f n) (q_Qv E (fun f1 n1 => va_up f t (some (cTok E t cN here 40)) = f1 ∧ n = n1)) 0 0 (q_ge E) := by
  refine Met.ofW (cc := cX10_step) (maxL := 3) (ret := none) (by decide) rfl ?_
  intro p e s m args below meth c s₁ B hml hv
  obtain ⟨rfl, hA, hW⟩ := hv
  have hx := B.exec
  have hb := B.bytes
  have hr := B.returns
  have hts := atoms_spec (ws := wsX10_step) B.pre
  have hown : s.vm.findClass RX10 = some m.cls := findClass_of_methodNamed B.named
  have hlocks := B.notSynchronized
  have hS : va_S (q_ge E) s.heap s.heap [] := va_S.rf
  have iX10 : ∀ w ∈ wsX100, w ∈ wsX10_step := by decide +kernel
  have hl := lv_entry ([.ref t, .int 0]) (n := 3) (Nat.le_of_ble_eq_true rfl)
  rw [lg_entry_eq]
  generalize (lg_sl ([.ref t, .int 0]) ++ List.replicate (3 - (lg_sl ([.ref t, .int 0])).length) Slot.unset).toArray = ls at hl ⊢
  have hl : lv_has ls 3 [(0, .ref t), (1, .int 0)] := hl
  refine lv_null hx hb dX10_step_0 ?_
  refine lv_astore_nN (lv' := [(2, .null), (0, .ref t), (1, .int 0)]) hx hb dX10_step_1 rfl hl (by decide) rfl (fun ls hl => ?_)
  refine lv_iload_n hx hb dX10_step_2 rfl (lv_at hl 2 rfl) ?_
  refine lv_if_eq (tgt := 60) hx hb dX10_step_3 (by decide) (fun c_3 => ?_) (fun c_3 => absurd (by decide) c_3)
  refine lv_aload_n hx hb dX10_step_60 rfl (lv_at hl 1 rfl) ?_
  refine lv_aload_nN hx hb dX10_step_61 rfl (lv_at hl 0 rfl) ?_
  refine lv_ifnonnullN hx hb dX10_step_62 ?_
  refine va_gets (n := "BAD") (v := .ref (E.2.2.2 40)) hx hb (hA.2.2.1.1.1 40 (by decide)).1 hS hown (hts (.fieldLink RX10 43 "HighRecipes$Kind" "BAD" "LHighRecipes$Kind;") (by decide +kernel)) (fun _ h9 => h9) dX10_step_65 ?_
  refine lv_goto (tgt := 72) hx hb dX10_step_68 (by decide) ?_
  refine q_put hx hb hts hown hA hW hS iX10 tyX10 tyX10_ok nmX10 h0 rfl 5 (by decide) (hts (.fieldLink RX10 27 "HighRecipes$Tokens" "kind" "LHighRecipes$Kind;") (by decide +kernel)) (fun _ h9 => h9) rfl rfl rfl (Nat.le_of_ble_eq_true rfl) dX10_step_72 (fun H locs hW hS => ?_)
  have hW : q_W E (va_up f t (some (cTok E t cN here 40))) n H := hW
  exact q_vret hx hb hr hlocks hW hS ⟨rfl, rfl⟩ (Nat.le_of_ble_eq_true rfl) (Nat.le_of_ble_eq_true rfl) dX10_step_75

set_option maxHeartbeats 4000000 in
set_option maxRecDepth 100000 in
theorem kX10_worth (l : Launch) (E : q_E) (f : q_H) (n : Nat) (t : Nat) (wo : Nat → Int64) (cN : Int32) (i k0 : Nat) (h0 : f t = some (cTok E t cN (nI i) k0)) (h3 : f (t + 3) = some (aJ E 401 wo)) (hi : i < 401) : Met l yX10_worth wsX10_worth ({ frames := 0, cells := 0, slots := 0, locals := 0 }) (q_P E [.ref t] f n) (q_Ql E (fun r f1 n1 => wo i = r ∧ f = f1 ∧ n = n1)) 0 0 (q_ge E) := by
  refine Met.ofW (cc := cX10_worth) (maxL := 1) (ret := (some .long)) (by decide) rfl ?_
  intro p e s m args below meth c s₁ B hml hv
  obtain ⟨rfl, hA, hW⟩ := hv
  have hx := B.exec
  have hb := B.bytes
  have hr := B.returns
  have hts := atoms_spec (ws := wsX10_worth) B.pre
  have hown : s.vm.findClass RX10 = some m.cls := findClass_of_methodNamed B.named
  have hlocks := B.notSynchronized
  have hS : va_S (q_ge E) s.heap s.heap [] := va_S.rf
  have iX10 : ∀ w ∈ wsX100, w ∈ wsX10_worth := by decide +kernel
  have hl := lv_entry ([.ref t]) (n := 1) (Nat.le_of_ble_eq_true rfl)
  rw [lg_entry_eq]
  generalize (lg_sl ([.ref t]) ++ List.replicate (1 - (lg_sl ([.ref t])).length) Slot.unset).toArray = ls at hl ⊢
  have hl : lv_has ls 1 [(0, .ref t)] := hl
  refine lv_aload_n hx hb dX10_worth_0 rfl (lv_at hl 0 rfl) ?_
  refine q_get hx hb hts hown hA hW iX10 h0 rfl 4 (by decide) (hts (.fieldLink RX10 65 "HighRecipes$Tokens" "here" "I") (by decide +kernel)) (fun _ h9 => h9) (v := .int (nI i)) rfl dX10_worth_1 ?_
  refine lv_if_lt (tgt := 31) hx hb dX10_worth_4 (by decide) (fun c_4 => absurd c_4 (nI_pos (by omega))) (fun c_4 => ?_)
  refine lv_aload_n hx hb dX10_worth_7 rfl (lv_at hl 0 rfl) ?_
  refine q_get hx hb hts hown hA hW iX10 h0 rfl 4 (by decide) (hts (.fieldLink RX10 65 "HighRecipes$Tokens" "here" "I") (by decide +kernel)) (fun _ h9 => h9) (v := .int (nI i)) rfl dX10_worth_8 ?_
  refine lv_aload_n hx hb dX10_worth_11 rfl (lv_at hl 0 rfl) ?_
  refine q_get hx hb hts hown hA hW iX10 h0 rfl 2 (by decide) (hts (.fieldLink RX10 19 "HighRecipes$Tokens" "worths" "[J") (by decide +kernel)) (fun _ h9 => h9) (v := .ref (t + 3)) rfl dX10_worth_12 ?_
  refine q_alen hx hb hA hW 1 rfl h3 (v := Int32.ofNat 401) rfl dX10_worth_15 ?_
  refine lv_icmp_ge (tgt := 31) hx hb dX10_worth_16 (by decide) (fun c_16 => absurd c_16 (nI_ge hi (by decide))) (fun c_16 => ?_)
  refine lv_aload_n hx hb dX10_worth_19 rfl (lv_at hl 0 rfl) ?_
  refine q_get hx hb hts hown hA hW iX10 h0 rfl 2 (by decide) (hts (.fieldLink RX10 19 "HighRecipes$Tokens" "worths" "[J") (by decide +kernel)) (fun _ h9 => h9) (v := .ref (t + 3)) rfl dX10_worth_20 ?_
  refine lv_aload_n hx hb dX10_worth_23 rfl (lv_at hl 0 rfl) ?_
  refine q_get hx hb hts hown hA hW iX10 h0 rfl 4 (by decide) (hts (.fieldLink RX10 65 "HighRecipes$Tokens" "here" "I") (by decide +kernel)) (fun _ h9 => h9) (v := .int (nI i)) rfl dX10_worth_24 ?_
  refine q_lald hx hb hA hW h3 (vp_in_nI hi (by decide)) dX10_worth_27 ?_
  rw [nI_clamp (by omega)]
  refine lv_goto (tgt := 32) hx hb dX10_worth_28 (by decide) ?_
  exact q_lret hx hb hr hlocks hW hS ⟨rfl, rfl, rfl⟩ (Nat.le_of_ble_eq_true rfl) (Nat.le_of_ble_eq_true rfl) dX10_worth_32

set_option maxHeartbeats 4000000 in
set_option maxRecDepth 100000 in
theorem kX10_positionOf (l : Launch) (E : q_E) (f : q_H) (n : Nat) (t : Nat) (po : Nat → Int32) (cN here : Int32) (k0 i : Nat) (h0 : f t = some (cTok E t cN here k0)) (h2 : f (t + 2) = some (aI E 401 po)) (hi : i < 401) : Met l yX10_positionOf wsX10_positionOf ({ frames := 0, cells := 0, slots := 0, locals := 0 }) (q_P E [.ref t, .int (nI i)] f n) (q_Qi E (fun r f1 n1 => po i = r ∧ f = f1 ∧ n = n1)) 0 0 (q_ge E) := by
  refine Met.ofW (cc := cX10_positionOf) (maxL := 2) (ret := (some .int)) (by decide) rfl ?_
  intro p e s m args below meth c s₁ B hml hv
  obtain ⟨rfl, hA, hW⟩ := hv
  have hx := B.exec
  have hb := B.bytes
  have hr := B.returns
  have hts := atoms_spec (ws := wsX10_positionOf) B.pre
  have hown : s.vm.findClass RX10 = some m.cls := findClass_of_methodNamed B.named
  have hlocks := B.notSynchronized
  have hS : va_S (q_ge E) s.heap s.heap [] := va_S.rf
  have iX10 : ∀ w ∈ wsX100, w ∈ wsX10_positionOf := by decide +kernel
  have hl := lv_entry ([.ref t, .int (nI i)]) (n := 2) (Nat.le_of_ble_eq_true rfl)
  rw [lg_entry_eq]
  generalize (lg_sl ([.ref t, .int (nI i)]) ++ List.replicate (2 - (lg_sl ([.ref t, .int (nI i)])).length) Slot.unset).toArray = ls at hl ⊢
  have hl : lv_has ls 2 [(0, .ref t), (1, .int (nI i))] := hl
  refine lv_iload_n hx hb dX10_positionOf_0 rfl (lv_at hl 1 rfl) ?_
  refine lv_if_lt (tgt := 22) hx hb dX10_positionOf_1 (by decide) (fun c_1 => absurd c_1 (nI_pos (by omega))) (fun c_1 => ?_)
  refine lv_iload_n hx hb dX10_positionOf_4 rfl (lv_at hl 1 rfl) ?_
  refine lv_aload_n hx hb dX10_positionOf_5 rfl (lv_at hl 0 rfl) ?_
  refine q_get hx hb hts hown hA hW iX10 h0 rfl 1 (by decide) (hts (.fieldLink RX10 15 "HighRecipes$Tokens" "positions" "[I") (by decide +kernel)) (fun _ h9 => h9) (v := .ref (t + 2)) rfl dX10_positionOf_6 ?_
  refine q_alen hx hb hA hW 0 rfl h2 (v := Int32.ofNat 401) rfl dX10_positionOf_9 ?_
  refine lv_icmp_ge (tgt := 22) hx hb dX10_positionOf_10 (by decide) (fun c_10 => absurd c_10 (nI_ge hi (by decide))) (fun c_10 => ?_)
  refine lv_aload_n hx hb dX10_positionOf_13 rfl (lv_at hl 0 rfl) ?_
  refine q_get hx hb hts hown hA hW iX10 h0 rfl 1 (by decide) (hts (.fieldLink RX10 15 "HighRecipes$Tokens" "positions" "[I") (by decide +kernel)) (fun _ h9 => h9) (v := .ref (t + 2)) rfl dX10_positionOf_14 ?_
  refine lv_iload_n hx hb dX10_positionOf_17 rfl (lv_at hl 1 rfl) ?_
  refine q_iald hx hb hA hW h2 (vp_in_nI hi (by decide)) dX10_positionOf_18 ?_
  rw [nI_clamp (by omega)]
  refine lv_goto (tgt := 23) hx hb dX10_positionOf_19 (by decide) ?_
  exact q_iret hx hb hr hlocks hW hS ⟨rfl, rfl, rfl⟩ (Nat.le_of_ble_eq_true rfl) (Nat.le_of_ble_eq_true rfl) dX10_positionOf_23

