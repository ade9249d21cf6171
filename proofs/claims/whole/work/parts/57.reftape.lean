/-! the reference reads its tape -/
def r_tp (r : q_R) (g : Nat → Int32) (L : Nat) : Prop := r 101 0 = nI L ∧ L ≤ 1600 ∧ ∀ j, j < L → r 1 j = t_at g L j
theorem skip_step {g : Nat → Int32} {L i : Nat} (h : i < L) (hb : t_at g L i = 32 ∨ t_at g L i = 10) : t_skip g L i = t_skip g L (i + 1) := by
  unfold t_skip
  rw [show L - i = (L - (i + 1)) + 1 by omega]
  exact if_pos ⟨h, hb⟩
theorem skip_stop {g : Nat → Int32} {L i : Nat} (hb : ¬ (t_at g L i = 32 ∨ t_at g L i = 10)) : t_skip g L i = i := by
  unfold t_skip
  cases L - i with
  | zero => rfl
  | succ m => exact if_neg (fun h9 => hb h9.2)
theorem at_in {g : Nat → Int32} {L i : Nat} (h : ¬ t_at g L i = -1) : i < L := by
  rcases Nat.lt_or_ge i L with h9 | h9
  · exact h9
  · exact absurd (if_neg (by omega)) h
theorem sym_out : ∀ z, z < 256 → z < 40 ∨ 62 < z → m_kd (k_sign (nI z)) = 70 := by decide +kernel

set_option maxHeartbeats 4000000 in
set_option maxRecDepth 100000 in
theorem kX14_isLetter (l : Launch) (E : q_E) (f : q_H) (n : Nat) (x : Int32)  : Met l yX14_isLetter wsX14_isLetter ({ frames := 1, cells := 0, slots := 0, locals := 22 }) (q_P E [.int x] f n) (q_Qi E (fun r f1 n1 => b01 (b_let x) = r ∧ f = f1 ∧ n = n1)) 0 0 (q_ge E) := by
  refine Met.ofW (cc := cX14_isLetter) (maxL := 1) (ret := (some .boolean)) (by decide) rfl ?_
  intro p e s m args below meth c s₁ B hml hv
  obtain ⟨rfl, hA, hW⟩ := hv
  have hx := B.exec
  have hb := B.bytes
  have hr := B.returns
  have hts := atoms_spec (ws := wsX14_isLetter) B.pre
  have hown : s.vm.findClass RX14 = some m.cls := findClass_of_methodNamed B.named
  have hlocks := B.notSynchronized
  have hS : va_S (q_ge E) s.heap s.heap [] := va_S.rf
  have hl := lv_entry ([.int x]) (n := 1) (Nat.le_of_ble_eq_true rfl)
  rw [lg_entry_eq]
  generalize (lg_sl ([.int x]) ++ List.replicate (1 - (lg_sl ([.int x])).length) Slot.unset).toArray = ls at hl ⊢
  have hl : lv_has ls 1 [(0, .int x)] := hl
  refine lv_iload_n hx hb dX14_isLetter_0 rfl (lv_at hl 0 rfl) ?_
  refine lv_bipush (v := 97) hx hb dX14_isLetter_1 (by decide) ?_
  refine lv_bipush (v := 122) hx hb dX14_isLetter_3 (by decide) ?_
  refine q_ci (va_runS (As := [.int x, .int 97, .int 122]) (rest := []) ⟨hx, hb, hml, hown, hts⟩ (kX14_isIn l E f n x 97 122) (va_cwS 3 hts gX14_isLetter_X14_isIn rfl rfl rfl (by decide +kernel) ⟨(Nat.le_of_ble_eq_true rfl), (Nat.le_of_ble_eq_true rfl)⟩) (q_pS hA hW hS) rfl rfl hl.1 rfl (lv_room (Nat.le_of_ble_eq_true rfl)) dX14_isLetter_5 ⟨Nat.le_of_ble_eq_true rfl, Nat.le_of_ble_eq_true rfl⟩) hS (fun r_5 f_5 n_5 H locs hp hW hS => ?_)
  obtain ⟨rfl, rfl, rfl⟩ := hp
  have hW : q_W E (f) n H := hW
  exact q_zret hx hb hr hlocks hW hS (by cases b_in x 97 122 <;> rfl) ⟨rfl, rfl, rfl⟩ (Nat.le_of_ble_eq_true rfl) (Nat.le_of_ble_eq_true rfl) dX14_isLetter_8

set_option maxHeartbeats 4000000 in
set_option maxRecDepth 100000 in
theorem kX14_isDigit (l : Launch) (E : q_E) (f : q_H) (n : Nat) (x : Int32)  : Met l yX14_isDigit wsX14_isDigit ({ frames := 1, cells := 0, slots := 0, locals := 22 }) (q_P E [.int x] f n) (q_Qi E (fun r f1 n1 => b01 (b_dig x) = r ∧ f = f1 ∧ n = n1)) 0 0 (q_ge E) := by
  refine Met.ofW (cc := cX14_isDigit) (maxL := 1) (ret := (some .boolean)) (by decide) rfl ?_
  intro p e s m args below meth c s₁ B hml hv
  obtain ⟨rfl, hA, hW⟩ := hv
  have hx := B.exec
  have hb := B.bytes
  have hr := B.returns
  have hts := atoms_spec (ws := wsX14_isDigit) B.pre
  have hown : s.vm.findClass RX14 = some m.cls := findClass_of_methodNamed B.named
  have hlocks := B.notSynchronized
  have hS : va_S (q_ge E) s.heap s.heap [] := va_S.rf
  have hl := lv_entry ([.int x]) (n := 1) (Nat.le_of_ble_eq_true rfl)
  rw [lg_entry_eq]
  generalize (lg_sl ([.int x]) ++ List.replicate (1 - (lg_sl ([.int x])).length) Slot.unset).toArray = ls at hl ⊢
  have hl : lv_has ls 1 [(0, .int x)] := hl
  refine lv_iload_n hx hb dX14_isDigit_0 rfl (lv_at hl 0 rfl) ?_
  refine lv_bipush (v := 48) hx hb dX14_isDigit_1 (by decide) ?_
  refine lv_bipush (v := 57) hx hb dX14_isDigit_3 (by decide) ?_
  refine q_ci (va_runS (As := [.int x, .int 48, .int 57]) (rest := []) ⟨hx, hb, hml, hown, hts⟩ (kX14_isIn l E f n x 48 57) (va_cwS 3 hts gX14_isDigit_X14_isIn rfl rfl rfl (by decide +kernel) ⟨(Nat.le_of_ble_eq_true rfl), (Nat.le_of_ble_eq_true rfl)⟩) (q_pS hA hW hS) rfl rfl hl.1 rfl (lv_room (Nat.le_of_ble_eq_true rfl)) dX14_isDigit_5 ⟨Nat.le_of_ble_eq_true rfl, Nat.le_of_ble_eq_true rfl⟩) hS (fun r_5 f_5 n_5 H locs hp hW hS => ?_)
  obtain ⟨rfl, rfl, rfl⟩ := hp
  have hW : q_W E (f) n H := hW
  exact q_zret hx hb hr hlocks hW hS (by cases b_in x 48 57 <;> rfl) ⟨rfl, rfl, rfl⟩ (Nat.le_of_ble_eq_true rfl) (Nat.le_of_ble_eq_true rfl) dX14_isDigit_8

set_option maxHeartbeats 4000000 in
set_option maxRecDepth 100000 in
theorem kX14_byteAt (l : Launch) (E : q_E) (f : q_H) (n : Nat) (M : Nat) (r : q_R) (g : Nat → Int32) (L : Nat) (j : Nat)  (hm : RM E f M r) (htp : r_tp r g L) (hj : j ≤ 1600) : Met l yX14_byteAt wsX14_byteAt ({ frames := 0, cells := 0, slots := 0, locals := 0 }) (q_P E [.ref M, .int (nI j)] f n) (q_Qi E (fun r0 f1 n1 => t_at g L j = r0 ∧ f = f1 ∧ n = n1)) 0 0 (q_ge E) := by
  refine Met.ofW (cc := cX14_byteAt) (maxL := 2) (ret := (some .int)) (by decide) rfl ?_
  intro p e s m args below meth c s₁ B hml hv
  obtain ⟨rfl, hA, hW⟩ := hv
  have hx := B.exec
  have hb := B.bytes
  have hr := B.returns
  have hts := atoms_spec (ws := wsX14_byteAt) B.pre
  have hown : s.vm.findClass RX14 = some m.cls := findClass_of_methodNamed B.named
  have hlocks := B.notSynchronized
  have hS : va_S (q_ge E) s.heap s.heap [] := va_S.rf
  have iX14 : ∀ w ∈ wsX140, w ∈ wsX14_byteAt := by decide +kernel
  have hl := lv_entry ([.ref M, .int (nI j)]) (n := 2) (Nat.le_of_ble_eq_true rfl)
  rw [lg_entry_eq]
  generalize (lg_sl ([.ref M, .int (nI j)]) ++ List.replicate (2 - (lg_sl ([.ref M, .int (nI j)])).length) Slot.unset).toArray = ls at hl ⊢
  have hl : lv_has ls 2 [(0, .ref M), (1, .int (nI j))] := hl
  have hmE := hm.eq
  rw [hm.eq] at hW
  have hL := htp.2.1
  refine lv_iload_n hx hb dX14_byteAt_0 rfl (lv_at hl 1 rfl) ?_
  refine lv_aload_n hx hb dX14_byteAt_1 rfl (lv_at hl 0 rfl) ?_
  refine q_get hx hb hts hown hA hW iX14 rO_0 rfl 2 (by decide) (hts (.fieldLink RX14 73 "HighRecipesModel" "bytes" "I") (by decide +kernel)) (fun _ h9 => h9) (v := .int (nI L)) (congrArg (fun z => some (Value.int z)) htp.1) dX14_byteAt_2 ?_
  refine lv_icmp_ge (tgt := 17) hx hb dX14_byteAt_5 (by decide) (fun c_5 => ?_) (fun c_5 => ?_)
  · have hge : ¬ j < L := by rcases Nat.lt_or_ge j L with h9 | h9; exact absurd c_5 (nI_ge h9 (by omega)); omega
    refine lv_iconst (v := (-1)) hx hb dX14_byteAt_17 (by decide) ?_
    exact q_iret hx hb hr hlocks hW hS ⟨(show t_at g L j = -1 from if_neg hge), hmE, rfl⟩ (Nat.le_of_ble_eq_true rfl) (Nat.le_of_ble_eq_true rfl) dX14_byteAt_18
  · have hlt : j < L := by rcases Nat.lt_or_ge j L with h9 | h9; exact h9; exact absurd (nI_le h9 (by omega)) c_5
    refine lv_aload_n hx hb dX14_byteAt_8 rfl (lv_at hl 0 rfl) ?_
    refine q_get hx hb hts hown hA hW iX14 rO_0 rfl 1 (by decide) (hts (.fieldLink RX14 9 "HighRecipesModel" "tape" "[I") (by decide +kernel)) (fun _ h9 => h9) (v := .ref (M + 1)) rfl dX14_byteAt_9 ?_
    refine lv_iload_n hx hb dX14_byteAt_12 rfl (lv_at hl 1 rfl) ?_
    refine q_ald hx hb hA hW (rO_1 (g := r 1) rfl) j rfl (by omega) (by decide) (x := t_at g L j) (htp.2.2 j hlt) dX14_byteAt_13 ?_
    refine lv_goto (tgt := 18) hx hb dX14_byteAt_14 (by decide) ?_
    exact q_iret hx hb hr hlocks hW hS ⟨rfl, hmE, rfl⟩ (Nat.le_of_ble_eq_true rfl) (Nat.le_of_ble_eq_true rfl) dX14_byteAt_18

set_option maxHeartbeats 4000000 in
set_option maxRecDepth 100000 in
theorem kX14_skip (l : Launch) (E : q_E) (f : q_H) (n : Nat) (M : Nat) (r : q_R) (g : Nat → Int32) (L : Nat) (j : Nat)  (hm : RM E f M r) (htp : r_tp r g L) (hj : j ≤ L) : Met l yX14_skip wsX14_skip ({ frames := 1, cells := 0, slots := 0, locals := 21 }) (q_P E [.ref M, .int (nI j)] f n) (q_Qi E (fun r0 f1 n1 => nI (t_skip g L j) = r0 ∧ f = f1 ∧ n = n1)) 0 0 (q_ge E) := by
  refine Met.ofW (cc := cX14_skip) (maxL := 3) (ret := (some .int)) (by decide) rfl ?_
  intro p e s m args below meth c s₁ B hml hv
  obtain ⟨rfl, hA, hW⟩ := hv
  have hx := B.exec
  have hb := B.bytes
  have hr := B.returns
  have hts := atoms_spec (ws := wsX14_skip) B.pre
  have hown : s.vm.findClass RX14 = some m.cls := findClass_of_methodNamed B.named
  have hlocks := B.notSynchronized
  have hS : va_S (q_ge E) s.heap s.heap [] := va_S.rf
  have hl := lv_entry ([.ref M, .int (nI j)]) (n := 3) (Nat.le_of_ble_eq_true rfl)
  rw [lg_entry_eq]
  generalize (lg_sl ([.ref M, .int (nI j)]) ++ List.replicate (3 - (lg_sl ([.ref M, .int (nI j)])).length) Slot.unset).toArray = ls at hl ⊢
  have hl : lv_has ls 3 [(0, .ref M), (1, .int (nI j))] := hl
  have hmE := hm.eq
  rw [hm.eq] at hW
  have hL := htp.2.1
  refine lv_iload_n hx hb dX14_skip_0 rfl (lv_at hl 1 rfl) ?_
  refine lv_istore_n (lv' := [(2, .int (nI j)), (0, .ref M), (1, .int (nI j))]) hx hb dX14_skip_1 rfl hl (by decide) rfl (fun ls hl => ?_)
  have K2 : ∀ (fu : Nat) (i : Nat) (hi : i ≤ L) (hinv : t_skip g L j = t_skip g L i) (hm : L - i < fu) (H : Heap) (locs : List Loc) (ls : Array Slot), q_W E (rO E f M r) n H → va_S (q_ge E) s.heap H locs → lv_has ls 3 [(0, .ref M), (1, .int (nI j)), (2, .int (nI i))] → W p l e (headSpec wsX14_skip ({ frames := 1, cells := 0, slots := 0, locals := 21 })).room s m ([.ref M, .int (nI j)] : List Value).toArray below meth c H locs 0 0 (MQ below (q_Qi E (fun r0 f1 n1 => nI (t_skip g L j) = r0 ∧ f = f1 ∧ n = n1)) ([.ref M, .int (nI j)] : List Value).toArray s 0 0 (q_ge E)) (F0 m 2 ls []) := by
    intro fu
    induction fu with
    | zero =>
      intro i hi hinv hm
      exact absurd hm (Nat.not_lt_zero _)
    | succ fu ih =>
      intro i hi hinv hm H locs ls hW hS hl
      refine lv_aload_n hx hb dX14_skip_2 rfl (lv_at hl 0 rfl) ?_
      refine lv_iload_n hx hb dX14_skip_3 rfl (lv_at hl 2 rfl) ?_
      refine q_ci (va_runV (As := [.int (nI i)]) (rest := []) ⟨hx, hb, hml, hown, hts⟩ (kX14_byteAt l E (rO E f M r) n M r g L i rO_K htp (by omega)) (cwV 1 hts gX14_skip_X14_byteAt rfl rfl rfl (by decide +kernel) ⟨(Nat.le_of_ble_eq_true rfl), (Nat.le_of_ble_eq_true rfl)⟩) (q_pV hA hW hS (ci := 12) rfl rO_0) rfl rfl hl.1 rfl (lv_room (Nat.le_of_ble_eq_true rfl)) dX14_skip_4 ⟨Nat.le_of_ble_eq_true rfl, Nat.le_of_ble_eq_true rfl⟩) hS (fun r_4 f_4 n_4 H locs hp hW hS => ?_)
      obtain ⟨rfl, rfl, rfl⟩ := hp
      have hW : q_W E (rO E f M r) n H := hW
      refine lv_bipush (v := 32) hx hb dX14_skip_7 (by decide) ?_
      refine lv_icmp_eq (tgt := 22) hx hb dX14_skip_9 (by decide) (fun c_9 => ?_) (fun c_9 => ?_)
      · have hb9 : t_at g L i = 32 ∨ t_at g L i = 10 := Or.inl c_9
        have hlt : i < L := at_in (by rcases hb9 with h9 | h9 <;> rw [h9] <;> decide)
        refine lv_iinc (v := nI (i + 1)) (lv' := [(2, .int (nI (i + 1))), (0, .ref M), (1, .int (nI j))]) hx hb dX14_skip_22 hl (k := 2) rfl (nI_1 i) (by decide) rfl (fun ls hl => ?_)
        refine lv_goto (tgt := 2) hx hb dX14_skip_25 (by decide) ?_
        exact ih (i + 1) hlt (hinv.trans (skip_step hlt hb9)) (by omega) _ _ _ hW hS (lv_sub hl [1, 2, 0] rfl)
      · refine lv_aload_n hx hb dX14_skip_12 rfl (lv_at hl 0 rfl) ?_
        refine lv_iload_n hx hb dX14_skip_13 rfl (lv_at hl 2 rfl) ?_
        refine q_ci (va_runV (As := [.int (nI i)]) (rest := []) ⟨hx, hb, hml, hown, hts⟩ (kX14_byteAt l E (rO E f M r) n M r g L i rO_K htp (by omega)) (cwV 1 hts gX14_skip_X14_byteAt rfl rfl rfl (by decide +kernel) ⟨(Nat.le_of_ble_eq_true rfl), (Nat.le_of_ble_eq_true rfl)⟩) (q_pV hA hW hS (ci := 12) rfl rO_0) rfl rfl hl.1 rfl (lv_room (Nat.le_of_ble_eq_true rfl)) dX14_skip_14 ⟨Nat.le_of_ble_eq_true rfl, Nat.le_of_ble_eq_true rfl⟩) hS (fun r_14 f_14 n_14 H locs hp hW hS => ?_)
        obtain ⟨rfl, rfl, rfl⟩ := hp
        have hW : q_W E (rO E f M r) n H := hW
        refine lv_bipush (v := 10) hx hb dX14_skip_17 (by decide) ?_
        refine lv_icmp_ne (tgt := 28) hx hb dX14_skip_19 (by decide) (fun c_19 => ?_) (fun c_19 => ?_)
        · have hst : t_skip g L i = i := skip_stop (fun h9 => h9.elim c_9 c_19)
          refine lv_iload_n hx hb dX14_skip_28 rfl (lv_at hl 2 rfl) ?_
          exact q_iret hx hb hr hlocks hW hS ⟨(by rw [hinv, hst]), hmE, rfl⟩ (Nat.le_of_ble_eq_true rfl) (Nat.le_of_ble_eq_true rfl) dX14_skip_29
        · have hb9 : t_at g L i = 32 ∨ t_at g L i = 10 := Or.inr c_19
          have hlt : i < L := at_in (by rcases hb9 with h9 | h9 <;> rw [h9] <;> decide)
          refine lv_iinc (v := nI (i + 1)) (lv' := [(2, .int (nI (i + 1))), (0, .ref M), (1, .int (nI j))]) hx hb dX14_skip_22 hl (k := 2) rfl (nI_1 i) (by decide) rfl (fun ls hl => ?_)
          refine lv_goto (tgt := 2) hx hb dX14_skip_25 (by decide) ?_
          exact ih (i + 1) hlt (hinv.trans (skip_step hlt hb9)) (by omega) _ _ _ hW hS (lv_sub hl [1, 2, 0] rfl)
  exact K2 _ j hj rfl (Nat.lt_succ_self _) _ _ _ hW hS (lv_sub hl [1, 2, 0] rfl)

set_option maxHeartbeats 4000000 in
set_option maxRecDepth 100000 in
theorem kX14_symbol (l : Launch) (E : q_E) (f : q_H) (n : Nat) (z : Nat)  (hz : z < 256) : Met l yX14_symbol wsX14_symbol ({ frames := 0, cells := 0, slots := 0, locals := 0 }) (q_P E [.int (nI z)] f n) (q_Qi E (fun r f1 n1 => nI (m_kd (k_sign (nI z))) = r ∧ f = f1 ∧ n = n1)) 0 0 (q_ge E) := by
  refine Met.ofW (cc := cX14_symbol) (maxL := 1) (ret := (some .int)) (by decide) rfl ?_
  intro p e s m args below meth c s₁ B hml hv
  obtain ⟨rfl, hA, hW⟩ := hv
  have hx := B.exec
  have hb := B.bytes
  have hr := B.returns
  have hts := atoms_spec (ws := wsX14_symbol) B.pre
  have hown : s.vm.findClass RX14 = some m.cls := findClass_of_methodNamed B.named
  have hlocks := B.notSynchronized
  have hS : va_S (q_ge E) s.heap s.heap [] := va_S.rf
  have hl := lv_entry ([.int (nI z)]) (n := 1) (Nat.le_of_ble_eq_true rfl)
  rw [lg_entry_eq]
  generalize (lg_sl ([.int (nI z)]) ++ List.replicate (1 - (lg_sl ([.int (nI z)])).length) Slot.unset).toArray = ls at hl ⊢
  have hl : lv_has ls 1 [(0, .int (nI z))] := hl
  refine lv_iload_n hx hb dX14_symbol_0 rfl (lv_at hl 0 rfl) ?_
  rcases (by omega : z = 40 ∨ z = 41 ∨ z = 42 ∨ z = 43 ∨ z = 44 ∨ z = 45 ∨ z = 46 ∨ z = 47 ∨ z = 48 ∨ z = 49 ∨ z = 50 ∨ z = 51 ∨ z = 52 ∨ z = 53 ∨ z = 54 ∨ z = 55 ∨ z = 56 ∨ z = 57 ∨ z = 58 ∨ z = 59 ∨ z = 60 ∨ z = 61 ∨ z = 62 ∨ (z < 40 ∨ 62 < z)) with rfl | rfl | rfl | rfl | rfl | rfl | rfl | rfl | rfl | rfl | rfl | rfl | rfl | rfl | rfl | rfl | rfl | rfl | rfl | rfl | rfl | rfl | rfl | hout
  · refine lv_tableIn (x := 40) (off := 107) (tgt := 108) hx hb dX14_symbol_1 (by decide) (by decide) (by decide) (by decide) ?_
    refine lv_bipush (v := 50) hx hb dX14_symbol_108 (by decide) ?_
    exact q_iret hx hb hr hlocks hW hS ⟨(by decide +kernel), rfl, rfl⟩ (Nat.le_of_ble_eq_true rfl) (Nat.le_of_ble_eq_true rfl) dX14_symbol_110
  · refine lv_tableIn (x := 41) (off := 110) (tgt := 111) hx hb dX14_symbol_1 (by decide) (by decide) (by decide) (by decide) ?_
    refine lv_bipush (v := 51) hx hb dX14_symbol_111 (by decide) ?_
    exact q_iret hx hb hr hlocks hW hS ⟨(by decide +kernel), rfl, rfl⟩ (Nat.le_of_ble_eq_true rfl) (Nat.le_of_ble_eq_true rfl) dX14_symbol_113
  · refine lv_tableIn (x := 42) (off := 131) (tgt := 132) hx hb dX14_symbol_1 (by decide) (by decide) (by decide) (by decide) ?_
    refine lv_bipush (v := 58) hx hb dX14_symbol_132 (by decide) ?_
    exact q_iret hx hb hr hlocks hW hS ⟨(by decide +kernel), rfl, rfl⟩ (Nat.le_of_ble_eq_true rfl) (Nat.le_of_ble_eq_true rfl) dX14_symbol_134
  · refine lv_tableIn (x := 43) (off := 125) (tgt := 126) hx hb dX14_symbol_1 (by decide) (by decide) (by decide) (by decide) ?_
    refine lv_bipush (v := 56) hx hb dX14_symbol_126 (by decide) ?_
    exact q_iret hx hb hr hlocks hW hS ⟨(by decide +kernel), rfl, rfl⟩ (Nat.le_of_ble_eq_true rfl) (Nat.le_of_ble_eq_true rfl) dX14_symbol_128
  · refine lv_tableIn (x := 44) (off := 137) (tgt := 138) hx hb dX14_symbol_1 (by decide) (by decide) (by decide) (by decide) ?_
    refine lv_bipush (v := 70) hx hb dX14_symbol_138 (by decide) ?_
    exact q_iret hx hb hr hlocks hW hS ⟨(by decide +kernel), rfl, rfl⟩ (Nat.le_of_ble_eq_true rfl) (Nat.le_of_ble_eq_true rfl) dX14_symbol_140
  · refine lv_tableIn (x := 45) (off := 128) (tgt := 129) hx hb dX14_symbol_1 (by decide) (by decide) (by decide) (by decide) ?_
    refine lv_bipush (v := 57) hx hb dX14_symbol_129 (by decide) ?_
    exact q_iret hx hb hr hlocks hW hS ⟨(by decide +kernel), rfl, rfl⟩ (Nat.le_of_ble_eq_true rfl) (Nat.le_of_ble_eq_true rfl) dX14_symbol_131
  · refine lv_tableIn (x := 46) (off := 137) (tgt := 138) hx hb dX14_symbol_1 (by decide) (by decide) (by decide) (by decide) ?_
    refine lv_bipush (v := 70) hx hb dX14_symbol_138 (by decide) ?_
    exact q_iret hx hb hr hlocks hW hS ⟨(by decide +kernel), rfl, rfl⟩ (Nat.le_of_ble_eq_true rfl) (Nat.le_of_ble_eq_true rfl) dX14_symbol_140
  · refine lv_tableIn (x := 47) (off := 134) (tgt := 135) hx hb dX14_symbol_1 (by decide) (by decide) (by decide) (by decide) ?_
    refine lv_bipush (v := 59) hx hb dX14_symbol_135 (by decide) ?_
    exact q_iret hx hb hr hlocks hW hS ⟨(by decide +kernel), rfl, rfl⟩ (Nat.le_of_ble_eq_true rfl) (Nat.le_of_ble_eq_true rfl) dX14_symbol_137
  · refine lv_tableIn (x := 48) (off := 137) (tgt := 138) hx hb dX14_symbol_1 (by decide) (by decide) (by decide) (by decide) ?_
    refine lv_bipush (v := 70) hx hb dX14_symbol_138 (by decide) ?_
    exact q_iret hx hb hr hlocks hW hS ⟨(by decide +kernel), rfl, rfl⟩ (Nat.le_of_ble_eq_true rfl) (Nat.le_of_ble_eq_true rfl) dX14_symbol_140
  · refine lv_tableIn (x := 49) (off := 137) (tgt := 138) hx hb dX14_symbol_1 (by decide) (by decide) (by decide) (by decide) ?_
    refine lv_bipush (v := 70) hx hb dX14_symbol_138 (by decide) ?_
    exact q_iret hx hb hr hlocks hW hS ⟨(by decide +kernel), rfl, rfl⟩ (Nat.le_of_ble_eq_true rfl) (Nat.le_of_ble_eq_true rfl) dX14_symbol_140
  · refine lv_tableIn (x := 50) (off := 137) (tgt := 138) hx hb dX14_symbol_1 (by decide) (by decide) (by decide) (by decide) ?_
    refine lv_bipush (v := 70) hx hb dX14_symbol_138 (by decide) ?_
    exact q_iret hx hb hr hlocks hW hS ⟨(by decide +kernel), rfl, rfl⟩ (Nat.le_of_ble_eq_true rfl) (Nat.le_of_ble_eq_true rfl) dX14_symbol_140
  · refine lv_tableIn (x := 51) (off := 137) (tgt := 138) hx hb dX14_symbol_1 (by decide) (by decide) (by decide) (by decide) ?_
    refine lv_bipush (v := 70) hx hb dX14_symbol_138 (by decide) ?_
    exact q_iret hx hb hr hlocks hW hS ⟨(by decide +kernel), rfl, rfl⟩ (Nat.le_of_ble_eq_true rfl) (Nat.le_of_ble_eq_true rfl) dX14_symbol_140
  · refine lv_tableIn (x := 52) (off := 137) (tgt := 138) hx hb dX14_symbol_1 (by decide) (by decide) (by decide) (by decide) ?_
    refine lv_bipush (v := 70) hx hb dX14_symbol_138 (by decide) ?_
    exact q_iret hx hb hr hlocks hW hS ⟨(by decide +kernel), rfl, rfl⟩ (Nat.le_of_ble_eq_true rfl) (Nat.le_of_ble_eq_true rfl) dX14_symbol_140
  · refine lv_tableIn (x := 53) (off := 137) (tgt := 138) hx hb dX14_symbol_1 (by decide) (by decide) (by decide) (by decide) ?_
    refine lv_bipush (v := 70) hx hb dX14_symbol_138 (by decide) ?_
    exact q_iret hx hb hr hlocks hW hS ⟨(by decide +kernel), rfl, rfl⟩ (Nat.le_of_ble_eq_true rfl) (Nat.le_of_ble_eq_true rfl) dX14_symbol_140
  · refine lv_tableIn (x := 54) (off := 137) (tgt := 138) hx hb dX14_symbol_1 (by decide) (by decide) (by decide) (by decide) ?_
    refine lv_bipush (v := 70) hx hb dX14_symbol_138 (by decide) ?_
    exact q_iret hx hb hr hlocks hW hS ⟨(by decide +kernel), rfl, rfl⟩ (Nat.le_of_ble_eq_true rfl) (Nat.le_of_ble_eq_true rfl) dX14_symbol_140
  · refine lv_tableIn (x := 55) (off := 137) (tgt := 138) hx hb dX14_symbol_1 (by decide) (by decide) (by decide) (by decide) ?_
    refine lv_bipush (v := 70) hx hb dX14_symbol_138 (by decide) ?_
    exact q_iret hx hb hr hlocks hW hS ⟨(by decide +kernel), rfl, rfl⟩ (Nat.le_of_ble_eq_true rfl) (Nat.le_of_ble_eq_true rfl) dX14_symbol_140
  · refine lv_tableIn (x := 56) (off := 137) (tgt := 138) hx hb dX14_symbol_1 (by decide) (by decide) (by decide) (by decide) ?_
    refine lv_bipush (v := 70) hx hb dX14_symbol_138 (by decide) ?_
    exact q_iret hx hb hr hlocks hW hS ⟨(by decide +kernel), rfl, rfl⟩ (Nat.le_of_ble_eq_true rfl) (Nat.le_of_ble_eq_true rfl) dX14_symbol_140
  · refine lv_tableIn (x := 57) (off := 137) (tgt := 138) hx hb dX14_symbol_1 (by decide) (by decide) (by decide) (by decide) ?_
    refine lv_bipush (v := 70) hx hb dX14_symbol_138 (by decide) ?_
    exact q_iret hx hb hr hlocks hW hS ⟨(by decide +kernel), rfl, rfl⟩ (Nat.le_of_ble_eq_true rfl) (Nat.le_of_ble_eq_true rfl) dX14_symbol_140
  · refine lv_tableIn (x := 58) (off := 137) (tgt := 138) hx hb dX14_symbol_1 (by decide) (by decide) (by decide) (by decide) ?_
    refine lv_bipush (v := 70) hx hb dX14_symbol_138 (by decide) ?_
    exact q_iret hx hb hr hlocks hW hS ⟨(by decide +kernel), rfl, rfl⟩ (Nat.le_of_ble_eq_true rfl) (Nat.le_of_ble_eq_true rfl) dX14_symbol_140
  · refine lv_tableIn (x := 59) (off := 113) (tgt := 114) hx hb dX14_symbol_1 (by decide) (by decide) (by decide) (by decide) ?_
    refine lv_bipush (v := 52) hx hb dX14_symbol_114 (by decide) ?_
    exact q_iret hx hb hr hlocks hW hS ⟨(by decide +kernel), rfl, rfl⟩ (Nat.le_of_ble_eq_true rfl) (Nat.le_of_ble_eq_true rfl) dX14_symbol_116
  · refine lv_tableIn (x := 60) (off := 116) (tgt := 117) hx hb dX14_symbol_1 (by decide) (by decide) (by decide) (by decide) ?_
    refine lv_bipush (v := 53) hx hb dX14_symbol_117 (by decide) ?_
    exact q_iret hx hb hr hlocks hW hS ⟨(by decide +kernel), rfl, rfl⟩ (Nat.le_of_ble_eq_true rfl) (Nat.le_of_ble_eq_true rfl) dX14_symbol_119
  · refine lv_tableIn (x := 61) (off := 122) (tgt := 123) hx hb dX14_symbol_1 (by decide) (by decide) (by decide) (by decide) ?_
    refine lv_bipush (v := 55) hx hb dX14_symbol_123 (by decide) ?_
    exact q_iret hx hb hr hlocks hW hS ⟨(by decide +kernel), rfl, rfl⟩ (Nat.le_of_ble_eq_true rfl) (Nat.le_of_ble_eq_true rfl) dX14_symbol_125
  · refine lv_tableIn (x := 62) (off := 119) (tgt := 120) hx hb dX14_symbol_1 (by decide) (by decide) (by decide) (by decide) ?_
    refine lv_bipush (v := 54) hx hb dX14_symbol_120 (by decide) ?_
    exact q_iret hx hb hr hlocks hW hS ⟨(by decide +kernel), rfl, rfl⟩ (Nat.le_of_ble_eq_true rfl) (Nat.le_of_ble_eq_true rfl) dX14_symbol_122
  · refine lv_tableOut (x := nI z) (tgt := 138) hx hb dX14_symbol_1 (by rw [nI_toInt (by omega)]; omega) (by decide) ?_
    refine lv_bipush (v := 70) hx hb dX14_symbol_138 (by decide) ?_
    exact q_iret hx hb hr hlocks hW hS ⟨(show nI (m_kd (k_sign (nI z))) = 70 from by rw [sym_out z hz hout]; rfl), rfl, rfl⟩ (Nat.le_of_ble_eq_true rfl) (Nat.le_of_ble_eq_true rfl) dX14_symbol_140

set_option maxHeartbeats 4000000 in
set_option maxRecDepth 100000 in
theorem kX13_begin (l : Launch) (E : q_E) (f : q_H) (n : Nat) (M : Nat) (r : q_R)  (hm : RM E f M r) : Met l yX13_begin wsX13_begin ({ frames := 0, cells := 0, slots := 0, locals := 0 }) (q_P E [.ref (M + 25)] f n) (q_Qv E (fun f1 n1 => rO E f M (rp (rp (rp (rp (rp r 130 (fun _ => 0)) 131 (fun _ => 0)) 132 (fun _ => 0)) 133 (fun _ => 0)) 134 (fun _ => 0)) = f1 ∧ n = n1)) 0 0 (q_ge E) := by
  refine Met.ofW (cc := cX13_begin) (maxL := 1) (ret := none) (by decide) rfl ?_
  intro p e s m args below meth c s₁ B hml hv
  obtain ⟨rfl, hA, hW⟩ := hv
  have hx := B.exec
  have hb := B.bytes
  have hr := B.returns
  have hts := atoms_spec (ws := wsX13_begin) B.pre
  have hown : s.vm.findClass RX13 = some m.cls := findClass_of_methodNamed B.named
  have hlocks := B.notSynchronized
  have hS : va_S (q_ge E) s.heap s.heap [] := va_S.rf
  have iX13 : ∀ w ∈ wsX130, w ∈ wsX13_begin := by decide +kernel
  have hl := lv_entry ([.ref (M + 25)]) (n := 1) (Nat.le_of_ble_eq_true rfl)
  rw [lg_entry_eq]
  generalize (lg_sl ([.ref (M + 25)]) ++ List.replicate (1 - (lg_sl ([.ref (M + 25)])).length) Slot.unset).toArray = ls at hl ⊢
  have hl : lv_has ls 1 [(0, .ref (M + 25))] := hl
  have hmE := hm.eq
  rw [hm.eq] at hW
  refine lv_aload_n hx hb dX13_begin_0 rfl (lv_at hl 0 rfl) ?_
  refine lv_iconst (v := 0) hx hb dX13_begin_1 (by decide) ?_
  refine q_put hx hb hts hown hA hW hS iX13 tyX13 tyX13_ok nmX13 rO_25 rfl 0 (by decide) (hts (.fieldLink RX13 60 "HighRecipesModel$Book" "pans" "I") (by decide +kernel)) (fun _ h9 => h9) rfl rfl rfl (Nat.le_of_ble_eq_true rfl) dX13_begin_2 (fun H locs hW hS => ?_)
  have hW := q_s25 130 (0) hW rfl (by decide)
  refine lv_aload_n hx hb dX13_begin_5 rfl (lv_at hl 0 rfl) ?_
  refine lv_iconst (v := 0) hx hb dX13_begin_6 (by decide) ?_
  refine q_put hx hb hts hown hA hW hS iX13 tyX13 tyX13_ok nmX13 rO_25 rfl 2 (by decide) (hts (.fieldLink RX13 64 "HighRecipesModel$Book" "recipes" "I") (by decide +kernel)) (fun _ h9 => h9) rfl rfl rfl (Nat.le_of_ble_eq_true rfl) dX13_begin_7 (fun H locs hW hS => ?_)
  have hW := q_s25 131 (0) hW rfl (by decide)
  refine lv_aload_n hx hb dX13_begin_10 rfl (lv_at hl 0 rfl) ?_
  refine lv_iconst (v := 0) hx hb dX13_begin_11 (by decide) ?_
  refine q_put hx hb hts hown hA hW hS iX13 tyX13 tyX13_ok nmX13 rO_25 rfl 4 (by decide) (hts (.fieldLink RX13 67 "HighRecipesModel$Book" "acts" "I") (by decide +kernel)) (fun _ h9 => h9) rfl rfl rfl (Nat.le_of_ble_eq_true rfl) dX13_begin_12 (fun H locs hW hS => ?_)
  have hW := q_s25 132 (0) hW rfl (by decide)
  refine lv_aload_n hx hb dX13_begin_15 rfl (lv_at hl 0 rfl) ?_
  refine lv_iconst (v := 0) hx hb dX13_begin_16 (by decide) ?_
  refine q_put hx hb hts hown hA hW hS iX13 tyX13 tyX13_ok nmX13 rO_25 rfl 13 (by decide) (hts (.fieldLink RX13 70 "HighRecipesModel$Book" "compares" "I") (by decide +kernel)) (fun _ h9 => h9) rfl rfl rfl (Nat.le_of_ble_eq_true rfl) dX13_begin_17 (fun H locs hW hS => ?_)
  have hW := q_s25 133 (0) hW rfl (by decide)
  refine lv_aload_n hx hb dX13_begin_20 rfl (lv_at hl 0 rfl) ?_
  refine lv_iconst (v := 0) hx hb dX13_begin_21 (by decide) ?_
  refine q_put hx hb hts hown hA hW hS iX13 tyX13 tyX13_ok nmX13 rO_25 rfl 17 (by decide) (hts (.fieldLink RX13 73 "HighRecipesModel$Book" "nodes" "I") (by decide +kernel)) (fun _ h9 => h9) rfl rfl rfl (Nat.le_of_ble_eq_true rfl) dX13_begin_22 (fun H locs hW hS => ?_)
  have hW := q_s25 134 (0) hW rfl (by decide)
  exact q_vret hx hb hr hlocks hW hS ⟨rfl, rfl⟩ (Nat.le_of_ble_eq_true rfl) (Nat.le_of_ble_eq_true rfl) dX13_begin_25

set_option maxHeartbeats 4000000 in
set_option maxRecDepth 100000 in
theorem kX13_copy_1 (l : Launch) (E : q_E) (f : q_H) (n : Nat) (M : Nat) (r : q_R)  (hm : RM E f M r) : Met l yX13_copy wsX13_copy ({ frames := 1, cells := 0, slots := 0, locals := 60 }) (q_P E [.ref (M + 26), .ref (M + 9)] f n) (q_Qv E (fun f1 n1 => rO E f M (rp r 9 (r 26)) = f1 ∧ n = n1)) 0 0 (q_ge E) := by
  refine Met.ofW (cc := cX13_copy) (maxL := 2) (ret := none) (by decide) rfl ?_
  intro p e s m args below meth c s₁ B hml hv
  obtain ⟨rfl, hA, hW⟩ := hv
  have hx := B.exec
  have hb := B.bytes
  have hr := B.returns
  have hts := atoms_spec (ws := wsX13_copy) B.pre
  have hown : s.vm.findClass RX13 = some m.cls := findClass_of_methodNamed B.named
  have hlocks := B.notSynchronized
  have hS : va_S (q_ge E) s.heap s.heap [] := va_S.rf
  have hl := lv_entry ([.ref (M + 26), .ref (M + 9)]) (n := 2) (Nat.le_of_ble_eq_true rfl)
  rw [lg_entry_eq]
  generalize (lg_sl ([.ref (M + 26), .ref (M + 9)]) ++ List.replicate (2 - (lg_sl ([.ref (M + 26), .ref (M + 9)])).length) Slot.unset).toArray = ls at hl ⊢
  have hl : lv_has ls 2 [(0, .ref (M + 26)), (1, .ref (M + 9))] := hl
  have hmE := hm.eq
  rw [hm.eq] at hW
  refine lv_aload_n hx hb dX13_copy_0 rfl (lv_at hl 0 rfl) ?_
  refine lv_iconst (v := 0) hx hb dX13_copy_1 (by decide) ?_
  refine lv_aload_n hx hb dX13_copy_2 rfl (lv_at hl 1 rfl) ?_
  refine lv_iconst (v := 0) hx hb dX13_copy_3 (by decide) ?_
  refine lv_aload_n hx hb dX13_copy_4 rfl (lv_at hl 1 rfl) ?_
  refine q_alen hx hb hA hW 0 rfl (rO_9 rfl) (v := 9) rfl dX13_copy_5 ?_
  refine q_cpy hx hb (hml.trans hl.1.symm) hown (hts (.methodLink RX13 76 arraycopyName) (by decide +kernel)) (hts (.native arraycopyName) (by decide +kernel)) (hts (.static arraycopyName) (by decide +kernel)) (hts (.initialized "java/lang/System") (by decide +kernel)) hA hW hS (rO_26 rfl) (rO_9 rfl) rfl (by decide) (Nat.le_of_ble_eq_true rfl) (by decide +kernel) dX13_copy_6 (fun H locs hW hS => ?_)
  have hW := q_sa 9 hW rfl rfl
  exact q_vret hx hb hr hlocks hW hS ⟨rfl, rfl⟩ (Nat.le_of_ble_eq_true rfl) (Nat.le_of_ble_eq_true rfl) dX13_copy_9

set_option maxHeartbeats 4000000 in
set_option maxRecDepth 100000 in
theorem kX13_copy_2 (l : Launch) (E : q_E) (f : q_H) (n : Nat) (M : Nat) (r : q_R)  (hm : RM E f M r) : Met l yX13_copy wsX13_copy ({ frames := 1, cells := 0, slots := 0, locals := 60 }) (q_P E [.ref (M + 27), .ref (M + 10)] f n) (q_Qv E (fun f1 n1 => rO E f M (rp r 10 (r 27)) = f1 ∧ n = n1)) 0 0 (q_ge E) := by
  refine Met.ofW (cc := cX13_copy) (maxL := 2) (ret := none) (by decide) rfl ?_
  intro p e s m args below meth c s₁ B hml hv
  obtain ⟨rfl, hA, hW⟩ := hv
  have hx := B.exec
  have hb := B.bytes
  have hr := B.returns
  have hts := atoms_spec (ws := wsX13_copy) B.pre
  have hown : s.vm.findClass RX13 = some m.cls := findClass_of_methodNamed B.named
  have hlocks := B.notSynchronized
  have hS : va_S (q_ge E) s.heap s.heap [] := va_S.rf
  have hl := lv_entry ([.ref (M + 27), .ref (M + 10)]) (n := 2) (Nat.le_of_ble_eq_true rfl)
  rw [lg_entry_eq]
  generalize (lg_sl ([.ref (M + 27), .ref (M + 10)]) ++ List.replicate (2 - (lg_sl ([.ref (M + 27), .ref (M + 10)])).length) Slot.unset).toArray = ls at hl ⊢
  have hl : lv_has ls 2 [(0, .ref (M + 27)), (1, .ref (M + 10))] := hl
  have hmE := hm.eq
  rw [hm.eq] at hW
  refine lv_aload_n hx hb dX13_copy_0 rfl (lv_at hl 0 rfl) ?_
  refine lv_iconst (v := 0) hx hb dX13_copy_1 (by decide) ?_
  refine lv_aload_n hx hb dX13_copy_2 rfl (lv_at hl 1 rfl) ?_
  refine lv_iconst (v := 0) hx hb dX13_copy_3 (by decide) ?_
  refine lv_aload_n hx hb dX13_copy_4 rfl (lv_at hl 1 rfl) ?_
  refine q_alen hx hb hA hW 0 rfl (rO_10 rfl) (v := 7) rfl dX13_copy_5 ?_
  refine q_cpy hx hb (hml.trans hl.1.symm) hown (hts (.methodLink RX13 76 arraycopyName) (by decide +kernel)) (hts (.native arraycopyName) (by decide +kernel)) (hts (.static arraycopyName) (by decide +kernel)) (hts (.initialized "java/lang/System") (by decide +kernel)) hA hW hS (rO_27 rfl) (rO_10 rfl) rfl (by decide) (Nat.le_of_ble_eq_true rfl) (by decide +kernel) dX13_copy_6 (fun H locs hW hS => ?_)
  have hW := q_sa 10 hW rfl rfl
  exact q_vret hx hb hr hlocks hW hS ⟨rfl, rfl⟩ (Nat.le_of_ble_eq_true rfl) (Nat.le_of_ble_eq_true rfl) dX13_copy_9

set_option maxHeartbeats 4000000 in
set_option maxRecDepth 100000 in
theorem kX13_copy_3 (l : Launch) (E : q_E) (f : q_H) (n : Nat) (M : Nat) (r : q_R)  (hm : RM E f M r) : Met l yX13_copy wsX13_copy ({ frames := 1, cells := 0, slots := 0, locals := 60 }) (q_P E [.ref (M + 28), .ref (M + 11)] f n) (q_Qv E (fun f1 n1 => rO E f M (rp r 11 (r 28)) = f1 ∧ n = n1)) 0 0 (q_ge E) := by
  refine Met.ofW (cc := cX13_copy) (maxL := 2) (ret := none) (by decide) rfl ?_
  intro p e s m args below meth c s₁ B hml hv
  obtain ⟨rfl, hA, hW⟩ := hv
  have hx := B.exec
  have hb := B.bytes
  have hr := B.returns
  have hts := atoms_spec (ws := wsX13_copy) B.pre
  have hown : s.vm.findClass RX13 = some m.cls := findClass_of_methodNamed B.named
  have hlocks := B.notSynchronized
  have hS : va_S (q_ge E) s.heap s.heap [] := va_S.rf
  have hl := lv_entry ([.ref (M + 28), .ref (M + 11)]) (n := 2) (Nat.le_of_ble_eq_true rfl)
  rw [lg_entry_eq]
  generalize (lg_sl ([.ref (M + 28), .ref (M + 11)]) ++ List.replicate (2 - (lg_sl ([.ref (M + 28), .ref (M + 11)])).length) Slot.unset).toArray = ls at hl ⊢
  have hl : lv_has ls 2 [(0, .ref (M + 28)), (1, .ref (M + 11))] := hl
  have hmE := hm.eq
  rw [hm.eq] at hW
  refine lv_aload_n hx hb dX13_copy_0 rfl (lv_at hl 0 rfl) ?_
  refine lv_iconst (v := 0) hx hb dX13_copy_1 (by decide) ?_
  refine lv_aload_n hx hb dX13_copy_2 rfl (lv_at hl 1 rfl) ?_
  refine lv_iconst (v := 0) hx hb dX13_copy_3 (by decide) ?_
  refine lv_aload_n hx hb dX13_copy_4 rfl (lv_at hl 1 rfl) ?_
  refine q_alen hx hb hA hW 0 rfl (rO_11 rfl) (v := 81) rfl dX13_copy_5 ?_
  refine q_cpy hx hb (hml.trans hl.1.symm) hown (hts (.methodLink RX13 76 arraycopyName) (by decide +kernel)) (hts (.native arraycopyName) (by decide +kernel)) (hts (.static arraycopyName) (by decide +kernel)) (hts (.initialized "java/lang/System") (by decide +kernel)) hA hW hS (rO_28 rfl) (rO_11 rfl) rfl (by decide) (Nat.le_of_ble_eq_true rfl) (by decide +kernel) dX13_copy_6 (fun H locs hW hS => ?_)
  have hW := q_sa 11 hW rfl rfl
  exact q_vret hx hb hr hlocks hW hS ⟨rfl, rfl⟩ (Nat.le_of_ble_eq_true rfl) (Nat.le_of_ble_eq_true rfl) dX13_copy_9

set_option maxHeartbeats 4000000 in
set_option maxRecDepth 100000 in
theorem kX13_copy_4 (l : Launch) (E : q_E) (f : q_H) (n : Nat) (M : Nat) (r : q_R)  (hm : RM E f M r) : Met l yX13_copy wsX13_copy ({ frames := 1, cells := 0, slots := 0, locals := 60 }) (q_P E [.ref (M + 29), .ref (M + 12)] f n) (q_Qv E (fun f1 n1 => rO E f M (rp r 12 (r 29)) = f1 ∧ n = n1)) 0 0 (q_ge E) := by
  refine Met.ofW (cc := cX13_copy) (maxL := 2) (ret := none) (by decide) rfl ?_
  intro p e s m args below meth c s₁ B hml hv
  obtain ⟨rfl, hA, hW⟩ := hv
  have hx := B.exec
  have hb := B.bytes
  have hr := B.returns
  have hts := atoms_spec (ws := wsX13_copy) B.pre
  have hown : s.vm.findClass RX13 = some m.cls := findClass_of_methodNamed B.named
  have hlocks := B.notSynchronized
  have hS : va_S (q_ge E) s.heap s.heap [] := va_S.rf
  have hl := lv_entry ([.ref (M + 29), .ref (M + 12)]) (n := 2) (Nat.le_of_ble_eq_true rfl)
  rw [lg_entry_eq]
  generalize (lg_sl ([.ref (M + 29), .ref (M + 12)]) ++ List.replicate (2 - (lg_sl ([.ref (M + 29), .ref (M + 12)])).length) Slot.unset).toArray = ls at hl ⊢
  have hl : lv_has ls 2 [(0, .ref (M + 29)), (1, .ref (M + 12))] := hl
  have hmE := hm.eq
  rw [hm.eq] at hW
  refine lv_aload_n hx hb dX13_copy_0 rfl (lv_at hl 0 rfl) ?_
  refine lv_iconst (v := 0) hx hb dX13_copy_1 (by decide) ?_
  refine lv_aload_n hx hb dX13_copy_2 rfl (lv_at hl 1 rfl) ?_
  refine lv_iconst (v := 0) hx hb dX13_copy_3 (by decide) ?_
  refine lv_aload_n hx hb dX13_copy_4 rfl (lv_at hl 1 rfl) ?_
  refine q_alen hx hb hA hW 0 rfl (rO_12 rfl) (v := 81) rfl dX13_copy_5 ?_
  refine q_cpy hx hb (hml.trans hl.1.symm) hown (hts (.methodLink RX13 76 arraycopyName) (by decide +kernel)) (hts (.native arraycopyName) (by decide +kernel)) (hts (.static arraycopyName) (by decide +kernel)) (hts (.initialized "java/lang/System") (by decide +kernel)) hA hW hS (rO_29 rfl) (rO_12 rfl) rfl (by decide) (Nat.le_of_ble_eq_true rfl) (by decide +kernel) dX13_copy_6 (fun H locs hW hS => ?_)
  have hW := q_sa 12 hW rfl rfl
  exact q_vret hx hb hr hlocks hW hS ⟨rfl, rfl⟩ (Nat.le_of_ble_eq_true rfl) (Nat.le_of_ble_eq_true rfl) dX13_copy_9

set_option maxHeartbeats 4000000 in
set_option maxRecDepth 100000 in
theorem kX13_copy_5 (l : Launch) (E : q_E) (f : q_H) (n : Nat) (M : Nat) (r : q_R)  (hm : RM E f M r) : Met l yX13_copy wsX13_copy ({ frames := 1, cells := 0, slots := 0, locals := 60 }) (q_P E [.ref (M + 30), .ref (M + 13)] f n) (q_Qv E (fun f1 n1 => rO E f M (rp r 13 (r 30)) = f1 ∧ n = n1)) 0 0 (q_ge E) := by
  refine Met.ofW (cc := cX13_copy) (maxL := 2) (ret := none) (by decide) rfl ?_
  intro p e s m args below meth c s₁ B hml hv
  obtain ⟨rfl, hA, hW⟩ := hv
  have hx := B.exec
  have hb := B.bytes
  have hr := B.returns
  have hts := atoms_spec (ws := wsX13_copy) B.pre
  have hown : s.vm.findClass RX13 = some m.cls := findClass_of_methodNamed B.named
  have hlocks := B.notSynchronized
  have hS : va_S (q_ge E) s.heap s.heap [] := va_S.rf
  have hl := lv_entry ([.ref (M + 30), .ref (M + 13)]) (n := 2) (Nat.le_of_ble_eq_true rfl)
  rw [lg_entry_eq]
  generalize (lg_sl ([.ref (M + 30), .ref (M + 13)]) ++ List.replicate (2 - (lg_sl ([.ref (M + 30), .ref (M + 13)])).length) Slot.unset).toArray = ls at hl ⊢
  have hl : lv_has ls 2 [(0, .ref (M + 30)), (1, .ref (M + 13))] := hl
  have hmE := hm.eq
  rw [hm.eq] at hW
  refine lv_aload_n hx hb dX13_copy_0 rfl (lv_at hl 0 rfl) ?_
  refine lv_iconst (v := 0) hx hb dX13_copy_1 (by decide) ?_
  refine lv_aload_n hx hb dX13_copy_2 rfl (lv_at hl 1 rfl) ?_
  refine lv_iconst (v := 0) hx hb dX13_copy_3 (by decide) ?_
  refine lv_aload_n hx hb dX13_copy_4 rfl (lv_at hl 1 rfl) ?_
  refine q_alen hx hb hA hW 0 rfl (rO_13 rfl) (v := 81) rfl dX13_copy_5 ?_
  refine q_cpy hx hb (hml.trans hl.1.symm) hown (hts (.methodLink RX13 76 arraycopyName) (by decide +kernel)) (hts (.native arraycopyName) (by decide +kernel)) (hts (.static arraycopyName) (by decide +kernel)) (hts (.initialized "java/lang/System") (by decide +kernel)) hA hW hS (rO_30 rfl) (rO_13 rfl) rfl (by decide) (Nat.le_of_ble_eq_true rfl) (by decide +kernel) dX13_copy_6 (fun H locs hW hS => ?_)
  have hW := q_sa 13 hW rfl rfl
  exact q_vret hx hb hr hlocks hW hS ⟨rfl, rfl⟩ (Nat.le_of_ble_eq_true rfl) (Nat.le_of_ble_eq_true rfl) dX13_copy_9

set_option maxHeartbeats 4000000 in
set_option maxRecDepth 100000 in
theorem kX13_copy_6 (l : Launch) (E : q_E) (f : q_H) (n : Nat) (M : Nat) (r : q_R)  (hm : RM E f M r) : Met l yX13_copy wsX13_copy ({ frames := 1, cells := 0, slots := 0, locals := 60 }) (q_P E [.ref (M + 31), .ref (M + 14)] f n) (q_Qv E (fun f1 n1 => rO E f M (rp r 14 (r 31)) = f1 ∧ n = n1)) 0 0 (q_ge E) := by
  refine Met.ofW (cc := cX13_copy) (maxL := 2) (ret := none) (by decide) rfl ?_
  intro p e s m args below meth c s₁ B hml hv
  obtain ⟨rfl, hA, hW⟩ := hv
  have hx := B.exec
  have hb := B.bytes
  have hr := B.returns
  have hts := atoms_spec (ws := wsX13_copy) B.pre
  have hown : s.vm.findClass RX13 = some m.cls := findClass_of_methodNamed B.named
  have hlocks := B.notSynchronized
  have hS : va_S (q_ge E) s.heap s.heap [] := va_S.rf
  have hl := lv_entry ([.ref (M + 31), .ref (M + 14)]) (n := 2) (Nat.le_of_ble_eq_true rfl)
  rw [lg_entry_eq]
  generalize (lg_sl ([.ref (M + 31), .ref (M + 14)]) ++ List.replicate (2 - (lg_sl ([.ref (M + 31), .ref (M + 14)])).length) Slot.unset).toArray = ls at hl ⊢
  have hl : lv_has ls 2 [(0, .ref (M + 31)), (1, .ref (M + 14))] := hl
  have hmE := hm.eq
  rw [hm.eq] at hW
  refine lv_aload_n hx hb dX13_copy_0 rfl (lv_at hl 0 rfl) ?_
  refine lv_iconst (v := 0) hx hb dX13_copy_1 (by decide) ?_
  refine lv_aload_n hx hb dX13_copy_2 rfl (lv_at hl 1 rfl) ?_
  refine lv_iconst (v := 0) hx hb dX13_copy_3 (by decide) ?_
  refine lv_aload_n hx hb dX13_copy_4 rfl (lv_at hl 1 rfl) ?_
  refine q_alen hx hb hA hW 0 rfl (rO_14 rfl) (v := 81) rfl dX13_copy_5 ?_
  refine q_cpy hx hb (hml.trans hl.1.symm) hown (hts (.methodLink RX13 76 arraycopyName) (by decide +kernel)) (hts (.native arraycopyName) (by decide +kernel)) (hts (.static arraycopyName) (by decide +kernel)) (hts (.initialized "java/lang/System") (by decide +kernel)) hA hW hS (rO_31 rfl) (rO_14 rfl) rfl (by decide) (Nat.le_of_ble_eq_true rfl) (by decide +kernel) dX13_copy_6 (fun H locs hW hS => ?_)
  have hW := q_sa 14 hW rfl rfl
  exact q_vret hx hb hr hlocks hW hS ⟨rfl, rfl⟩ (Nat.le_of_ble_eq_true rfl) (Nat.le_of_ble_eq_true rfl) dX13_copy_9

set_option maxHeartbeats 4000000 in
set_option maxRecDepth 100000 in
theorem kX13_copy_7 (l : Launch) (E : q_E) (f : q_H) (n : Nat) (M : Nat) (r : q_R)  (hm : RM E f M r) : Met l yX13_copy wsX13_copy ({ frames := 1, cells := 0, slots := 0, locals := 60 }) (q_P E [.ref (M + 32), .ref (M + 15)] f n) (q_Qv E (fun f1 n1 => rO E f M (rp r 15 (r 32)) = f1 ∧ n = n1)) 0 0 (q_ge E) := by
  refine Met.ofW (cc := cX13_copy) (maxL := 2) (ret := none) (by decide) rfl ?_
  intro p e s m args below meth c s₁ B hml hv
  obtain ⟨rfl, hA, hW⟩ := hv
  have hx := B.exec
  have hb := B.bytes
  have hr := B.returns
  have hts := atoms_spec (ws := wsX13_copy) B.pre
  have hown : s.vm.findClass RX13 = some m.cls := findClass_of_methodNamed B.named
  have hlocks := B.notSynchronized
  have hS : va_S (q_ge E) s.heap s.heap [] := va_S.rf
  have hl := lv_entry ([.ref (M + 32), .ref (M + 15)]) (n := 2) (Nat.le_of_ble_eq_true rfl)
  rw [lg_entry_eq]
  generalize (lg_sl ([.ref (M + 32), .ref (M + 15)]) ++ List.replicate (2 - (lg_sl ([.ref (M + 32), .ref (M + 15)])).length) Slot.unset).toArray = ls at hl ⊢
  have hl : lv_has ls 2 [(0, .ref (M + 32)), (1, .ref (M + 15))] := hl
  have hmE := hm.eq
  rw [hm.eq] at hW
  refine lv_aload_n hx hb dX13_copy_0 rfl (lv_at hl 0 rfl) ?_
  refine lv_iconst (v := 0) hx hb dX13_copy_1 (by decide) ?_
  refine lv_aload_n hx hb dX13_copy_2 rfl (lv_at hl 1 rfl) ?_
  refine lv_iconst (v := 0) hx hb dX13_copy_3 (by decide) ?_
  refine lv_aload_n hx hb dX13_copy_4 rfl (lv_at hl 1 rfl) ?_
  refine q_alen hx hb hA hW 0 rfl (rO_15 rfl) (v := 81) rfl dX13_copy_5 ?_
  refine q_cpy hx hb (hml.trans hl.1.symm) hown (hts (.methodLink RX13 76 arraycopyName) (by decide +kernel)) (hts (.native arraycopyName) (by decide +kernel)) (hts (.static arraycopyName) (by decide +kernel)) (hts (.initialized "java/lang/System") (by decide +kernel)) hA hW hS (rO_32 rfl) (rO_15 rfl) rfl (by decide) (Nat.le_of_ble_eq_true rfl) (by decide +kernel) dX13_copy_6 (fun H locs hW hS => ?_)
  have hW := q_sa 15 hW rfl rfl
  exact q_vret hx hb hr hlocks hW hS ⟨rfl, rfl⟩ (Nat.le_of_ble_eq_true rfl) (Nat.le_of_ble_eq_true rfl) dX13_copy_9

set_option maxHeartbeats 4000000 in
set_option maxRecDepth 100000 in
theorem kX13_copy_8 (l : Launch) (E : q_E) (f : q_H) (n : Nat) (M : Nat) (r : q_R)  (hm : RM E f M r) : Met l yX13_copy wsX13_copy ({ frames := 1, cells := 0, slots := 0, locals := 60 }) (q_P E [.ref (M + 33), .ref (M + 16)] f n) (q_Qv E (fun f1 n1 => rO E f M (rp r 16 (r 33)) = f1 ∧ n = n1)) 0 0 (q_ge E) := by
  refine Met.ofW (cc := cX13_copy) (maxL := 2) (ret := none) (by decide) rfl ?_
  intro p e s m args below meth c s₁ B hml hv
  obtain ⟨rfl, hA, hW⟩ := hv
  have hx := B.exec
  have hb := B.bytes
  have hr := B.returns
  have hts := atoms_spec (ws := wsX13_copy) B.pre
  have hown : s.vm.findClass RX13 = some m.cls := findClass_of_methodNamed B.named
  have hlocks := B.notSynchronized
  have hS : va_S (q_ge E) s.heap s.heap [] := va_S.rf
  have hl := lv_entry ([.ref (M + 33), .ref (M + 16)]) (n := 2) (Nat.le_of_ble_eq_true rfl)
  rw [lg_entry_eq]
  generalize (lg_sl ([.ref (M + 33), .ref (M + 16)]) ++ List.replicate (2 - (lg_sl ([.ref (M + 33), .ref (M + 16)])).length) Slot.unset).toArray = ls at hl ⊢
  have hl : lv_has ls 2 [(0, .ref (M + 33)), (1, .ref (M + 16))] := hl
  have hmE := hm.eq
  rw [hm.eq] at hW
  refine lv_aload_n hx hb dX13_copy_0 rfl (lv_at hl 0 rfl) ?_
  refine lv_iconst (v := 0) hx hb dX13_copy_1 (by decide) ?_
  refine lv_aload_n hx hb dX13_copy_2 rfl (lv_at hl 1 rfl) ?_
  refine lv_iconst (v := 0) hx hb dX13_copy_3 (by decide) ?_
  refine lv_aload_n hx hb dX13_copy_4 rfl (lv_at hl 1 rfl) ?_
  refine q_alen hx hb hA hW 0 rfl (rO_16 rfl) (v := 81) rfl dX13_copy_5 ?_
  refine q_cpy hx hb (hml.trans hl.1.symm) hown (hts (.methodLink RX13 76 arraycopyName) (by decide +kernel)) (hts (.native arraycopyName) (by decide +kernel)) (hts (.static arraycopyName) (by decide +kernel)) (hts (.initialized "java/lang/System") (by decide +kernel)) hA hW hS (rO_33 rfl) (rO_16 rfl) rfl (by decide) (Nat.le_of_ble_eq_true rfl) (by decide +kernel) dX13_copy_6 (fun H locs hW hS => ?_)
  have hW := q_sa 16 hW rfl rfl
  exact q_vret hx hb hr hlocks hW hS ⟨rfl, rfl⟩ (Nat.le_of_ble_eq_true rfl) (Nat.le_of_ble_eq_true rfl) dX13_copy_9

set_option maxHeartbeats 4000000 in
set_option maxRecDepth 100000 in
theorem kX13_copy_9 (l : Launch) (E : q_E) (f : q_H) (n : Nat) (M : Nat) (r : q_R)  (hm : RM E f M r) : Met l yX13_copy wsX13_copy ({ frames := 1, cells := 0, slots := 0, locals := 60 }) (q_P E [.ref (M + 34), .ref (M + 17)] f n) (q_Qv E (fun f1 n1 => rO E f M (rp r 17 (r 34)) = f1 ∧ n = n1)) 0 0 (q_ge E) := by
  refine Met.ofW (cc := cX13_copy) (maxL := 2) (ret := none) (by decide) rfl ?_
  intro p e s m args below meth c s₁ B hml hv
  obtain ⟨rfl, hA, hW⟩ := hv
  have hx := B.exec
  have hb := B.bytes
  have hr := B.returns
  have hts := atoms_spec (ws := wsX13_copy) B.pre
  have hown : s.vm.findClass RX13 = some m.cls := findClass_of_methodNamed B.named
  have hlocks := B.notSynchronized
  have hS : va_S (q_ge E) s.heap s.heap [] := va_S.rf
  have hl := lv_entry ([.ref (M + 34), .ref (M + 17)]) (n := 2) (Nat.le_of_ble_eq_true rfl)
  rw [lg_entry_eq]
  generalize (lg_sl ([.ref (M + 34), .ref (M + 17)]) ++ List.replicate (2 - (lg_sl ([.ref (M + 34), .ref (M + 17)])).length) Slot.unset).toArray = ls at hl ⊢
  have hl : lv_has ls 2 [(0, .ref (M + 34)), (1, .ref (M + 17))] := hl
  have hmE := hm.eq
  rw [hm.eq] at hW
  refine lv_aload_n hx hb dX13_copy_0 rfl (lv_at hl 0 rfl) ?_
  refine lv_iconst (v := 0) hx hb dX13_copy_1 (by decide) ?_
  refine lv_aload_n hx hb dX13_copy_2 rfl (lv_at hl 1 rfl) ?_
  refine lv_iconst (v := 0) hx hb dX13_copy_3 (by decide) ?_
  refine lv_aload_n hx hb dX13_copy_4 rfl (lv_at hl 1 rfl) ?_
  refine q_alen hx hb hA hW 0 rfl (rO_17 rfl) (v := 81) rfl dX13_copy_5 ?_
  refine q_cpy hx hb (hml.trans hl.1.symm) hown (hts (.methodLink RX13 76 arraycopyName) (by decide +kernel)) (hts (.native arraycopyName) (by decide +kernel)) (hts (.static arraycopyName) (by decide +kernel)) (hts (.initialized "java/lang/System") (by decide +kernel)) hA hW hS (rO_34 rfl) (rO_17 rfl) rfl (by decide) (Nat.le_of_ble_eq_true rfl) (by decide +kernel) dX13_copy_6 (fun H locs hW hS => ?_)
  have hW := q_sa 17 hW rfl rfl
  exact q_vret hx hb hr hlocks hW hS ⟨rfl, rfl⟩ (Nat.le_of_ble_eq_true rfl) (Nat.le_of_ble_eq_true rfl) dX13_copy_9

set_option maxHeartbeats 4000000 in
set_option maxRecDepth 100000 in
theorem kX13_copy_10 (l : Launch) (E : q_E) (f : q_H) (n : Nat) (M : Nat) (r : q_R)  (hm : RM E f M r) : Met l yX13_copy wsX13_copy ({ frames := 1, cells := 0, slots := 0, locals := 60 }) (q_P E [.ref (M + 35), .ref (M + 18)] f n) (q_Qv E (fun f1 n1 => rO E f M (rp r 18 (r 35)) = f1 ∧ n = n1)) 0 0 (q_ge E) := by
  refine Met.ofW (cc := cX13_copy) (maxL := 2) (ret := none) (by decide) rfl ?_
  intro p e s m args below meth c s₁ B hml hv
  obtain ⟨rfl, hA, hW⟩ := hv
  have hx := B.exec
  have hb := B.bytes
  have hr := B.returns
  have hts := atoms_spec (ws := wsX13_copy) B.pre
  have hown : s.vm.findClass RX13 = some m.cls := findClass_of_methodNamed B.named
  have hlocks := B.notSynchronized
  have hS : va_S (q_ge E) s.heap s.heap [] := va_S.rf
  have hl := lv_entry ([.ref (M + 35), .ref (M + 18)]) (n := 2) (Nat.le_of_ble_eq_true rfl)
  rw [lg_entry_eq]
  generalize (lg_sl ([.ref (M + 35), .ref (M + 18)]) ++ List.replicate (2 - (lg_sl ([.ref (M + 35), .ref (M + 18)])).length) Slot.unset).toArray = ls at hl ⊢
  have hl : lv_has ls 2 [(0, .ref (M + 35)), (1, .ref (M + 18))] := hl
  have hmE := hm.eq
  rw [hm.eq] at hW
  refine lv_aload_n hx hb dX13_copy_0 rfl (lv_at hl 0 rfl) ?_
  refine lv_iconst (v := 0) hx hb dX13_copy_1 (by decide) ?_
  refine lv_aload_n hx hb dX13_copy_2 rfl (lv_at hl 1 rfl) ?_
  refine lv_iconst (v := 0) hx hb dX13_copy_3 (by decide) ?_
  refine lv_aload_n hx hb dX13_copy_4 rfl (lv_at hl 1 rfl) ?_
  refine q_alen hx hb hA hW 0 rfl (rO_18 rfl) (v := 81) rfl dX13_copy_5 ?_
  refine q_cpy hx hb (hml.trans hl.1.symm) hown (hts (.methodLink RX13 76 arraycopyName) (by decide +kernel)) (hts (.native arraycopyName) (by decide +kernel)) (hts (.static arraycopyName) (by decide +kernel)) (hts (.initialized "java/lang/System") (by decide +kernel)) hA hW hS (rO_35 rfl) (rO_18 rfl) rfl (by decide) (Nat.le_of_ble_eq_true rfl) (by decide +kernel) dX13_copy_6 (fun H locs hW hS => ?_)
  have hW := q_sa 18 hW rfl rfl
  exact q_vret hx hb hr hlocks hW hS ⟨rfl, rfl⟩ (Nat.le_of_ble_eq_true rfl) (Nat.le_of_ble_eq_true rfl) dX13_copy_9

set_option maxHeartbeats 4000000 in
set_option maxRecDepth 100000 in
theorem kX13_copy_11 (l : Launch) (E : q_E) (f : q_H) (n : Nat) (M : Nat) (r : q_R)  (hm : RM E f M r) : Met l yX13_copy wsX13_copy ({ frames := 1, cells := 0, slots := 0, locals := 60 }) (q_P E [.ref (M + 36), .ref (M + 19)] f n) (q_Qv E (fun f1 n1 => rO E f M (rp r 19 (r 36)) = f1 ∧ n = n1)) 0 0 (q_ge E) := by
  refine Met.ofW (cc := cX13_copy) (maxL := 2) (ret := none) (by decide) rfl ?_
  intro p e s m args below meth c s₁ B hml hv
  obtain ⟨rfl, hA, hW⟩ := hv
  have hx := B.exec
  have hb := B.bytes
  have hr := B.returns
  have hts := atoms_spec (ws := wsX13_copy) B.pre
  have hown : s.vm.findClass RX13 = some m.cls := findClass_of_methodNamed B.named
  have hlocks := B.notSynchronized
  have hS : va_S (q_ge E) s.heap s.heap [] := va_S.rf
  have hl := lv_entry ([.ref (M + 36), .ref (M + 19)]) (n := 2) (Nat.le_of_ble_eq_true rfl)
  rw [lg_entry_eq]
  generalize (lg_sl ([.ref (M + 36), .ref (M + 19)]) ++ List.replicate (2 - (lg_sl ([.ref (M + 36), .ref (M + 19)])).length) Slot.unset).toArray = ls at hl ⊢
  have hl : lv_has ls 2 [(0, .ref (M + 36)), (1, .ref (M + 19))] := hl
  have hmE := hm.eq
  rw [hm.eq] at hW
  refine lv_aload_n hx hb dX13_copy_0 rfl (lv_at hl 0 rfl) ?_
  refine lv_iconst (v := 0) hx hb dX13_copy_1 (by decide) ?_
  refine lv_aload_n hx hb dX13_copy_2 rfl (lv_at hl 1 rfl) ?_
  refine lv_iconst (v := 0) hx hb dX13_copy_3 (by decide) ?_
  refine lv_aload_n hx hb dX13_copy_4 rfl (lv_at hl 1 rfl) ?_
  refine q_alen hx hb hA hW 0 rfl (rO_19 rfl) (v := 400) rfl dX13_copy_5 ?_
  refine q_cpy hx hb (hml.trans hl.1.symm) hown (hts (.methodLink RX13 76 arraycopyName) (by decide +kernel)) (hts (.native arraycopyName) (by decide +kernel)) (hts (.static arraycopyName) (by decide +kernel)) (hts (.initialized "java/lang/System") (by decide +kernel)) hA hW hS (rO_36 rfl) (rO_19 rfl) rfl (by decide) (Nat.le_of_ble_eq_true rfl) (by decide +kernel) dX13_copy_6 (fun H locs hW hS => ?_)
  have hW := q_sa 19 hW rfl rfl
  exact q_vret hx hb hr hlocks hW hS ⟨rfl, rfl⟩ (Nat.le_of_ble_eq_true rfl) (Nat.le_of_ble_eq_true rfl) dX13_copy_9

set_option maxHeartbeats 4000000 in
set_option maxRecDepth 100000 in
theorem kX13_copy_12 (l : Launch) (E : q_E) (f : q_H) (n : Nat) (M : Nat) (r : q_R)  (hm : RM E f M r) : Met l yX13_copy wsX13_copy ({ frames := 1, cells := 0, slots := 0, locals := 60 }) (q_P E [.ref (M + 37), .ref (M + 20)] f n) (q_Qv E (fun f1 n1 => rO E f M (rp r 20 (r 37)) = f1 ∧ n = n1)) 0 0 (q_ge E) := by
  refine Met.ofW (cc := cX13_copy) (maxL := 2) (ret := none) (by decide) rfl ?_
  intro p e s m args below meth c s₁ B hml hv
  obtain ⟨rfl, hA, hW⟩ := hv
  have hx := B.exec
  have hb := B.bytes
  have hr := B.returns
  have hts := atoms_spec (ws := wsX13_copy) B.pre
  have hown : s.vm.findClass RX13 = some m.cls := findClass_of_methodNamed B.named
  have hlocks := B.notSynchronized
  have hS : va_S (q_ge E) s.heap s.heap [] := va_S.rf
  have hl := lv_entry ([.ref (M + 37), .ref (M + 20)]) (n := 2) (Nat.le_of_ble_eq_true rfl)
  rw [lg_entry_eq]
  generalize (lg_sl ([.ref (M + 37), .ref (M + 20)]) ++ List.replicate (2 - (lg_sl ([.ref (M + 37), .ref (M + 20)])).length) Slot.unset).toArray = ls at hl ⊢
  have hl : lv_has ls 2 [(0, .ref (M + 37)), (1, .ref (M + 20))] := hl
  have hmE := hm.eq
  rw [hm.eq] at hW
  refine lv_aload_n hx hb dX13_copy_0 rfl (lv_at hl 0 rfl) ?_
  refine lv_iconst (v := 0) hx hb dX13_copy_1 (by decide) ?_
  refine lv_aload_n hx hb dX13_copy_2 rfl (lv_at hl 1 rfl) ?_
  refine lv_iconst (v := 0) hx hb dX13_copy_3 (by decide) ?_
  refine lv_aload_n hx hb dX13_copy_4 rfl (lv_at hl 1 rfl) ?_
  refine q_alen hx hb hA hW 0 rfl (rO_20 rfl) (v := 400) rfl dX13_copy_5 ?_
  refine q_cpy hx hb (hml.trans hl.1.symm) hown (hts (.methodLink RX13 76 arraycopyName) (by decide +kernel)) (hts (.native arraycopyName) (by decide +kernel)) (hts (.static arraycopyName) (by decide +kernel)) (hts (.initialized "java/lang/System") (by decide +kernel)) hA hW hS (rO_37 rfl) (rO_20 rfl) rfl (by decide) (Nat.le_of_ble_eq_true rfl) (by decide +kernel) dX13_copy_6 (fun H locs hW hS => ?_)
  have hW := q_sa 20 hW rfl rfl
  exact q_vret hx hb hr hlocks hW hS ⟨rfl, rfl⟩ (Nat.le_of_ble_eq_true rfl) (Nat.le_of_ble_eq_true rfl) dX13_copy_9

set_option maxHeartbeats 4000000 in
set_option maxRecDepth 100000 in
theorem kX13_copy_13 (l : Launch) (E : q_E) (f : q_H) (n : Nat) (M : Nat) (r : q_R)  (hm : RM E f M r) : Met l yX13_copy wsX13_copy ({ frames := 1, cells := 0, slots := 0, locals := 60 }) (q_P E [.ref (M + 38), .ref (M + 21)] f n) (q_Qv E (fun f1 n1 => rO E f M (rp r 21 (r 38)) = f1 ∧ n = n1)) 0 0 (q_ge E) := by
  refine Met.ofW (cc := cX13_copy) (maxL := 2) (ret := none) (by decide) rfl ?_
  intro p e s m args below meth c s₁ B hml hv
  obtain ⟨rfl, hA, hW⟩ := hv
  have hx := B.exec
  have hb := B.bytes
  have hr := B.returns
  have hts := atoms_spec (ws := wsX13_copy) B.pre
  have hown : s.vm.findClass RX13 = some m.cls := findClass_of_methodNamed B.named
  have hlocks := B.notSynchronized
  have hS : va_S (q_ge E) s.heap s.heap [] := va_S.rf
  have hl := lv_entry ([.ref (M + 38), .ref (M + 21)]) (n := 2) (Nat.le_of_ble_eq_true rfl)
  rw [lg_entry_eq]
  generalize (lg_sl ([.ref (M + 38), .ref (M + 21)]) ++ List.replicate (2 - (lg_sl ([.ref (M + 38), .ref (M + 21)])).length) Slot.unset).toArray = ls at hl ⊢
  have hl : lv_has ls 2 [(0, .ref (M + 38)), (1, .ref (M + 21))] := hl
  have hmE := hm.eq
  rw [hm.eq] at hW
  refine lv_aload_n hx hb dX13_copy_0 rfl (lv_at hl 0 rfl) ?_
  refine lv_iconst (v := 0) hx hb dX13_copy_1 (by decide) ?_
  refine lv_aload_n hx hb dX13_copy_2 rfl (lv_at hl 1 rfl) ?_
  refine lv_iconst (v := 0) hx hb dX13_copy_3 (by decide) ?_
  refine lv_aload_n hx hb dX13_copy_4 rfl (lv_at hl 1 rfl) ?_
  refine q_alen hx hb hA hW 0 rfl (rO_21 rfl) (v := 400) rfl dX13_copy_5 ?_
  refine q_cpy hx hb (hml.trans hl.1.symm) hown (hts (.methodLink RX13 76 arraycopyName) (by decide +kernel)) (hts (.native arraycopyName) (by decide +kernel)) (hts (.static arraycopyName) (by decide +kernel)) (hts (.initialized "java/lang/System") (by decide +kernel)) hA hW hS (rO_38 rfl) (rO_21 rfl) rfl (by decide) (Nat.le_of_ble_eq_true rfl) (by decide +kernel) dX13_copy_6 (fun H locs hW hS => ?_)
  have hW := q_sa 21 hW rfl rfl
  exact q_vret hx hb hr hlocks hW hS ⟨rfl, rfl⟩ (Nat.le_of_ble_eq_true rfl) (Nat.le_of_ble_eq_true rfl) dX13_copy_9

set_option maxHeartbeats 4000000 in
set_option maxRecDepth 100000 in
theorem kX13_copy_14 (l : Launch) (E : q_E) (f : q_H) (n : Nat) (M : Nat) (r : q_R)  (hm : RM E f M r) : Met l yX13_copy wsX13_copy ({ frames := 1, cells := 0, slots := 0, locals := 60 }) (q_P E [.ref (M + 39), .ref (M + 22)] f n) (q_Qv E (fun f1 n1 => rO E f M (rp r 22 (r 39)) = f1 ∧ n = n1)) 0 0 (q_ge E) := by
  refine Met.ofW (cc := cX13_copy) (maxL := 2) (ret := none) (by decide) rfl ?_
  intro p e s m args below meth c s₁ B hml hv
  obtain ⟨rfl, hA, hW⟩ := hv
  have hx := B.exec
  have hb := B.bytes
  have hr := B.returns
  have hts := atoms_spec (ws := wsX13_copy) B.pre
  have hown : s.vm.findClass RX13 = some m.cls := findClass_of_methodNamed B.named
  have hlocks := B.notSynchronized
  have hS : va_S (q_ge E) s.heap s.heap [] := va_S.rf
  have hl := lv_entry ([.ref (M + 39), .ref (M + 22)]) (n := 2) (Nat.le_of_ble_eq_true rfl)
  rw [lg_entry_eq]
  generalize (lg_sl ([.ref (M + 39), .ref (M + 22)]) ++ List.replicate (2 - (lg_sl ([.ref (M + 39), .ref (M + 22)])).length) Slot.unset).toArray = ls at hl ⊢
  have hl : lv_has ls 2 [(0, .ref (M + 39)), (1, .ref (M + 22))] := hl
  have hmE := hm.eq
  rw [hm.eq] at hW
  refine lv_aload_n hx hb dX13_copy_0 rfl (lv_at hl 0 rfl) ?_
  refine lv_iconst (v := 0) hx hb dX13_copy_1 (by decide) ?_
  refine lv_aload_n hx hb dX13_copy_2 rfl (lv_at hl 1 rfl) ?_
  refine lv_iconst (v := 0) hx hb dX13_copy_3 (by decide) ?_
  refine lv_aload_n hx hb dX13_copy_4 rfl (lv_at hl 1 rfl) ?_
  refine q_alen hx hb hA hW 0 rfl (rO_22 rfl) (v := 400) rfl dX13_copy_5 ?_
  refine q_cpy hx hb (hml.trans hl.1.symm) hown (hts (.methodLink RX13 76 arraycopyName) (by decide +kernel)) (hts (.native arraycopyName) (by decide +kernel)) (hts (.static arraycopyName) (by decide +kernel)) (hts (.initialized "java/lang/System") (by decide +kernel)) hA hW hS (rO_39 rfl) (rO_22 rfl) rfl (by decide) (Nat.le_of_ble_eq_true rfl) (by decide +kernel) dX13_copy_6 (fun H locs hW hS => ?_)
  have hW := q_sa 22 hW rfl rfl
  exact q_vret hx hb hr hlocks hW hS ⟨rfl, rfl⟩ (Nat.le_of_ble_eq_true rfl) (Nat.le_of_ble_eq_true rfl) dX13_copy_9

set_option maxHeartbeats 4000000 in
set_option maxRecDepth 100000 in
theorem kX13_copy_15 (l : Launch) (E : q_E) (f : q_H) (n : Nat) (M : Nat) (r : q_R)  (hm : RM E f M r) : Met l yX13_copy wsX13_copy ({ frames := 1, cells := 0, slots := 0, locals := 60 }) (q_P E [.ref (M + 40), .ref (M + 23)] f n) (q_Qv E (fun f1 n1 => rO E f M (rp r 23 (r 40)) = f1 ∧ n = n1)) 0 0 (q_ge E) := by
  refine Met.ofW (cc := cX13_copy) (maxL := 2) (ret := none) (by decide) rfl ?_
  intro p e s m args below meth c s₁ B hml hv
  obtain ⟨rfl, hA, hW⟩ := hv
  have hx := B.exec
  have hb := B.bytes
  have hr := B.returns
  have hts := atoms_spec (ws := wsX13_copy) B.pre
  have hown : s.vm.findClass RX13 = some m.cls := findClass_of_methodNamed B.named
  have hlocks := B.notSynchronized
  have hS : va_S (q_ge E) s.heap s.heap [] := va_S.rf
  have hl := lv_entry ([.ref (M + 40), .ref (M + 23)]) (n := 2) (Nat.le_of_ble_eq_true rfl)
  rw [lg_entry_eq]
  generalize (lg_sl ([.ref (M + 40), .ref (M + 23)]) ++ List.replicate (2 - (lg_sl ([.ref (M + 40), .ref (M + 23)])).length) Slot.unset).toArray = ls at hl ⊢
  have hl : lv_has ls 2 [(0, .ref (M + 40)), (1, .ref (M + 23))] := hl
  have hmE := hm.eq
  rw [hm.eq] at hW
  refine lv_aload_n hx hb dX13_copy_0 rfl (lv_at hl 0 rfl) ?_
  refine lv_iconst (v := 0) hx hb dX13_copy_1 (by decide) ?_
  refine lv_aload_n hx hb dX13_copy_2 rfl (lv_at hl 1 rfl) ?_
  refine lv_iconst (v := 0) hx hb dX13_copy_3 (by decide) ?_
  refine lv_aload_n hx hb dX13_copy_4 rfl (lv_at hl 1 rfl) ?_
  refine q_alen hx hb hA hW 0 rfl (rO_23 rfl) (v := 400) rfl dX13_copy_5 ?_
  refine q_cpy hx hb (hml.trans hl.1.symm) hown (hts (.methodLink RX13 76 arraycopyName) (by decide +kernel)) (hts (.native arraycopyName) (by decide +kernel)) (hts (.static arraycopyName) (by decide +kernel)) (hts (.initialized "java/lang/System") (by decide +kernel)) hA hW hS (rO_40 rfl) (rO_23 rfl) rfl (by decide) (Nat.le_of_ble_eq_true rfl) (by decide +kernel) dX13_copy_6 (fun H locs hW hS => ?_)
  have hW := q_sa 23 hW rfl rfl
  exact q_vret hx hb hr hlocks hW hS ⟨rfl, rfl⟩ (Nat.le_of_ble_eq_true rfl) (Nat.le_of_ble_eq_true rfl) dX13_copy_9

set_option maxHeartbeats 4000000 in
set_option maxRecDepth 100000 in
theorem kX13_copy_16 (l : Launch) (E : q_E) (f : q_H) (n : Nat) (M : Nat) (r : q_R)  (hm : RM E f M r) : Met l yX13_copy wsX13_copy ({ frames := 1, cells := 0, slots := 0, locals := 60 }) (q_P E [.ref (M + 41), .ref (M + 24)] f n) (q_Qv E (fun f1 n1 => rO E f M (rp r 24 (r 41)) = f1 ∧ n = n1)) 0 0 (q_ge E) := by
  refine Met.ofW (cc := cX13_copy) (maxL := 2) (ret := none) (by decide) rfl ?_
  intro p e s m args below meth c s₁ B hml hv
  obtain ⟨rfl, hA, hW⟩ := hv
  have hx := B.exec
  have hb := B.bytes
  have hr := B.returns
  have hts := atoms_spec (ws := wsX13_copy) B.pre
  have hown : s.vm.findClass RX13 = some m.cls := findClass_of_methodNamed B.named
  have hlocks := B.notSynchronized
  have hS : va_S (q_ge E) s.heap s.heap [] := va_S.rf
  have hl := lv_entry ([.ref (M + 41), .ref (M + 24)]) (n := 2) (Nat.le_of_ble_eq_true rfl)
  rw [lg_entry_eq]
  generalize (lg_sl ([.ref (M + 41), .ref (M + 24)]) ++ List.replicate (2 - (lg_sl ([.ref (M + 41), .ref (M + 24)])).length) Slot.unset).toArray = ls at hl ⊢
  have hl : lv_has ls 2 [(0, .ref (M + 41)), (1, .ref (M + 24))] := hl
  have hmE := hm.eq
  rw [hm.eq] at hW
  refine lv_aload_n hx hb dX13_copy_0 rfl (lv_at hl 0 rfl) ?_
  refine lv_iconst (v := 0) hx hb dX13_copy_1 (by decide) ?_
  refine lv_aload_n hx hb dX13_copy_2 rfl (lv_at hl 1 rfl) ?_
  refine lv_iconst (v := 0) hx hb dX13_copy_3 (by decide) ?_
  refine lv_aload_n hx hb dX13_copy_4 rfl (lv_at hl 1 rfl) ?_
  refine q_alen hx hb hA hW 0 rfl (rO_24 rfl) (v := 400) rfl dX13_copy_5 ?_
  refine q_cpy hx hb (hml.trans hl.1.symm) hown (hts (.methodLink RX13 76 arraycopyName) (by decide +kernel)) (hts (.native arraycopyName) (by decide +kernel)) (hts (.static arraycopyName) (by decide +kernel)) (hts (.initialized "java/lang/System") (by decide +kernel)) hA hW hS (rO_41 rfl) (rO_24 rfl) rfl (by decide) (Nat.le_of_ble_eq_true rfl) (by decide +kernel) dX13_copy_6 (fun H locs hW hS => ?_)
  have hW := q_sa 24 hW rfl rfl
  exact q_vret hx hb hr hlocks hW hS ⟨rfl, rfl⟩ (Nat.le_of_ble_eq_true rfl) (Nat.le_of_ble_eq_true rfl) dX13_copy_9
