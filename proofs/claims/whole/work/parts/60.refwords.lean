/-! words and keywords -/
abbrev w_is (t : Nat → Int32) (p len i : Nat) : Prop := q_len.getD i 0 = len ∧ ∀ k, k < len → (q_byt.getD i []).getD k 0 = t (p + k)
def kwF (t : Nat → Int32) (p len : Nat) : Nat → Nat → Int32
  | 0, _ => if 8 < len then 70 else 40
  | m + 1, i => if w_is t p len i then nI i else kwF t p len m (i + 1)

set_option maxHeartbeats 4000000 in
set_option maxRecDepth 100000 in
theorem kX14_isWord (l : Launch) (E : q_E) (f : q_H) (n : Nat) (M : Nat) (r : q_R) (i ps len : Nat)  (hm : RM E f M r) (hi : i < 27) (hpl : ps + len ≤ 1600) : Met l yX14_isWord wsX14_isWord ({ frames := 4, cells := 0, slots := 0, locals := 85 }) (q_P E [.ref M, .int (nI ps), .int (nI len), .ref (E.2.2.2 (200 + i))] f n) (q_Qi E (fun r0 f1 n1 => b01 (decide (w_is (r 1) ps len i)) = r0 ∧ f = f1 ∧ n = n1)) 0 0 (q_ge E) := by
  refine Met.ofW (cc := cX14_isWord) (maxL := 5) (ret := (some .boolean)) (by decide) rfl ?_
  intro p e s m args below meth c s₁ B hml hv
  obtain ⟨rfl, hA, hW⟩ := hv
  have hx := B.exec
  have hb := B.bytes
  have hr := B.returns
  have hts := atoms_spec (ws := wsX14_isWord) B.pre
  have hown : s.vm.findClass RX14 = some m.cls := findClass_of_methodNamed B.named
  have hlocks := B.notSynchronized
  have hS : va_S (q_ge E) s.heap s.heap [] := va_S.rf
  have iX14 : ∀ w ∈ wsX140, w ∈ wsX14_isWord := by decide +kernel
  have hl := lv_entry ([.ref M, .int (nI ps), .int (nI len), .ref (E.2.2.2 (200 + i))]) (n := 5) (Nat.le_of_ble_eq_true rfl)
  rw [lg_entry_eq]
  generalize (lg_sl ([.ref M, .int (nI ps), .int (nI len), .ref (E.2.2.2 (200 + i))]) ++ List.replicate (5 - (lg_sl ([.ref M, .int (nI ps), .int (nI len), .ref (E.2.2.2 (200 + i))])).length) Slot.unset).toArray = ls at hl ⊢
  have hl : lv_has ls 5 [(0, .ref M), (1, .int (nI ps)), (2, .int (nI len)), (3, .ref (E.2.2.2 (200 + i)))] := hl
  have hmE := hm.eq
  rw [hm.eq] at hW
  have h8 := len_lt i hi
  refine lv_aload_n hx hb dX14_isWord_0 rfl (lv_at hl 3 rfl) ?_
  refine q_ci (va_runV (As := []) (rest := []) ⟨hx, hb, hml, hown, hts⟩ (kJ0_length_8abf5 l E (rO E f M r) n i hi) (cwV 0 hts gX14_isWord_J0_length_8abf5 rfl rfl rfl (by decide +kernel) ⟨(Nat.le_of_ble_eq_true rfl), (Nat.le_of_ble_eq_true rfl)⟩) (q_pStr hA hW hS hi) rfl rfl hl.1 rfl (lv_room (Nat.le_of_ble_eq_true rfl)) dX14_isWord_1 ⟨Nat.le_of_ble_eq_true rfl, Nat.le_of_ble_eq_true rfl⟩) hS (fun r_1 f_1 n_1 H locs hp hW hS => ?_)
  obtain ⟨rfl, rfl, rfl⟩ := hp
  have hW : q_W E (rO E f M r) n H := hW
  refine lv_iload_n hx hb dX14_isWord_4 rfl (lv_at hl 2 rfl) ?_
  refine lv_icmp_eq (tgt := 10) hx hb dX14_isWord_5 (by decide) (fun c_5 => ?_) (fun c_5 => ?_)
  · have el : q_len.getD i 0 = len := (nI_eq (by omega) (by omega)).1 c_5
    refine lv_iconst (v := 0) hx hb dX14_isWord_10 (by decide) ?_
    refine lv_istore (lv' := [(4, .int 0), (0, .ref M), (1, .int (nI ps)), (2, .int (nI len)), (3, .ref (E.2.2.2 (200 + i)))]) hx hb dX14_isWord_11 hl (by decide) rfl (fun ls hl => ?_)
    have K13 : ∀ (fu : Nat) (k : Nat) (hk : k ≤ len) (hbe : ∀ q, q < k → (q_byt.getD i []).getD q 0 = r 1 (ps + q)) (hm : len - k < fu) (H : Heap) (locs : List Loc) (ls : Array Slot), q_W E (rO E f M r) n H → va_S (q_ge E) s.heap H locs → lv_has ls 5 [(0, .ref M), (1, .int (nI ps)), (2, .int (nI len)), (3, .ref (E.2.2.2 (200 + i))), (4, .int (nI k))] → W p l e (headSpec wsX14_isWord ({ frames := 4, cells := 0, slots := 0, locals := 85 })).room s m ([.ref M, .int (nI ps), .int (nI len), .ref (E.2.2.2 (200 + i))] : List Value).toArray below meth c H locs 0 0 (MQ below (q_Qi E (fun r0 f1 n1 => b01 (decide (w_is (r 1) ps len i)) = r0 ∧ f = f1 ∧ n = n1)) ([.ref M, .int (nI ps), .int (nI len), .ref (E.2.2.2 (200 + i))] : List Value).toArray s 0 0 (q_ge E)) (F0 m 13 ls []) := by
      intro fu
      induction fu with
      | zero =>
        intro k hk hbe hm
        exact absurd hm (Nat.not_lt_zero _)
      | succ fu ih =>
        intro k hk hbe hm H locs ls hW hS hl
        refine lv_iload hx hb dX14_isWord_13 (lv_at hl 4 rfl) ?_
        refine lv_iload_n hx hb dX14_isWord_15 rfl (lv_at hl 2 rfl) ?_
        refine lv_icmp_ge (tgt := 45) hx hb dX14_isWord_16 (by decide) (fun c_16 => ?_) (fun c_16 => ?_)
        · have ek : k = len := by rcases Nat.lt_or_ge k len with h9 | h9; exact absurd c_16 (nI_ge h9 (by omega)); omega
          refine lv_iconst (v := 1) hx hb dX14_isWord_45 (by decide) ?_
          exact q_zret hx hb hr hlocks hW hS rfl ⟨by rw [decide_eq_true (show w_is (r 1) ps len i from ⟨el, fun q hq => hbe q (by omega)⟩)]; rfl, hmE, rfl⟩ (Nat.le_of_ble_eq_true rfl) (Nat.le_of_ble_eq_true rfl) dX14_isWord_46
        · have hlt : k < len := by rcases Nat.lt_or_ge k len with h9 | h9; exact h9; exact absurd (nI_le h9 (by omega)) c_16
          refine lv_aload_n hx hb dX14_isWord_19 rfl (lv_at hl 3 rfl) ?_
          refine lv_iload hx hb dX14_isWord_20 (lv_at hl 4 rfl) ?_
          refine q_ci (va_runV (As := [.int (nI k)]) (rest := []) ⟨hx, hb, hml, hown, hts⟩ (kJ0_charAt_5068e l E (rO E f M r) n i k hi (by omega)) (cwV 1 hts gX14_isWord_J0_charAt_5068e rfl rfl rfl (by decide +kernel) ⟨(Nat.le_of_ble_eq_true rfl), (Nat.le_of_ble_eq_true rfl)⟩) (q_pStr hA hW hS hi) rfl rfl hl.1 rfl (lv_room (Nat.le_of_ble_eq_true rfl)) dX14_isWord_22 ⟨Nat.le_of_ble_eq_true rfl, Nat.le_of_ble_eq_true rfl⟩) hS (fun r_22 f_22 n_22 H locs hp hW hS => ?_)
          obtain ⟨rfl, rfl, rfl⟩ := hp
          have hW : q_W E (rO E f M r) n H := hW
          refine lv_aload_n hx hb dX14_isWord_25 rfl (lv_at hl 0 rfl) ?_
          refine q_get hx hb hts hown hA hW iX14 rO_0 rfl 1 (by decide) (hts (.fieldLink RX14 9 "HighRecipesModel" "tape" "[I") (by decide +kernel)) (fun _ h9 => h9) (v := .ref (M + 1)) rfl dX14_isWord_26 ?_
          refine lv_iload_n hx hb dX14_isWord_29 rfl (lv_at hl 1 rfl) ?_
          refine lv_iload hx hb dX14_isWord_30 (lv_at hl 4 rfl) ?_
          refine lv_iadd hx hb dX14_isWord_32 ?_
          rw [nI_add]
          refine q_ald hx hb hA hW (rO_1 (g := r 1) rfl) (ps + k) rfl (by omega) (by decide) (x := r 1 (ps + k)) rfl dX14_isWord_33 ?_
          refine lv_icmp_eq (tgt := 39) hx hb dX14_isWord_34 (by decide) (fun c_34 => ?_) (fun c_34 => ?_)
          · refine lv_iinc (v := nI (k + 1)) (lv' := [(4, .int (nI (k + 1))), (0, .ref M), (1, .int (nI ps)), (2, .int (nI len)), (3, .ref (E.2.2.2 (200 + i)))]) hx hb dX14_isWord_39 hl (k := 4) rfl (nI_1 k) (by decide) rfl (fun ls hl => ?_)
            refine lv_goto (tgt := 13) hx hb dX14_isWord_42 (by decide) ?_
            exact ih (k + 1) hlt (fun q hq => by rcases Nat.lt_or_ge q k with h9 | h9; exact hbe q h9; rw [show q = k by omega]; exact c_34) (by omega) _ _ _ hW hS (lv_sub hl [1, 2, 3, 4, 0] rfl)
          · refine lv_iconst (v := 0) hx hb dX14_isWord_37 (by decide) ?_
            exact q_zret hx hb hr hlocks hW hS rfl ⟨by rw [decide_eq_false (fun h9 => c_34 (h9.2 k hlt))]; rfl, hmE, rfl⟩ (Nat.le_of_ble_eq_true rfl) (Nat.le_of_ble_eq_true rfl) dX14_isWord_38
    exact K13 _ 0 (Nat.zero_le _) (fun q hq => absurd hq (Nat.not_lt_zero _)) (Nat.lt_succ_self _) _ _ _ hW hS (lv_sub hl [1, 2, 3, 4, 0] rfl)
  · have el : ¬ q_len.getD i 0 = len := fun h9 => c_5 (by rw [h9])
    refine lv_iconst (v := 0) hx hb dX14_isWord_8 (by decide) ?_
    exact q_zret hx hb hr hlocks hW hS rfl ⟨by rw [decide_eq_false (fun h9 => el h9.1)]; rfl, hmE, rfl⟩ (Nat.le_of_ble_eq_true rfl) (Nat.le_of_ble_eq_true rfl) dX14_isWord_9

set_option maxHeartbeats 4000000 in
set_option maxRecDepth 100000 in
theorem kX14_keyword (l : Launch) (E : q_E) (f : q_H) (n : Nat) (M : Nat) (r : q_R) (ps len : Nat)  (hm : RM E f M r) (hpl : ps + len ≤ 1600) : Met l yX14_keyword wsX14_keyword ({ frames := 5, cells := 0, slots := 0, locals := 109 }) (q_P E [.ref M, .int (nI ps), .int (nI len)] f n) (q_Qi E (fun r0 f1 n1 => kwF (r 1) ps len 27 0 = r0 ∧ f = f1 ∧ n = n1)) 0 0 (q_ge E) := by
  refine Met.ofW (cc := cX14_keyword) (maxL := 4) (ret := (some .int)) (by decide) rfl ?_
  intro p e s m args below meth c s₁ B hml hv
  obtain ⟨rfl, hA, hW⟩ := hv
  have hx := B.exec
  have hb := B.bytes
  have hr := B.returns
  have hts := atoms_spec (ws := wsX14_keyword) B.pre
  have hown : s.vm.findClass RX14 = some m.cls := findClass_of_methodNamed B.named
  have hlocks := B.notSynchronized
  have hS : va_S (q_ge E) s.heap s.heap [] := va_S.rf
  have hl := lv_entry ([.ref M, .int (nI ps), .int (nI len)]) (n := 4) (Nat.le_of_ble_eq_true rfl)
  rw [lg_entry_eq]
  generalize (lg_sl ([.ref M, .int (nI ps), .int (nI len)]) ++ List.replicate (4 - (lg_sl ([.ref M, .int (nI ps), .int (nI len)])).length) Slot.unset).toArray = ls at hl ⊢
  have hl : lv_has ls 4 [(0, .ref M), (1, .int (nI ps)), (2, .int (nI len))] := hl
  have hmE := hm.eq
  rw [hm.eq] at hW
  refine lv_iconst (v := 0) hx hb dX14_keyword_0 (by decide) ?_
  refine lv_istore_n (lv' := [(3, .int 0), (0, .ref M), (1, .int (nI ps)), (2, .int (nI len))]) hx hb dX14_keyword_1 rfl hl (by decide) rfl (fun ls hl => ?_)
  have K2 : ∀ (fu : Nat) (i : Nat) (hi : i ≤ 27) (hinv : kwF (r 1) ps len 27 0 = kwF (r 1) ps len (27 - i) i) (hm : 27 - i < fu) (H : Heap) (locs : List Loc) (ls : Array Slot), q_W E (rO E f M r) n H → va_S (q_ge E) s.heap H locs → lv_has ls 4 [(0, .ref M), (1, .int (nI ps)), (2, .int (nI len)), (3, .int (nI i))] → W p l e (headSpec wsX14_keyword ({ frames := 5, cells := 0, slots := 0, locals := 109 })).room s m ([.ref M, .int (nI ps), .int (nI len)] : List Value).toArray below meth c H locs 0 0 (MQ below (q_Qi E (fun r0 f1 n1 => kwF (r 1) ps len 27 0 = r0 ∧ f = f1 ∧ n = n1)) ([.ref M, .int (nI ps), .int (nI len)] : List Value).toArray s 0 0 (q_ge E)) (F0 m 2 ls []) := by
    intro fu
    induction fu with
    | zero =>
      intro i hi hinv hm
      exact absurd hm (Nat.not_lt_zero _)
    | succ fu ih =>
      intro i hi hinv hm H locs ls hW hS hl
      refine lv_iload_n hx hb dX14_keyword_2 rfl (lv_at hl 3 rfl) ?_
      refine va_gets hx hb hA.2.2.1.2.2.2.2.1.1 hS hown (hts (.fieldLink RX14 85 "HighRecipesModel" "WORDS" "[Ljava/lang/String;") (by decide +kernel)) (fun _ h9 => h9) dX14_keyword_3 ?_
      refine va_tlen hx hb hA.2.2.1.2.2.2.2.1.2 hS (v := nI 27) rfl dX14_keyword_6 ?_
      refine lv_icmp_ge (tgt := 32) hx hb dX14_keyword_7 (by decide) (fun c_7 => ?_) (fun c_7 => ?_)
      · have ei : i = 27 := by rcases Nat.lt_or_ge i 27 with h9 | h9; exact absurd c_7 (nI_ge h9 (by decide)); omega
        refine lv_iload_n hx hb dX14_keyword_32 rfl (lv_at hl 2 rfl) ?_
        refine lv_bipush (v := 8) hx hb dX14_keyword_33 (by decide) ?_
        refine lv_icmp_le (tgt := 43) hx hb dX14_keyword_35 (by decide) (fun c_35 => ?_) (fun c_35 => ?_)
        · have e8 : ¬ 8 < len := fun h9 => absurd ((nI_leI (by omega) (by decide)).1 (show nI len ≤ nI 8 from c_35)) (by omega)
          refine lv_bipush (v := 40) hx hb dX14_keyword_43 (by decide) ?_
          exact q_iret hx hb hr hlocks hW hS ⟨(by rw [hinv, ei]; exact if_neg e8), hmE, rfl⟩ (Nat.le_of_ble_eq_true rfl) (Nat.le_of_ble_eq_true rfl) dX14_keyword_45
        · have e8 : 8 < len := by rcases Nat.lt_or_ge 8 len with h9 | h9; exact h9; exact absurd ((nI_leI (by omega) (by decide)).2 h9) c_35
          refine lv_bipush (v := 70) hx hb dX14_keyword_38 (by decide) ?_
          refine lv_goto (tgt := 45) hx hb dX14_keyword_40 (by decide) ?_
          exact q_iret hx hb hr hlocks hW hS ⟨(by rw [hinv, ei]; exact if_pos e8), hmE, rfl⟩ (Nat.le_of_ble_eq_true rfl) (Nat.le_of_ble_eq_true rfl) dX14_keyword_45
      · have hlt : i < 27 := by rcases Nat.lt_or_ge i 27 with h9 | h9; exact h9; exact absurd (nI_le h9 (by omega)) c_7
        refine lv_aload_n hx hb dX14_keyword_10 rfl (lv_at hl 0 rfl) ?_
        refine lv_iload_n hx hb dX14_keyword_11 rfl (lv_at hl 1 rfl) ?_
        refine lv_iload_n hx hb dX14_keyword_12 rfl (lv_at hl 2 rfl) ?_
        refine va_gets hx hb hA.2.2.1.2.2.2.2.1.1 hS hown (hts (.fieldLink RX14 85 "HighRecipesModel" "WORDS" "[Ljava/lang/String;") (by decide +kernel)) (fun _ h9 => h9) dX14_keyword_13 ?_
        refine lv_iload_n hx hb dX14_keyword_16 rfl (lv_at hl 3 rfl) ?_
        refine vb_tq hx hb hA.2.2.1.2.2.2.2.1.2 hS (vp_in_nI hlt (by decide)) (v := .ref (E.2.2.2 (200 + i))) (by rw [nI_clamp (by omega)]) dX14_keyword_17 ?_
        refine q_ci (va_runV (As := [.int (nI ps), .int (nI len), .ref (E.2.2.2 (200 + i))]) (rest := []) ⟨hx, hb, hml, hown, hts⟩ (kX14_isWord l E (rO E f M r) n M r i ps len rO_K hlt hpl) (cwV 3 hts gX14_keyword_X14_isWord rfl rfl rfl (by decide +kernel) ⟨(Nat.le_of_ble_eq_true rfl), (Nat.le_of_ble_eq_true rfl)⟩) (q_pV hA hW hS (ci := 12) rfl rO_0) rfl rfl hl.1 rfl (lv_room (Nat.le_of_ble_eq_true rfl)) dX14_keyword_18 ⟨Nat.le_of_ble_eq_true rfl, Nat.le_of_ble_eq_true rfl⟩) hS (fun r_18 f_18 n_18 H locs hp hW hS => ?_)
        obtain ⟨rfl, rfl, rfl⟩ := hp
        have hW : q_W E (rO E f M r) n H := hW
        refine lv_if_eq (tgt := 26) hx hb dX14_keyword_21 (by decide) (fun c_21 => ?_) (fun c_21 => ?_)
        · have hw9 : ¬ w_is (r 1) ps len i := of_decide_eq_false (b01_0 c_21)
          refine lv_iinc (v := nI (i + 1)) (lv' := [(3, .int (nI (i + 1))), (0, .ref M), (1, .int (nI ps)), (2, .int (nI len))]) hx hb dX14_keyword_26 hl (k := 3) rfl (nI_1 i) (by decide) rfl (fun ls hl => ?_)
          refine lv_goto (tgt := 2) hx hb dX14_keyword_29 (by decide) ?_
          exact ih (i + 1) hlt (hinv.trans (by rw [show 27 - i = (27 - (i + 1)) + 1 by omega]; exact if_neg hw9)) (by omega) _ _ _ hW hS (lv_sub hl [1, 2, 3, 0] rfl)
        · have hw9 : w_is (r 1) ps len i := of_decide_eq_true (b01_1 c_21)
          refine lv_iload_n hx hb dX14_keyword_24 rfl (lv_at hl 3 rfl) ?_
          exact q_iret hx hb hr hlocks hW hS ⟨(by rw [hinv, show 27 - i = (27 - (i + 1)) + 1 by omega]; exact if_pos hw9), hmE, rfl⟩ (Nat.le_of_ble_eq_true rfl) (Nat.le_of_ble_eq_true rfl) dX14_keyword_25
  exact K2 _ 0 (Nat.zero_le _) rfl (Nat.lt_succ_self _) _ _ _ hW hS (lv_sub hl [1, 2, 3, 0] rfl)
