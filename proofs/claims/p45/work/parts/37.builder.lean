/-! StringBuilder and String, over texts of bytes -/
abbrev cSB (b : Nat) (c : Int32) : va_E := .inr (1, [.ref b, .int 0, .int 0, .int c])
abbrev rSB (b : Option Nat) (k m c : Int32) : va_E := .inr (1, [va_rf b, .int k, .int m, .int c])
abbrev cStr (b : Nat) : va_E := .inr (0, [.ref b, .int 0, .int 0, .int 0])
abbrev rStr (b : Option Nat) (k : Int32) : va_E := .inr (0, [va_rf b, .int k, .int 0, .int 0])
abbrev cDice (s : Int32) : va_E := .inr (14, [.int s])
abbrev cNode (so k : Int32) (x y : Option Nat) : va_E := .inr (16, [.int so, .int k, va_rf x, va_rf y])
abbrev cLA (do_ wh : Int32) (va sg on ot bl el : Option Nat) : va_E := .inr (13, [.int do_, .int wh, va_rf va, va_rf sg, va_rf on, va_rf ot, va_rf bl, va_rf el])
abbrev cLK (al se sp mi : Int32) (pa re ki wa no : Option Nat) (nn be fi : Int32) : va_E := .inr (15, [.int al, .int se, .int sp, .int mi, va_rf pa, va_rf re, va_rf ki, va_rf wa, va_rf no, .int nn, .int be, .int fi])
def scap (q m : Nat) : Nat := if q ≤ m then m else if q - m < m + 2 then 2 * m + 2 else q
theorem scap_in {q m : Nat} (h : q ≤ m) : scap q m = m := if_pos h
theorem scap_ge (q m : Nat) : q ≤ scap q m := by unfold scap; split <;> (try split) <;> omega
theorem scap_le {q m C : Nat} (h1 : q ≤ C) (h2 : m ≤ 2 * C) : scap q m ≤ 2 * C := by unfold scap; split <;> (try split) <;> omega
theorem scap_gt {q m : Nat} (h : m < q) : m < scap q m := by unfold scap; split <;> (try split) <;> omega
theorem scap_nl {q m : Nat} (h : m < q) : m + (if q - m < m + 2 then m + 2 else q - m) = scap q m := by
  unfold scap
  by_cases h1 : q - m < m + 2
  · rw [if_pos h1]
    (repeat' split) <;> omega
  · rw [if_neg h1]
    (repeat' split) <;> omega
theorem isub_le {q m : Nat} (hq : q < 2 ^ 30) (hm : m < 2 ^ 30) (h : nI q - nI m ≤ 0) : q ≤ m := by
  have e := pk_sub_toInt hq hm
  rw [Int32.le_iff_toInt_le, e, Int32.toInt_zero] at h
  omega
theorem isub_gt {q m : Nat} (hq : q < 2 ^ 30) (hm : m < 2 ^ 30) (h : ¬ nI q - nI m ≤ 0) : m < q := by
  have e := pk_sub_toInt hq hm
  rw [Int32.le_iff_toInt_le, e, Int32.toInt_zero] at h
  omega
theorem nI_ne {a b : Nat} (ha : a < 2 ^ 31) (hb : b < 2 ^ 31) (h : a ≠ b) : ¬ nI a = nI b := fun e => h ((nI_eq ha hb).mp e)
theorem nl_max {a b : Nat} (ha : a < 2 ^ 31) (hb : b < 2 ^ 31) : q_max (nI a) (nI b) = nI (if a < b then b else a) := by
  unfold q_max
  by_cases h : a < b
  · rw [if_pos h, if_pos (nI_lt h hb)]
  · rw [if_neg h, if_neg (nI_nlt (by omega) ha)]
theorem cat_len {W V : List Int32} : nI W.length + nI V.length = nI (W ++ V).length := by rw [nI_add, List.length_append]
/-- the digits of a number below a thousand -/
def dg (k : Nat) : List Int32 := if k < 10 then [nI (48 + k % 10)] else if k < 100 then [nI (48 + k / 10), nI (48 + k % 10)] else [nI (48 + k / 100 % 10), nI (48 + k % 100 / 10), nI (48 + k % 100 % 10)]
theorem dg_1 {k : Nat} (h : k < 10) : dg k = [nI (48 + k % 10)] := if_pos h
theorem dg_2 {k : Nat} (h : k < 100) (h1 : ¬ k < 10) : dg k = [nI (48 + k / 10), nI (48 + k % 10)] := (if_neg h1).trans (if_pos h)
theorem dg_3 {k : Nat} (h1 : ¬ k < 100) : dg k = [nI (48 + k / 100 % 10), nI (48 + k % 100 / 10), nI (48 + k % 100 % 10)] := (if_neg (by omega)).trans (if_neg h1)
theorem dg_len (k : Nat) : (dg k).length ≤ 3 := by
  unfold dg
  split
  · exact Nat.le_add_left 1 2
  · split
    · exact Nat.le_add_left 2 1
    · exact Nat.le_refl 3
theorem dg_ok (k : Nat) (hk : k < 1000) : okb (dg k) := by
  intro c hc
  unfold dg at hc
  split at hc
  · rcases List.mem_singleton.mp hc with rfl
    exact ⟨_, rfl, by omega⟩
  · split at hc
    · rcases List.mem_cons.mp hc with rfl | hc
      · exact ⟨_, rfl, by omega⟩
      · rcases List.mem_singleton.mp hc with rfl
        exact ⟨_, rfl, by omega⟩
    · rcases List.mem_cons.mp hc with rfl | hc
      · exact ⟨_, rfl, by omega⟩
      · rcases List.mem_cons.mp hc with rfl | hc
        · exact ⟨_, rfl, by omega⟩
        · rcases List.mem_singleton.mp hc with rfl
          exact ⟨_, rfl, by omega⟩
theorem gc_lt : ∀ k, k < 100 → (-100 : Int32) < -nI k := by decide +kernel
theorem gc_ge : ∀ k, k < 1000 → ¬ k < 100 → ¬ (-100 : Int32) < -nI k := by decide +kernel
theorem gc_q : ∀ k, k < 1000 → -nI k / 100 = -nI (k / 100) := by decide +kernel
theorem gc_r : ∀ k, k < 1000 → -nI (k / 100) * 100 - -nI k = nI (k % 100) := by decide +kernel
theorem gc_n : ∀ k, k < 100 → - -nI k = nI k := by decide +kernel
theorem gc_9 : ∀ k, k < 10 → (-9 : Int32) ≤ -nI k := by decide +kernel
theorem gc_n9 : ∀ k, k < 100 → ¬ k < 10 → ¬ (-9 : Int32) ≤ -nI k := by decide +kernel
theorem gs_10 : ∀ k, k < 10 → (-10 : Int32) < -nI k := by decide +kernel
theorem gs_n10 : ∀ k, k < 1000 → ¬ k < 10 → -nI k ≤ (-10 : Int32) := by decide +kernel
theorem gs_n100 : ∀ k, k < 1000 → ¬ k < 100 → -nI k ≤ (-100 : Int32) := by decide +kernel
theorem gs_1000 : ∀ k, k < 1000 → (-1000 : Int32) < -nI k := by decide +kernel
theorem d8 : ∀ k, k < 100 → (nI (48 + k % 10)).toInt8.toInt32 = nI (48 + k % 10) := by decide +kernel
theorem d80 : ∀ k, k < 100 → (nI (48 + k / 10)).toInt8.toInt32 = nI (48 + k / 10) := by decide +kernel
theorem put2 {W : List Int32} {x y : Int32} : upd (upd (tx W) (W.length + 1) y) W.length x = tx (W ++ [x, y]) := by
  have e : upd (upd (tx W) (W.length + 1) y) W.length x = upd (upd (tx W) W.length x) (W.length + 1) y := by
    funext j
    unfold upd
    by_cases h : j = W.length
    · rw [if_pos h, if_neg (by omega), if_pos h]
    · rw [if_neg h, if_neg h]
  rw [e, tx_put, show W.length + 1 = (W ++ [x]).length by rw [List.length_append]; rfl, tx_put, List.append_assoc]
  rfl
theorem put3 {W : List Int32} {x y z : Int32} : upd (upd (upd (tx W) (W.length + 2) z) (W.length + 1) y) W.length x = tx (W ++ [x, y, z]) := by
  have e : upd (upd (upd (tx W) (W.length + 2) z) (W.length + 1) y) W.length x = upd (upd (upd (tx W) (W.length + 1) y) W.length x) (W.length + 2) z := by
    funext j
    unfold upd
    by_cases h : j = W.length
    · rw [if_pos h, if_neg (by omega), if_pos h]
    · rw [if_neg h, if_neg h]
      by_cases h1 : j = W.length + 1
      · rw [if_pos h1, if_neg (by omega), if_pos h1]
      · rw [if_neg h1, if_neg h1]
  rw [e, put2, show W.length + 2 = (W ++ [x, y]).length by rw [List.length_append]; rfl, tx_put, List.append_assoc]
  rfl
theorem len_lt : ∀ i, i < 50 → q_len.getD i 0 ≤ 40 := by decide +kernel
def kt (i : Nat) : List Int32 := q_byt.getD i []
theorem kt_len : ∀ i, i < 50 → (kt i).length = q_len.getD i 0 := by decide +kernel
theorem kt_okb0 : ∀ i, i < 50 → (kt i).all (fun c => decide (0 ≤ c ∧ c < 128)) = true := by decide +kernel
theorem okb_all {W : List Int32} (h : W.all (fun c => decide (0 ≤ c ∧ c < 128)) = true) : okb W := by
  intro c hc
  have h1 := of_decide_eq_true (List.all_eq_true.mp h c hc)
  obtain ⟨j, hj, rfl⟩ := nI_of (Int32.not_lt.mpr h1.1)
  refine ⟨j, rfl, ?_⟩
  rcases Nat.lt_or_ge j 128 with h2 | h2
  · exact h2
  · exact absurd h1.2 (nI_nlt (a := j) (b := 128) h2 hj)
theorem kt_okb {i : Nat} (h : i < 50) : okb (kt i) := okb_all (kt_okb0 i h)
theorem kt_tx {i j : Nat} : (q_byt.getD i []).getD j 0 = tx (kt i) j := rfl

set_option maxHeartbeats 4000000 in
set_option maxRecDepth 100000 in
theorem kJ5_isLatin1_aae02 (l : Launch) (E : q_E) (f : q_H) (n : Nat) (sb b : Nat) (c : Int32) (h0 : f sb = some (cSB b c)) : Met l yJ5_isLatin1_aae02 wsJ5_isLatin1_aae02 ({ frames := 0, cells := 0, slots := 0, locals := 0 }) (q_P E [.ref sb] f n) (q_Qi E (fun r f1 n1 => 1 = r ∧ f = f1 ∧ n = n1)) 0 0 (q_ge E) := by
  refine Met.ofW (cc := cJ5_isLatin1_aae02) (maxL := 1) (ret := (some .boolean)) (by decide) rfl ?_
  intro p0_ e0_ s0_ m0_ args0_ below0_ meth0_ c0_ s1_ B hml hv
  obtain ⟨rfl, hA, hW⟩ := hv
  have hx := B.exec
  have hb := B.bytes
  have hr := B.returns
  have hts := atoms_spec (ws := wsJ5_isLatin1_aae02) B.pre
  have hown : s0_.vm.findClass RJ5 = some m0_.cls := findClass_of_methodNamed B.named
  have hlocks := B.notSynchronized
  have hS : va_S (q_ge E) s0_.heap s0_.heap [] := va_S.rf
  have iJ4 : ∀ w ∈ wsJ40, w ∈ wsJ5_isLatin1_aae02 := by decide +kernel
  have hl := lv_entry ([.ref sb]) (n := 1) (Nat.le_of_ble_eq_true rfl)
  rw [lg_entry_eq]
  generalize (lg_sl ([.ref sb]) ++ List.replicate (1 - (lg_sl ([.ref sb])).length) Slot.unset).toArray = ls at hl ⊢
  have hl : lv_has ls 1 [(0, .ref sb)] := hl
  have l_h0 := hW.lt h0
  refine va_gets (n := "COMPACT_STRINGS") (v := .int 1) hx hb hA.2.2.1.2.2.2.2.2.2.2.1 hS hown (hts (.fieldLink RJ5 18 "java/lang/String" "COMPACT_STRINGS" "Z") (by decide +kernel)) (fun _ h9 => h9) dJ5_isLatin1_aae02_0 ?_
  refine lv_if_eq (tgt := 17) hx hb dJ5_isLatin1_aae02_3 (by decide) (fun c_3 => False.elim ((fun h9 => absurd h9 (by decide)) c_3)) (fun c_3 => ?_)
  refine lv_aload_n hx hb dJ5_isLatin1_aae02_6 rfl (lv_at hl 0 rfl) ?_
  refine q_get hx hb hts hown hA hW iJ4 h0 rfl 1 (by decide) (hts (.fieldLink RJ5 22 "java/lang/AbstractStringBuilder" "coder" "B") (by decide +kernel)) (fun _ h9 => h9) (v := .int 0) rfl dJ5_isLatin1_aae02_7 ?_
  refine lv_if_ne (tgt := 17) hx hb dJ5_isLatin1_aae02_10 (by decide) (fun c_10 => False.elim ((fun h9 => h9 rfl) c_10)) (fun c_10 => ?_)
  refine lv_iconst (v := 1) hx hb dJ5_isLatin1_aae02_13 (by decide) ?_
  refine lv_goto (tgt := 18) hx hb dJ5_isLatin1_aae02_14 (by decide) ?_
  exact q_zret hx hb hr hlocks hW hS rfl ⟨rfl, rfl, rfl⟩ (Nat.le_of_ble_eq_true rfl) (Nat.le_of_ble_eq_true rfl) dJ5_isLatin1_aae02_18

set_option maxHeartbeats 4000000 in
set_option maxRecDepth 100000 in
theorem kJ5_length_8abf5 (l : Launch) (E : q_E) (f : q_H) (n : Nat) (sb b : Nat) (c : Int32) (h0 : f sb = some (cSB b c)) : Met l yJ5_length_8abf5 wsJ5_length_8abf5 ({ frames := 0, cells := 0, slots := 0, locals := 0 }) (q_P E [.ref sb] f n) (q_Qi E (fun r f1 n1 => c = r ∧ f = f1 ∧ n = n1)) 0 0 (q_ge E) := by
  refine Met.ofW (cc := cJ5_length_8abf5) (maxL := 1) (ret := (some .int)) (by decide) rfl ?_
  intro p0_ e0_ s0_ m0_ args0_ below0_ meth0_ c0_ s1_ B hml hv
  obtain ⟨rfl, hA, hW⟩ := hv
  have hx := B.exec
  have hb := B.bytes
  have hr := B.returns
  have hts := atoms_spec (ws := wsJ5_length_8abf5) B.pre
  have hown : s0_.vm.findClass RJ5 = some m0_.cls := findClass_of_methodNamed B.named
  have hlocks := B.notSynchronized
  have hS : va_S (q_ge E) s0_.heap s0_.heap [] := va_S.rf
  have iJ4 : ∀ w ∈ wsJ40, w ∈ wsJ5_length_8abf5 := by decide +kernel
  have hl := lv_entry ([.ref sb]) (n := 1) (Nat.le_of_ble_eq_true rfl)
  rw [lg_entry_eq]
  generalize (lg_sl ([.ref sb]) ++ List.replicate (1 - (lg_sl ([.ref sb])).length) Slot.unset).toArray = ls at hl ⊢
  have hl : lv_has ls 1 [(0, .ref sb)] := hl
  have l_h0 := hW.lt h0
  refine lv_aload_n hx hb dJ5_length_8abf5_0 rfl (lv_at hl 0 rfl) ?_
  refine q_get hx hb hts hown hA hW iJ4 h0 rfl 3 (by decide) (hts (.fieldLink RJ5 79 "java/lang/AbstractStringBuilder" "count" "I") (by decide +kernel)) (fun _ h9 => h9) (v := .int c) rfl dJ5_length_8abf5_1 ?_
  exact q_iret hx hb hr hlocks hW hS ⟨rfl, rfl, rfl⟩ (Nat.le_of_ble_eq_true rfl) (Nat.le_of_ble_eq_true rfl) dJ5_length_8abf5_4

set_option maxHeartbeats 4000000 in
set_option maxRecDepth 100000 in
theorem kJ4_length_8abf5 (l : Launch) (E : q_E) (f : q_H) (n : Nat) (sb b : Nat) (c : Int32) (h0 : f sb = some (cSB b c)) : Met l yJ4_length_8abf5 wsJ4_length_8abf5 ({ frames := 1, cells := 0, slots := 0, locals := 20 }) (q_P E [.ref sb] f n) (q_Qi E (fun r f1 n1 => c = r ∧ f = f1 ∧ n = n1)) 0 0 (q_ge E) := by
  refine Met.ofW (cc := cJ4_length_8abf5) (maxL := 1) (ret := (some .int)) (by decide) rfl ?_
  intro p0_ e0_ s0_ m0_ args0_ below0_ meth0_ c0_ s1_ B hml hv
  obtain ⟨rfl, hA, hW⟩ := hv
  have hx := B.exec
  have hb := B.bytes
  have hr := B.returns
  have hts := atoms_spec (ws := wsJ4_length_8abf5) B.pre
  have hown : s0_.vm.findClass RJ4 = some m0_.cls := findClass_of_methodNamed B.named
  have hlocks := B.notSynchronized
  have hS : va_S (q_ge E) s0_.heap s0_.heap [] := va_S.rf
  have hl := lv_entry ([.ref sb]) (n := 1) (Nat.le_of_ble_eq_true rfl)
  rw [lg_entry_eq]
  generalize (lg_sl ([.ref sb]) ++ List.replicate (1 - (lg_sl ([.ref sb])).length) Slot.unset).toArray = ls at hl ⊢
  have hl : lv_has ls 1 [(0, .ref sb)] := hl
  have l_h0 := hW.lt h0
  refine lv_aload_n hx hb dJ4_length_8abf5_0 rfl (lv_at hl 0 rfl) ?_
  refine q_ci (va_runSU (hA.1.1 1 _ rfl).2 (As := []) (rest := []) ⟨hx, hb, hml, hown, hts⟩ (kJ5_length_8abf5 l E f n sb b c h0) (va_cwSU 0 hts gJ4_length_8abf5_J5_length_8abf5_s343 rfl rfl rfl (by decide +kernel) ⟨(Nat.le_of_ble_eq_true rfl), (Nat.le_of_ble_eq_true rfl)⟩) (q_pV hA hW hS (ci := 1) rfl h0) rfl rfl hl.1 rfl (lv_room (Nat.le_of_ble_eq_true rfl)) dJ4_length_8abf5_1 ⟨(Nat.le_of_ble_eq_true rfl), (Nat.le_of_ble_eq_true rfl)⟩) hS (fun r_1 f_1 n_1 H locs hp hW hS => ?_)
  obtain ⟨rfl, rfl, rfl⟩ := hp
  have hW : q_W E (f) n H := hW
  exact q_iret hx hb hr hlocks hW hS ⟨rfl, rfl, rfl⟩ (Nat.le_of_ble_eq_true rfl) (Nat.le_of_ble_eq_true rfl) dJ4_length_8abf5_4

set_option maxHeartbeats 4000000 in
set_option maxRecDepth 100000 in
theorem kJ5_getValue_6d5f1 (l : Launch) (E : q_E) (f : q_H) (n : Nat) (sb b : Nat) (c : Int32) (h0 : f sb = some (cSB b c)) : Met l yJ5_getValue_6d5f1 wsJ5_getValue_6d5f1 ({ frames := 0, cells := 0, slots := 0, locals := 0 }) (q_P E [.ref sb] f n) (q_Qq E (fun r f1 n1 => some b = r ∧ f = f1 ∧ n = n1)) 0 0 (q_ge E) := by
  refine Met.ofW (cc := cJ5_getValue_6d5f1) (maxL := 1) (ret := (some (.array .byte))) (by decide) rfl ?_
  intro p0_ e0_ s0_ m0_ args0_ below0_ meth0_ c0_ s1_ B hml hv
  obtain ⟨rfl, hA, hW⟩ := hv
  have hx := B.exec
  have hb := B.bytes
  have hr := B.returns
  have hts := atoms_spec (ws := wsJ5_getValue_6d5f1) B.pre
  have hown : s0_.vm.findClass RJ5 = some m0_.cls := findClass_of_methodNamed B.named
  have hlocks := B.notSynchronized
  have hS : va_S (q_ge E) s0_.heap s0_.heap [] := va_S.rf
  have iJ4 : ∀ w ∈ wsJ40, w ∈ wsJ5_getValue_6d5f1 := by decide +kernel
  have hl := lv_entry ([.ref sb]) (n := 1) (Nat.le_of_ble_eq_true rfl)
  rw [lg_entry_eq]
  generalize (lg_sl ([.ref sb]) ++ List.replicate (1 - (lg_sl ([.ref sb])).length) Slot.unset).toArray = ls at hl ⊢
  have hl : lv_has ls 1 [(0, .ref sb)] := hl
  have l_h0 := hW.lt h0
  refine lv_aload_n hx hb dJ5_getValue_6d5f1_0 rfl (lv_at hl 0 rfl) ?_
  refine q_get hx hb hts hown hA hW iJ4 h0 rfl 0 (by decide) (hts (.fieldLink RJ5 15 "java/lang/AbstractStringBuilder" "value" "[B") (by decide +kernel)) (fun _ h9 => h9) (v := .ref b) rfl dJ5_getValue_6d5f1_1 ?_
  exact q_aret (v := some b) hx hb hr (Or.inr ⟨_, rfl⟩) hlocks hW hS ⟨rfl, rfl, rfl⟩ (Nat.le_of_ble_eq_true rfl) (Nat.le_of_ble_eq_true rfl) dJ5_getValue_6d5f1_4

set_option maxHeartbeats 4000000 in
set_option maxRecDepth 100000 in
theorem kJ1_canEncode_fc78d (l : Launch) (E : q_E) (f : q_H) (n : Nat) (k : Nat)  (hk : k < 128) : Met l yJ1_canEncode_fc78d wsJ1_canEncode_fc78d ({ frames := 0, cells := 0, slots := 0, locals := 0 }) (q_P E [.int (nI k)] f n) (q_Qi E (fun r f1 n1 => 1 = r ∧ f = f1 ∧ n = n1)) 0 0 (q_ge E) := by
  refine Met.ofW (cc := cJ1_canEncode_fc78d) (maxL := 1) (ret := (some .boolean)) (by decide) rfl ?_
  intro p0_ e0_ s0_ m0_ args0_ below0_ meth0_ c0_ s1_ B hml hv
  obtain ⟨rfl, hA, hW⟩ := hv
  have hx := B.exec
  have hb := B.bytes
  have hr := B.returns
  have hts := atoms_spec (ws := wsJ1_canEncode_fc78d) B.pre
  have hown : s0_.vm.findClass RJ1 = some m0_.cls := findClass_of_methodNamed B.named
  have hlocks := B.notSynchronized
  have hS : va_S (q_ge E) s0_.heap s0_.heap [] := va_S.rf
  have hl := lv_entry ([.int (nI k)]) (n := 1) (Nat.le_of_ble_eq_true rfl)
  rw [lg_entry_eq]
  generalize (lg_sl ([.int (nI k)]) ++ List.replicate (1 - (lg_sl ([.int (nI k)])).length) Slot.unset).toArray = ls at hl ⊢
  have hl : lv_has ls 1 [(0, .int (nI k))] := hl
  refine lv_iload_n hx hb dJ1_canEncode_fc78d_0 rfl (lv_at hl 0 rfl) ?_
  refine lv_sipush (v := 255) hx hb dJ1_canEncode_fc78d_1 (by decide) ?_
  refine lv_icmp_gt (tgt := 11) hx hb dJ1_canEncode_fc78d_4 (by decide) (fun c_4 => absurd c_4 (show ¬ nI 255 < nI k from nI_nlt (by omega) (by decide))) (fun c_4 => ?_)
  refine lv_iconst (v := 1) hx hb dJ1_canEncode_fc78d_7 (by decide) ?_
  refine lv_goto (tgt := 12) hx hb dJ1_canEncode_fc78d_8 (by decide) ?_
  exact q_zret hx hb hr hlocks hW hS rfl ⟨rfl, rfl, rfl⟩ (Nat.le_of_ble_eq_true rfl) (Nat.le_of_ble_eq_true rfl) dJ1_canEncode_fc78d_12

set_option maxHeartbeats 4000000 in
set_option maxRecDepth 100000 in
theorem kJ0_coder_7d493 (l : Launch) (E : q_E) (f : q_H) (n : Nat) (r b : Nat) (h0 : f r = some (cStr b)) : Met l yJ0_coder_7d493 wsJ0_coder_7d493 ({ frames := 0, cells := 0, slots := 0, locals := 0 }) (q_P E [.ref r] f n) (q_Qi E (fun r f1 n1 => 0 = r ∧ f = f1 ∧ n = n1)) 0 0 (q_ge E) := by
  refine Met.ofW (cc := cJ0_coder_7d493) (maxL := 1) (ret := (some .byte)) (by decide) rfl ?_
  intro p0_ e0_ s0_ m0_ args0_ below0_ meth0_ c0_ s1_ B hml hv
  obtain ⟨rfl, hA, hW⟩ := hv
  have hx := B.exec
  have hb := B.bytes
  have hr := B.returns
  have hts := atoms_spec (ws := wsJ0_coder_7d493) B.pre
  have hown : s0_.vm.findClass RJ0 = some m0_.cls := findClass_of_methodNamed B.named
  have hlocks := B.notSynchronized
  have hS : va_S (q_ge E) s0_.heap s0_.heap [] := va_S.rf
  have iJ0 : ∀ w ∈ wsJ00, w ∈ wsJ0_coder_7d493 := by decide +kernel
  have hl := lv_entry ([.ref r]) (n := 1) (Nat.le_of_ble_eq_true rfl)
  rw [lg_entry_eq]
  generalize (lg_sl ([.ref r]) ++ List.replicate (1 - (lg_sl ([.ref r])).length) Slot.unset).toArray = ls at hl ⊢
  have hl : lv_has ls 1 [(0, .ref r)] := hl
  have l_h0 := hW.lt h0
  refine va_gets (n := "COMPACT_STRINGS") (v := .int 1) hx hb hA.2.2.1.2.2.2.2.2.2.2.1 hS hown (hts (.fieldLink RJ0 38 "java/lang/String" "COMPACT_STRINGS" "Z") (by decide +kernel)) (fun _ h9 => h9) dJ0_coder_7d493_0 ?_
  refine lv_if_eq (tgt := 13) hx hb dJ0_coder_7d493_3 (by decide) (fun c_3 => False.elim ((fun h9 => absurd h9 (by decide)) c_3)) (fun c_3 => ?_)
  refine lv_aload_n hx hb dJ0_coder_7d493_6 rfl (lv_at hl 0 rfl) ?_
  refine q_get hx hb hts hown hA hW iJ0 h0 rfl 1 (by decide) (hts (.fieldLink RJ0 15 "java/lang/String" "coder" "B") (by decide +kernel)) (fun _ h9 => h9) (v := .int 0) rfl dJ0_coder_7d493_7 ?_
  refine lv_goto (tgt := 14) hx hb dJ0_coder_7d493_10 (by decide) ?_
  exact q_zret hx hb hr hlocks hW hS rfl ⟨rfl, rfl, rfl⟩ (Nat.le_of_ble_eq_true rfl) (Nat.le_of_ble_eq_true rfl) dJ0_coder_7d493_14

set_option maxHeartbeats 4000000 in
set_option maxRecDepth 100000 in
theorem kJ0_isLatin1_aae02 (l : Launch) (E : q_E) (f : q_H) (n : Nat) (r b : Nat) (h0 : f r = some (cStr b)) : Met l yJ0_isLatin1_aae02 wsJ0_isLatin1_aae02 ({ frames := 0, cells := 0, slots := 0, locals := 0 }) (q_P E [.ref r] f n) (q_Qi E (fun r f1 n1 => 1 = r ∧ f = f1 ∧ n = n1)) 0 0 (q_ge E) := by
  refine Met.ofW (cc := cJ0_isLatin1_aae02) (maxL := 1) (ret := (some .boolean)) (by decide) rfl ?_
  intro p0_ e0_ s0_ m0_ args0_ below0_ meth0_ c0_ s1_ B hml hv
  obtain ⟨rfl, hA, hW⟩ := hv
  have hx := B.exec
  have hb := B.bytes
  have hr := B.returns
  have hts := atoms_spec (ws := wsJ0_isLatin1_aae02) B.pre
  have hown : s0_.vm.findClass RJ0 = some m0_.cls := findClass_of_methodNamed B.named
  have hlocks := B.notSynchronized
  have hS : va_S (q_ge E) s0_.heap s0_.heap [] := va_S.rf
  have iJ0 : ∀ w ∈ wsJ00, w ∈ wsJ0_isLatin1_aae02 := by decide +kernel
  have hl := lv_entry ([.ref r]) (n := 1) (Nat.le_of_ble_eq_true rfl)
  rw [lg_entry_eq]
  generalize (lg_sl ([.ref r]) ++ List.replicate (1 - (lg_sl ([.ref r])).length) Slot.unset).toArray = ls at hl ⊢
  have hl : lv_has ls 1 [(0, .ref r)] := hl
  have l_h0 := hW.lt h0
  refine va_gets (n := "COMPACT_STRINGS") (v := .int 1) hx hb hA.2.2.1.2.2.2.2.2.2.2.1 hS hown (hts (.fieldLink RJ0 38 "java/lang/String" "COMPACT_STRINGS" "Z") (by decide +kernel)) (fun _ h9 => h9) dJ0_isLatin1_aae02_0 ?_
  refine lv_if_eq (tgt := 17) hx hb dJ0_isLatin1_aae02_3 (by decide) (fun c_3 => False.elim ((fun h9 => absurd h9 (by decide)) c_3)) (fun c_3 => ?_)
  refine lv_aload_n hx hb dJ0_isLatin1_aae02_6 rfl (lv_at hl 0 rfl) ?_
  refine q_get hx hb hts hown hA hW iJ0 h0 rfl 1 (by decide) (hts (.fieldLink RJ0 15 "java/lang/String" "coder" "B") (by decide +kernel)) (fun _ h9 => h9) (v := .int 0) rfl dJ0_isLatin1_aae02_7 ?_
  refine lv_if_ne (tgt := 17) hx hb dJ0_isLatin1_aae02_10 (by decide) (fun c_10 => False.elim ((fun h9 => h9 rfl) c_10)) (fun c_10 => ?_)
  refine lv_iconst (v := 1) hx hb dJ0_isLatin1_aae02_13 (by decide) ?_
  refine lv_goto (tgt := 18) hx hb dJ0_isLatin1_aae02_14 (by decide) ?_
  exact q_zret hx hb hr hlocks hW hS rfl ⟨rfl, rfl, rfl⟩ (Nat.le_of_ble_eq_true rfl) (Nat.le_of_ble_eq_true rfl) dJ0_isLatin1_aae02_18

set_option maxHeartbeats 4000000 in
set_option maxRecDepth 100000 in
theorem kJ0_length_8abf5 (l : Launch) (E : q_E) (f : q_H) (n : Nat) (r b N : Nat) (g : Nat → Int32) (h0 : f r = some (cStr b)) (h1 : f b = some (aB E N g)) : Met l yJ0_length_8abf5 wsJ0_length_8abf5 ({ frames := 1, cells := 0, slots := 0, locals := 20 }) (q_P E [.ref r] f n) (q_Qi E (fun r f1 n1 => nI N = r ∧ f = f1 ∧ n = n1)) 0 0 (q_ge E) := by
  refine Met.ofW (cc := cJ0_length_8abf5) (maxL := 1) (ret := (some .int)) (by decide) rfl ?_
  intro p0_ e0_ s0_ m0_ args0_ below0_ meth0_ c0_ s1_ B hml hv
  obtain ⟨rfl, hA, hW⟩ := hv
  have hx := B.exec
  have hb := B.bytes
  have hr := B.returns
  have hts := atoms_spec (ws := wsJ0_length_8abf5) B.pre
  have hown : s0_.vm.findClass RJ0 = some m0_.cls := findClass_of_methodNamed B.named
  have hlocks := B.notSynchronized
  have hS : va_S (q_ge E) s0_.heap s0_.heap [] := va_S.rf
  have iJ0 : ∀ w ∈ wsJ00, w ∈ wsJ0_length_8abf5 := by decide +kernel
  have hl := lv_entry ([.ref r]) (n := 1) (Nat.le_of_ble_eq_true rfl)
  rw [lg_entry_eq]
  generalize (lg_sl ([.ref r]) ++ List.replicate (1 - (lg_sl ([.ref r])).length) Slot.unset).toArray = ls at hl ⊢
  have hl : lv_has ls 1 [(0, .ref r)] := hl
  have l_h0 := hW.lt h0
  have l_h1 := hW.lt h1
  refine lv_aload_n hx hb dJ0_length_8abf5_0 rfl (lv_at hl 0 rfl) ?_
  refine q_get hx hb hts hown hA hW iJ0 h0 rfl 0 (by decide) (hts (.fieldLink RJ0 9 "java/lang/String" "value" "[B") (by decide +kernel)) (fun _ h9 => h9) (v := .ref b) rfl dJ0_length_8abf5_1 ?_
  refine q_alen hx hb hA hW 2 rfl h1 (v := nI N) rfl dJ0_length_8abf5_4 ?_
  refine lv_aload_n hx hb dJ0_length_8abf5_5 rfl (lv_at hl 0 rfl) ?_
  refine q_ci (va_runV (As := []) (rest := [.int (nI N)]) ⟨hx, hb, hml, hown, hts⟩ (kJ0_coder_7d493 l E f n r b h0) (cwV 0 hts gJ0_length_8abf5_J0_coder_7d493 rfl rfl rfl (by decide +kernel) ⟨(Nat.le_of_ble_eq_true rfl), (Nat.le_of_ble_eq_true rfl)⟩) (q_pV hA hW hS (ci := 0) rfl h0) rfl rfl hl.1 rfl (lv_room (Nat.le_of_ble_eq_true rfl)) dJ0_length_8abf5_6 ⟨(Nat.le_of_ble_eq_true rfl), (Nat.le_of_ble_eq_true rfl)⟩) hS (fun r_6 f_6 n_6 H locs hp hW hS => ?_)
  obtain ⟨rfl, rfl, rfl⟩ := hp
  have hW : q_W E (f) n H := hW
  refine lv_ishr hx hb dJ0_length_8abf5_9 ?_
  rw [sb_shr0]
  exact q_iret hx hb hr hlocks hW hS ⟨rfl, rfl, rfl⟩ (Nat.le_of_ble_eq_true rfl) (Nat.le_of_ble_eq_true rfl) dJ0_length_8abf5_10

set_option maxHeartbeats 4000000 in
set_option maxRecDepth 100000 in
theorem kJ0_coder_k (l : Launch) (E : q_E) (f : q_H) (n : Nat) (i : Nat)  (hi : i < 50) : Met l yJ0_coder_7d493 wsJ0_coder_7d493 ({ frames := 0, cells := 0, slots := 0, locals := 0 }) (q_P E [.ref (E.2.2.2 (200 + i))] f n) (q_Qi E (fun r f1 n1 => 0 = r ∧ f = f1 ∧ n = n1)) 0 0 (q_ge E) := by
  refine Met.ofW (cc := cJ0_coder_7d493) (maxL := 1) (ret := (some .byte)) (by decide) rfl ?_
  intro p0_ e0_ s0_ m0_ args0_ below0_ meth0_ c0_ s1_ B hml hv
  obtain ⟨rfl, hA, hW⟩ := hv
  have hx := B.exec
  have hb := B.bytes
  have hr := B.returns
  have hts := atoms_spec (ws := wsJ0_coder_7d493) B.pre
  have hown : s0_.vm.findClass RJ0 = some m0_.cls := findClass_of_methodNamed B.named
  have hlocks := B.notSynchronized
  have hS : va_S (q_ge E) s0_.heap s0_.heap [] := va_S.rf
  have hl := lv_entry ([.ref (E.2.2.2 (200 + i))]) (n := 1) (Nat.le_of_ble_eq_true rfl)
  rw [lg_entry_eq]
  generalize (lg_sl ([.ref (E.2.2.2 (200 + i))]) ++ List.replicate (1 - (lg_sl ([.ref (E.2.2.2 (200 + i))])).length) Slot.unset).toArray = ls at hl ⊢
  have hl : lv_has ls 1 [(0, .ref (E.2.2.2 (200 + i)))] := hl
  refine va_gets (n := "COMPACT_STRINGS") (v := .int 1) hx hb hA.2.2.1.2.2.2.2.2.2.2.1 hS hown (hts (.fieldLink RJ0 38 "java/lang/String" "COMPACT_STRINGS" "Z") (by decide +kernel)) (fun _ h9 => h9) dJ0_coder_7d493_0 ?_
  refine lv_if_eq (tgt := 13) hx hb dJ0_coder_7d493_3 (by decide) (fun c_3 => False.elim ((fun h9 => absurd h9 (by decide)) c_3)) (fun c_3 => ?_)
  refine lv_aload_n hx hb dJ0_coder_7d493_6 rfl (lv_at hl 0 rfl) ?_
  refine vk_getf (o := "java/lang/String") (n := "coder") (d := "B") (v := .int 0) hx hb (hA.2.2.1.2.2.2.2.2.1.1 i hi).2.1 hS hown (hts (.fieldLink RJ0 15 "java/lang/String" "coder" "B") (by decide +kernel)) (fun _ h9 => h9) dJ0_coder_7d493_7 ?_
  refine lv_goto (tgt := 14) hx hb dJ0_coder_7d493_10 (by decide) ?_
  exact q_zret hx hb hr hlocks hW hS rfl ⟨rfl, rfl, rfl⟩ (Nat.le_of_ble_eq_true rfl) (Nat.le_of_ble_eq_true rfl) dJ0_coder_7d493_14

set_option maxHeartbeats 4000000 in
set_option maxRecDepth 100000 in
theorem kJ0_length_k (l : Launch) (E : q_E) (f : q_H) (n : Nat) (i : Nat)  (hi : i < 50) : Met l yJ0_length_8abf5 wsJ0_length_8abf5 ({ frames := 1, cells := 0, slots := 0, locals := 20 }) (q_P E [.ref (E.2.2.2 (200 + i))] f n) (q_Qi E (fun r f1 n1 => nI (kt i).length = r ∧ f = f1 ∧ n = n1)) 0 0 (q_ge E) := by
  refine Met.ofW (cc := cJ0_length_8abf5) (maxL := 1) (ret := (some .int)) (by decide) rfl ?_
  intro p0_ e0_ s0_ m0_ args0_ below0_ meth0_ c0_ s1_ B hml hv
  obtain ⟨rfl, hA, hW⟩ := hv
  have hx := B.exec
  have hb := B.bytes
  have hr := B.returns
  have hts := atoms_spec (ws := wsJ0_length_8abf5) B.pre
  have hown : s0_.vm.findClass RJ0 = some m0_.cls := findClass_of_methodNamed B.named
  have hlocks := B.notSynchronized
  have hS : va_S (q_ge E) s0_.heap s0_.heap [] := va_S.rf
  have hl := lv_entry ([.ref (E.2.2.2 (200 + i))]) (n := 1) (Nat.le_of_ble_eq_true rfl)
  rw [lg_entry_eq]
  generalize (lg_sl ([.ref (E.2.2.2 (200 + i))]) ++ List.replicate (1 - (lg_sl ([.ref (E.2.2.2 (200 + i))])).length) Slot.unset).toArray = ls at hl ⊢
  have hl : lv_has ls 1 [(0, .ref (E.2.2.2 (200 + i)))] := hl
  refine lv_aload_n hx hb dJ0_length_8abf5_0 rfl (lv_at hl 0 rfl) ?_
  refine vk_getf (o := "java/lang/String") (n := "value") (d := "[B") (v := .ref (E.2.2.2 (300 + i))) hx hb (hA.2.2.1.2.2.2.2.2.1.1 i hi).2.2.1 hS hown (hts (.fieldLink RJ0 9 "java/lang/String" "value" "[B") (by decide +kernel)) (fun _ h9 => h9) dJ0_length_8abf5_1 ?_
  refine va_tlen hx hb (hA.2.2.1.2.2.2.2.2.1.1 i hi).2.2.2 hS (v := nI (kt i).length) (by rw [kt_len i hi]; rfl) dJ0_length_8abf5_4 ?_
  refine lv_aload_n hx hb dJ0_length_8abf5_5 rfl (lv_at hl 0 rfl) ?_
  refine q_ci (va_runV (As := []) (rest := [.int (nI (kt i).length)]) ⟨hx, hb, hml, hown, hts⟩ (kJ0_coder_k l E f n i hi) (cwV 0 hts gJ0_length_8abf5_J0_coder_7d493 rfl rfl rfl (by decide +kernel) ⟨(Nat.le_of_ble_eq_true rfl), (Nat.le_of_ble_eq_true rfl)⟩) (q_pStr hA hW hS hi) rfl rfl hl.1 rfl (lv_room (Nat.le_of_ble_eq_true rfl)) dJ0_length_8abf5_6 ⟨(Nat.le_of_ble_eq_true rfl), (Nat.le_of_ble_eq_true rfl)⟩) hS (fun r_6 f_6 n_6 H locs hp hW hS => ?_)
  obtain ⟨rfl, rfl, rfl⟩ := hp
  have hW : q_W E (f) n H := hW
  refine lv_ishr hx hb dJ0_length_8abf5_9 ?_
  rw [sb_shr0]
  exact q_iret hx hb hr hlocks hW hS ⟨rfl, rfl, rfl⟩ (Nat.le_of_ble_eq_true rfl) (Nat.le_of_ble_eq_true rfl) dJ0_length_8abf5_10

set_option maxHeartbeats 4000000 in
set_option maxRecDepth 100000 in
theorem kJ3_checkIndex_N (l : Launch) (E : q_E) (f : q_H) (n : Nat) (j N : Nat)  (hj : j < N) (hN : N < 2 ^ 31) : Met l yJ3_checkIndex_8e157 wsJ3_checkIndex_8e157 ({ frames := 0, cells := 0, slots := 0, locals := 0 }) (q_P E [.int (nI j), .int (nI N), .null] f n) (q_Qi E (fun r f1 n1 => nI j = r ∧ f = f1 ∧ n = n1)) 0 0 (q_ge E) := by
  refine Met.ofW (cc := cJ3_checkIndex_8e157) (maxL := 3) (ret := (some .int)) (by decide) rfl ?_
  intro p0_ e0_ s0_ m0_ args0_ below0_ meth0_ c0_ s1_ B hml hv
  obtain ⟨rfl, hA, hW⟩ := hv
  have hx := B.exec
  have hb := B.bytes
  have hr := B.returns
  have hts := atoms_spec (ws := wsJ3_checkIndex_8e157) B.pre
  have hown : s0_.vm.findClass RJ3 = some m0_.cls := findClass_of_methodNamed B.named
  have hlocks := B.notSynchronized
  have hS : va_S (q_ge E) s0_.heap s0_.heap [] := va_S.rf
  have hl := lv_entry ([.int (nI j), .int (nI N), .null]) (n := 3) (Nat.le_of_ble_eq_true rfl)
  rw [lg_entry_eq]
  generalize (lg_sl ([.int (nI j), .int (nI N), .null]) ++ List.replicate (3 - (lg_sl ([.int (nI j), .int (nI N), .null])).length) Slot.unset).toArray = ls at hl ⊢
  have hl : lv_has ls 3 [(0, .int (nI j)), (1, .int (nI N)), (2, .null)] := hl
  refine lv_iload_n hx hb dJ3_checkIndex_8e157_0 rfl (lv_at hl 0 rfl) ?_
  refine lv_if_lt (tgt := 9) hx hb dJ3_checkIndex_8e157_1 (by decide) (fun c_1 => False.elim ((fun h9 => nI_pos (by omega) h9) c_1)) (fun c_1 => ?_)
  refine lv_iload_n hx hb dJ3_checkIndex_8e157_4 rfl (lv_at hl 0 rfl) ?_
  refine lv_iload_n hx hb dJ3_checkIndex_8e157_5 rfl (lv_at hl 1 rfl) ?_
  refine lv_icmp_lt (tgt := 16) hx hb dJ3_checkIndex_8e157_6 (by decide) (fun c_6 => ?_) (fun c_6 => False.elim ((fun h9 => h9 (nI_lt hj hN)) c_6))
  refine lv_iload_n hx hb dJ3_checkIndex_8e157_16 rfl (lv_at hl 0 rfl) ?_
  exact q_iret hx hb hr hlocks hW hS ⟨rfl, rfl, rfl⟩ (Nat.le_of_ble_eq_true rfl) (Nat.le_of_ble_eq_true rfl) dJ3_checkIndex_8e157_17

set_option maxHeartbeats 4000000 in
set_option maxRecDepth 100000 in
theorem kJ3_checkIndex_r (l : Launch) (E : q_E) (f : q_H) (n : Nat) (j N : Nat) (t : Nat)  (hj : j < N) (hN : N < 2 ^ 31) : Met l yJ3_checkIndex_8e157 wsJ3_checkIndex_8e157 ({ frames := 0, cells := 0, slots := 0, locals := 0 }) (q_P E [.int (nI j), .int (nI N), .ref t] f n) (q_Qi E (fun r f1 n1 => nI j = r ∧ f = f1 ∧ n = n1)) 0 0 (q_ge E) := by
  refine Met.ofW (cc := cJ3_checkIndex_8e157) (maxL := 3) (ret := (some .int)) (by decide) rfl ?_
  intro p0_ e0_ s0_ m0_ args0_ below0_ meth0_ c0_ s1_ B hml hv
  obtain ⟨rfl, hA, hW⟩ := hv
  have hx := B.exec
  have hb := B.bytes
  have hr := B.returns
  have hts := atoms_spec (ws := wsJ3_checkIndex_8e157) B.pre
  have hown : s0_.vm.findClass RJ3 = some m0_.cls := findClass_of_methodNamed B.named
  have hlocks := B.notSynchronized
  have hS : va_S (q_ge E) s0_.heap s0_.heap [] := va_S.rf
  have hl := lv_entry ([.int (nI j), .int (nI N), .ref t]) (n := 3) (Nat.le_of_ble_eq_true rfl)
  rw [lg_entry_eq]
  generalize (lg_sl ([.int (nI j), .int (nI N), .ref t]) ++ List.replicate (3 - (lg_sl ([.int (nI j), .int (nI N), .ref t])).length) Slot.unset).toArray = ls at hl ⊢
  have hl : lv_has ls 3 [(0, .int (nI j)), (1, .int (nI N)), (2, .ref t)] := hl
  refine lv_iload_n hx hb dJ3_checkIndex_8e157_0 rfl (lv_at hl 0 rfl) ?_
  refine lv_if_lt (tgt := 9) hx hb dJ3_checkIndex_8e157_1 (by decide) (fun c_1 => False.elim ((fun h9 => nI_pos (by omega) h9) c_1)) (fun c_1 => ?_)
  refine lv_iload_n hx hb dJ3_checkIndex_8e157_4 rfl (lv_at hl 0 rfl) ?_
  refine lv_iload_n hx hb dJ3_checkIndex_8e157_5 rfl (lv_at hl 1 rfl) ?_
  refine lv_icmp_lt (tgt := 16) hx hb dJ3_checkIndex_8e157_6 (by decide) (fun c_6 => ?_) (fun c_6 => False.elim ((fun h9 => h9 (nI_lt hj hN)) c_6))
  refine lv_iload_n hx hb dJ3_checkIndex_8e157_16 rfl (lv_at hl 0 rfl) ?_
  exact q_iret hx hb hr hlocks hW hS ⟨rfl, rfl, rfl⟩ (Nat.le_of_ble_eq_true rfl) (Nat.le_of_ble_eq_true rfl) dJ3_checkIndex_8e157_17

set_option maxHeartbeats 4000000 in
set_option maxRecDepth 100000 in
theorem kJ0_checkIndex_df160 (l : Launch) (E : q_E) (f : q_H) (n : Nat) (j N : Nat)  (hj : j < N) (hN : N < 2 ^ 31) : Met l yJ0_checkIndex_df160 wsJ0_checkIndex_df160 ({ frames := 1, cells := 0, slots := 0, locals := 22 }) (q_P E [.int (nI j), .int (nI N)] f n) (q_Qv E (fun f1 n1 => f = f1 ∧ n = n1)) 0 0 (q_ge E) := by
  refine Met.ofW (cc := cJ0_checkIndex_df160) (maxL := 2) (ret := none) (by decide) rfl ?_
  intro p0_ e0_ s0_ m0_ args0_ below0_ meth0_ c0_ s1_ B hml hv
  obtain ⟨rfl, hA, hW⟩ := hv
  have hx := B.exec
  have hb := B.bytes
  have hr := B.returns
  have hts := atoms_spec (ws := wsJ0_checkIndex_df160) B.pre
  have hown : s0_.vm.findClass RJ0 = some m0_.cls := findClass_of_methodNamed B.named
  have hlocks := B.notSynchronized
  have hS : va_S (q_ge E) s0_.heap s0_.heap [] := va_S.rf
  have hl := lv_entry ([.int (nI j), .int (nI N)]) (n := 2) (Nat.le_of_ble_eq_true rfl)
  rw [lg_entry_eq]
  generalize (lg_sl ([.int (nI j), .int (nI N)]) ++ List.replicate (2 - (lg_sl ([.int (nI j), .int (nI N)])).length) Slot.unset).toArray = ls at hl ⊢
  have hl : lv_has ls 2 [(0, .int (nI j)), (1, .int (nI N))] := hl
  refine lv_iload_n hx hb dJ0_checkIndex_df160_0 rfl (lv_at hl 0 rfl) ?_
  refine lv_iload_n hx hb dJ0_checkIndex_df160_1 rfl (lv_at hl 1 rfl) ?_
  rcases hA.2.2.1.2.2.2.2.2.2.2.2.1 with hz | ⟨t, hz⟩
  · refine va_gets (n := "SIOOBE_FORMATTER") (v := .null) hx hb hz hS hown (hts (.fieldLink RJ0 1053 "jdk/internal/util/Preconditions" "SIOOBE_FORMATTER" "Ljava/util/function/BiFunction;") (by decide +kernel)) (fun _ h9 => h9) dJ0_checkIndex_df160_2 ?_
    refine q_ci (va_runS (As := [.int (nI j), .int (nI N), .null]) (rest := []) ⟨hx, hb, hml, hown, hts⟩ (kJ3_checkIndex_N l E f n j N hj hN) (va_cwS 3 hts gJ0_checkIndex_df160_J3_checkIndex_8e157 rfl rfl rfl (by decide +kernel) ⟨(Nat.le_of_ble_eq_true rfl), (Nat.le_of_ble_eq_true rfl)⟩) (q_pS hA hW hS) rfl rfl hl.1 rfl (lv_room (Nat.le_of_ble_eq_true rfl)) dJ0_checkIndex_df160_5 ⟨(Nat.le_of_ble_eq_true rfl), (Nat.le_of_ble_eq_true rfl)⟩) hS (fun r_5 f_5 n_5 H locs hp hW hS => ?_)
    obtain ⟨rfl, rfl, rfl⟩ := hp
    have hW : q_W E (f) n H := hW
    refine lv_pop hx hb dJ0_checkIndex_df160_8 rfl ?_
    exact q_vret hx hb hr hlocks hW hS ⟨rfl, rfl⟩ (Nat.le_of_ble_eq_true rfl) (Nat.le_of_ble_eq_true rfl) dJ0_checkIndex_df160_9
  · refine va_gets (n := "SIOOBE_FORMATTER") (v := .ref t) hx hb hz hS hown (hts (.fieldLink RJ0 1053 "jdk/internal/util/Preconditions" "SIOOBE_FORMATTER" "Ljava/util/function/BiFunction;") (by decide +kernel)) (fun _ h9 => h9) dJ0_checkIndex_df160_2 ?_
    refine q_ci (va_runS (As := [.int (nI j), .int (nI N), .ref t]) (rest := []) ⟨hx, hb, hml, hown, hts⟩ (kJ3_checkIndex_r l E f n j N t hj hN) (va_cwS 3 hts gJ0_checkIndex_df160_J3_checkIndex_8e157 rfl rfl rfl (by decide +kernel) ⟨(Nat.le_of_ble_eq_true rfl), (Nat.le_of_ble_eq_true rfl)⟩) (q_pS hA hW hS) rfl rfl hl.1 rfl (lv_room (Nat.le_of_ble_eq_true rfl)) dJ0_checkIndex_df160_5 ⟨(Nat.le_of_ble_eq_true rfl), (Nat.le_of_ble_eq_true rfl)⟩) hS (fun r_5 f_5 n_5 H locs hp hW hS => ?_)
    obtain ⟨rfl, rfl, rfl⟩ := hp
    have hW : q_W E (f) n H := hW
    refine lv_pop hx hb dJ0_checkIndex_df160_8 rfl ?_
    exact q_vret hx hb hr hlocks hW hS ⟨rfl, rfl⟩ (Nat.le_of_ble_eq_true rfl) (Nat.le_of_ble_eq_true rfl) dJ0_checkIndex_df160_9

theorem ch_ok : ∀ k, k < 128 → ((nI k &&& 255).toUInt32 % 65536).toInt32 = nI k := by decide +kernel
theorem ch_nar : ∀ k, k < 128 → (nI k).toUInt32.toUInt16.toUInt32.toInt32 = nI k := by decide +kernel
theorem ch_tx {W : List Int32} (h : okb W) (j : Nat) : ((tx W j &&& 255).toUInt32 % 65536).toInt32 = tx W j := by
  obtain ⟨k, e, hk⟩ := okb_tx h j
  rw [e]
  exact ch_ok k hk
theorem ch_txn {W : List Int32} (h : okb W) (j : Nat) : (tx W j).toUInt32.toUInt16.toUInt32.toInt32 = tx W j := by
  obtain ⟨k, e, hk⟩ := okb_tx h j
  rw [e]
  exact ch_nar k hk

set_option maxHeartbeats 4000000 in
set_option maxRecDepth 100000 in
theorem kJ1_charAt_3b067 (l : Launch) (E : q_E) (f : q_H) (n : Nat) (b j : Nat) (V : List Int32) (h1 : f b = some (aB E V.length (tx V))) (hj : j < V.length) (hV : V.length ≤ 2000) (ho : okb V) : Met l yJ1_charAt_3b067 wsJ1_charAt_3b067 ({ frames := 2, cells := 0, slots := 0, locals := 43 }) (q_P E [.ref b, .int (nI j)] f n) (q_Qi E (fun r f1 n1 => tx V j = r ∧ f = f1 ∧ n = n1)) 0 0 (q_ge E) := by
  refine Met.ofW (cc := cJ1_charAt_3b067) (maxL := 2) (ret := (some .char)) (by decide) rfl ?_
  intro p0_ e0_ s0_ m0_ args0_ below0_ meth0_ c0_ s1_ B hml hv
  obtain ⟨rfl, hA, hW⟩ := hv
  have hx := B.exec
  have hb := B.bytes
  have hr := B.returns
  have hts := atoms_spec (ws := wsJ1_charAt_3b067) B.pre
  have hown : s0_.vm.findClass RJ1 = some m0_.cls := findClass_of_methodNamed B.named
  have hlocks := B.notSynchronized
  have hS : va_S (q_ge E) s0_.heap s0_.heap [] := va_S.rf
  have hl := lv_entry ([.ref b, .int (nI j)]) (n := 2) (Nat.le_of_ble_eq_true rfl)
  rw [lg_entry_eq]
  generalize (lg_sl ([.ref b, .int (nI j)]) ++ List.replicate (2 - (lg_sl ([.ref b, .int (nI j)])).length) Slot.unset).toArray = ls at hl ⊢
  have hl : lv_has ls 2 [(0, .ref b), (1, .int (nI j))] := hl
  have l_h1 := hW.lt h1
  refine lv_iload_n hx hb dJ1_charAt_3b067_0 rfl (lv_at hl 1 rfl) ?_
  refine lv_aload_n hx hb dJ1_charAt_3b067_1 rfl (lv_at hl 0 rfl) ?_
  refine q_alen hx hb hA hW 2 rfl h1 (v := nI V.length) rfl dJ1_charAt_3b067_2 ?_
  refine q_cv (va_runS (As := [.int (nI j), .int (nI V.length)]) (rest := []) ⟨hx, hb, hml, hown, hts⟩ (kJ0_checkIndex_df160 l E f n j V.length hj (by omega)) (va_cwS 2 hts gJ1_charAt_3b067_J0_checkIndex_df160 rfl rfl rfl (by decide +kernel) ⟨(Nat.le_of_ble_eq_true rfl), (Nat.le_of_ble_eq_true rfl)⟩) (q_pS hA hW hS) rfl rfl hl.1 rfl (lv_room (Nat.le_of_ble_eq_true rfl)) dJ1_charAt_3b067_3 ⟨(Nat.le_of_ble_eq_true rfl), (Nat.le_of_ble_eq_true rfl)⟩) hS (fun f_3 n_3 H locs hp hW hS => ?_)
  obtain ⟨rfl, rfl⟩ := hp
  have hW : q_W E (f) n H := hW
  refine lv_aload_n hx hb dJ1_charAt_3b067_6 rfl (lv_at hl 0 rfl) ?_
  refine lv_iload_n hx hb dJ1_charAt_3b067_7 rfl (lv_at hl 1 rfl) ?_
  refine q_bald hx hb hA hW h1 (vp_in_nI hj (by omega)) dJ1_charAt_3b067_8 ?_
  rw [nI_clamp (by omega)]
  refine lv_sipush (v := 255) hx hb dJ1_charAt_3b067_9 (by decide) ?_
  refine lv_iand hx hb dJ1_charAt_3b067_12 ?_
  refine lv_i2c (v := tx V j) hx hb dJ1_charAt_3b067_13 (ch_tx ho j) ?_
  exact q_zret hx hb hr hlocks hW hS (congrArg Value.int (ch_txn ho j)) ⟨rfl, rfl, rfl⟩ (Nat.le_of_ble_eq_true rfl) (Nat.le_of_ble_eq_true rfl) dJ1_charAt_3b067_14

set_option maxHeartbeats 4000000 in
set_option maxRecDepth 100000 in
theorem kJ0_charAt_5068e (l : Launch) (E : q_E) (f : q_H) (n : Nat) (r b j : Nat) (V : List Int32) (h0 : f r = some (cStr b)) (h1 : f b = some (aB E V.length (tx V))) (hj : j < V.length) (hV : V.length ≤ 2000) (ho : okb V) : Met l yJ0_charAt_5068e wsJ0_charAt_5068e ({ frames := 3, cells := 0, slots := 0, locals := 64 }) (q_P E [.ref r, .int (nI j)] f n) (q_Qi E (fun r f1 n1 => tx V j = r ∧ f = f1 ∧ n = n1)) 0 0 (q_ge E) := by
  refine Met.ofW (cc := cJ0_charAt_5068e) (maxL := 2) (ret := (some .char)) (by decide) rfl ?_
  intro p0_ e0_ s0_ m0_ args0_ below0_ meth0_ c0_ s1_ B hml hv
  obtain ⟨rfl, hA, hW⟩ := hv
  have hx := B.exec
  have hb := B.bytes
  have hr := B.returns
  have hts := atoms_spec (ws := wsJ0_charAt_5068e) B.pre
  have hown : s0_.vm.findClass RJ0 = some m0_.cls := findClass_of_methodNamed B.named
  have hlocks := B.notSynchronized
  have hS : va_S (q_ge E) s0_.heap s0_.heap [] := va_S.rf
  have iJ0 : ∀ w ∈ wsJ00, w ∈ wsJ0_charAt_5068e := by decide +kernel
  have hl := lv_entry ([.ref r, .int (nI j)]) (n := 2) (Nat.le_of_ble_eq_true rfl)
  rw [lg_entry_eq]
  generalize (lg_sl ([.ref r, .int (nI j)]) ++ List.replicate (2 - (lg_sl ([.ref r, .int (nI j)])).length) Slot.unset).toArray = ls at hl ⊢
  have hl : lv_has ls 2 [(0, .ref r), (1, .int (nI j))] := hl
  have l_h0 := hW.lt h0
  have l_h1 := hW.lt h1
  refine lv_aload_n hx hb dJ0_charAt_5068e_0 rfl (lv_at hl 0 rfl) ?_
  refine q_ci (va_runV (As := []) (rest := []) ⟨hx, hb, hml, hown, hts⟩ (kJ0_isLatin1_aae02 l E f n r b h0) (cwV 0 hts gJ0_charAt_5068e_J0_isLatin1_aae02 rfl rfl rfl (by decide +kernel) ⟨(Nat.le_of_ble_eq_true rfl), (Nat.le_of_ble_eq_true rfl)⟩) (q_pV hA hW hS (ci := 0) rfl h0) rfl rfl hl.1 rfl (lv_room (Nat.le_of_ble_eq_true rfl)) dJ0_charAt_5068e_1 ⟨(Nat.le_of_ble_eq_true rfl), (Nat.le_of_ble_eq_true rfl)⟩) hS (fun r_1 f_1 n_1 H locs hp hW hS => ?_)
  obtain ⟨rfl, rfl, rfl⟩ := hp
  have hW : q_W E (f) n H := hW
  refine lv_if_eq (tgt := 16) hx hb dJ0_charAt_5068e_4 (by decide) (fun c_4 => False.elim ((fun h9 => absurd h9 (by decide)) c_4)) (fun c_4 => ?_)
  refine lv_aload_n hx hb dJ0_charAt_5068e_7 rfl (lv_at hl 0 rfl) ?_
  refine q_get hx hb hts hown hA hW iJ0 h0 rfl 0 (by decide) (hts (.fieldLink RJ0 9 "java/lang/String" "value" "[B") (by decide +kernel)) (fun _ h9 => h9) (v := .ref b) rfl dJ0_charAt_5068e_8 ?_
  refine lv_iload_n hx hb dJ0_charAt_5068e_11 rfl (lv_at hl 1 rfl) ?_
  refine q_ci (va_runS (As := [.ref b, .int (nI j)]) (rest := []) ⟨hx, hb, hml, hown, hts⟩ (kJ1_charAt_3b067 l E f n b j V h1 (by assumption) (by assumption) (by assumption)) (va_cwS 2 hts gJ0_charAt_5068e_J1_charAt_3b067 rfl rfl rfl (by decide +kernel) ⟨(Nat.le_of_ble_eq_true rfl), (Nat.le_of_ble_eq_true rfl)⟩) (q_pS hA hW hS) rfl rfl hl.1 rfl (lv_room (Nat.le_of_ble_eq_true rfl)) dJ0_charAt_5068e_12 ⟨(Nat.le_of_ble_eq_true rfl), (Nat.le_of_ble_eq_true rfl)⟩) hS (fun r_12 f_12 n_12 H locs hp hW hS => ?_)
  obtain ⟨rfl, rfl, rfl⟩ := hp
  have hW : q_W E (f) n H := hW
  exact q_zret hx hb hr hlocks hW hS (congrArg Value.int (ch_txn ho j)) ⟨rfl, rfl, rfl⟩ (Nat.le_of_ble_eq_true rfl) (Nat.le_of_ble_eq_true rfl) dJ0_charAt_5068e_15

set_option maxHeartbeats 4000000 in
set_option maxRecDepth 100000 in
theorem kJ8_newLength_cabcc (l : Launch) (E : q_E) (f : q_H) (n : Nat) (m a z : Nat)  (hm : m ≤ 4000) (ha : a ≤ 4002) (hz : z ≤ 4002) (h0 : 0 < a) : Met l yJ8_newLength_cabcc wsJ8_newLength_cabcc ({ frames := 1, cells := 0, slots := 0, locals := 21 }) (q_P E [.int (nI m), .int (nI a), .int (nI z)] f n) (q_Qi E (fun r f1 n1 => nI (m + (if a < z then z else a)) = r ∧ f = f1 ∧ n = n1)) 0 0 (q_ge E) := by
  refine Met.ofW (cc := cJ8_newLength_cabcc) (maxL := 4) (ret := (some .int)) (by decide) rfl ?_
  intro p0_ e0_ s0_ m0_ args0_ below0_ meth0_ c0_ s1_ B hml hv
  obtain ⟨rfl, hA, hW⟩ := hv
  have hx := B.exec
  have hb := B.bytes
  have hr := B.returns
  have hts := atoms_spec (ws := wsJ8_newLength_cabcc) B.pre
  have hown : s0_.vm.findClass RJ8 = some m0_.cls := findClass_of_methodNamed B.named
  have hlocks := B.notSynchronized
  have hS : va_S (q_ge E) s0_.heap s0_.heap [] := va_S.rf
  have hl := lv_entry ([.int (nI m), .int (nI a), .int (nI z)]) (n := 4) (Nat.le_of_ble_eq_true rfl)
  rw [lg_entry_eq]
  generalize (lg_sl ([.int (nI m), .int (nI a), .int (nI z)]) ++ List.replicate (4 - (lg_sl ([.int (nI m), .int (nI a), .int (nI z)])).length) Slot.unset).toArray = ls at hl ⊢
  have hl : lv_has ls 4 [(0, .int (nI m)), (1, .int (nI a)), (2, .int (nI z))] := hl
  refine lv_iload_n hx hb dJ8_newLength_cabcc_0 rfl (lv_at hl 0 rfl) ?_
  refine lv_iload_n hx hb dJ8_newLength_cabcc_1 rfl (lv_at hl 1 rfl) ?_
  refine lv_iload_n hx hb dJ8_newLength_cabcc_2 rfl (lv_at hl 2 rfl) ?_
  refine va_mmax hx hb (hml.trans hl.1.symm) hown (hts (.methodLink RJ8 194 Lib.Math.max.name) (by decide +kernel)) (hts (.static Lib.Math.max.name) (by decide +kernel)) (hts (.initialized "java/lang/Math") (by decide +kernel)) (hts (.code Lib.Math.max.name Lib.Math.max.code 2 (some .int)) (by decide +kernel)) (Nat.le_of_ble_eq_true rfl) (Nat.le_of_ble_eq_true rfl) (Nat.le_of_ble_eq_true rfl) (Nat.le_of_ble_eq_true rfl) dJ8_newLength_cabcc_3 ?_
  refine w_top (show _ = q_max (nI a) (nI z) from rfl) ?_
  refine lv_iadd hx hb dJ8_newLength_cabcc_6 ?_
  rw [nl_max (by omega) (by omega), nI_add]
  refine lv_istore_n (lv' := [(3, .int (nI (m + (if a < z then z else a)))), (0, .int (nI m)), (1, .int (nI a)), (2, .int (nI z))]) hx hb dJ8_newLength_cabcc_7 rfl hl (by decide) rfl (fun ls hl => ?_)
  refine lv_iconst (v := 0) hx hb dJ8_newLength_cabcc_8 (by decide) ?_
  refine lv_iload_n hx hb dJ8_newLength_cabcc_9 rfl (lv_at hl 0 rfl) ?_
  have h7 : 0 < m + (if a < z then z else a) ∧ m + (if a < z then z else a) < 2 ^ 30 := by split <;> omega
  refine lv_icmp_ge (tgt := 21) hx hb dJ8_newLength_cabcc_10 (by decide) (fun c_10 => absurd c_10 (nI_ge h7.1 (by omega))) (fun c_10 => ?_)
  refine lv_iload_n hx hb dJ8_newLength_cabcc_13 rfl (lv_at hl 0 rfl) ?_
  refine lv_ldc hx hb hown (hts (.constant RJ8 200 (2147483639)) (by decide +kernel)) dJ8_newLength_cabcc_14 ?_
  refine lv_icmp_gt (tgt := 21) hx hb dJ8_newLength_cabcc_16 (by decide) (fun c_16 => absurd c_16 (show ¬ nI 2147483639 < nI (m + (if a < z then z else a)) from nI_nlt (by omega) (by decide))) (fun c_16 => ?_)
  refine lv_iload_n hx hb dJ8_newLength_cabcc_19 rfl (lv_at hl 0 rfl) ?_
  exact q_iret hx hb hr hlocks hW hS ⟨rfl, rfl, rfl⟩ (Nat.le_of_ble_eq_true rfl) (Nat.le_of_ble_eq_true rfl) dJ8_newLength_cabcc_20

set_option maxHeartbeats 4000000 in
set_option maxRecDepth 100000 in
theorem kJ5_newCapacity_0f7a4 (l : Launch) (E : q_E) (f : q_H) (n : Nat) (sb b m q C : Nat) (W : List Int32) (c : Int32) (h0 : f sb = some (cSB b c)) (h1 : f b = some (aB E m (tx W))) (hq : m < q) (hq2 : q ≤ C) (hm : m ≤ 2 * C) (hC : C ≤ 2000) : Met l yJ5_newCapacity_0f7a4 wsJ5_newCapacity_0f7a4 ({ frames := 2, cells := 0, slots := 0, locals := 44 }) (q_P E [.ref sb, .int (nI q)] f n) (q_Qi E (fun r f1 n1 => nI (scap q m) = r ∧ f = f1 ∧ n = n1)) 0 0 (q_ge E) := by
  refine Met.ofW (cc := cJ5_newCapacity_0f7a4) (maxL := 6) (ret := (some .int)) (by decide) rfl ?_
  intro p0_ e0_ s0_ m0_ args0_ below0_ meth0_ c0_ s1_ B hml hv
  obtain ⟨rfl, hA, hW⟩ := hv
  have hx := B.exec
  have hb := B.bytes
  have hr := B.returns
  have hts := atoms_spec (ws := wsJ5_newCapacity_0f7a4) B.pre
  have hown : s0_.vm.findClass RJ5 = some m0_.cls := findClass_of_methodNamed B.named
  have hlocks := B.notSynchronized
  have hS : va_S (q_ge E) s0_.heap s0_.heap [] := va_S.rf
  have iJ4 : ∀ w ∈ wsJ40, w ∈ wsJ5_newCapacity_0f7a4 := by decide +kernel
  have hl := lv_entry ([.ref sb, .int (nI q)]) (n := 6) (Nat.le_of_ble_eq_true rfl)
  rw [lg_entry_eq]
  generalize (lg_sl ([.ref sb, .int (nI q)]) ++ List.replicate (6 - (lg_sl ([.ref sb, .int (nI q)])).length) Slot.unset).toArray = ls at hl ⊢
  have hl : lv_has ls 6 [(0, .ref sb), (1, .int (nI q))] := hl
  have l_h0 := hW.lt h0
  have l_h1 := hW.lt h1
  refine lv_aload_n hx hb dJ5_newCapacity_0f7a4_0 rfl (lv_at hl 0 rfl) ?_
  refine q_get hx hb hts hown hA hW iJ4 h0 rfl 0 (by decide) (hts (.fieldLink RJ5 15 "java/lang/AbstractStringBuilder" "value" "[B") (by decide +kernel)) (fun _ h9 => h9) (v := .ref b) rfl dJ5_newCapacity_0f7a4_1 ?_
  refine q_alen hx hb hA hW 2 rfl h1 (v := nI m) rfl dJ5_newCapacity_0f7a4_4 ?_
  refine lv_istore_n (lv' := [(2, .int (nI m)), (0, .ref sb), (1, .int (nI q))]) hx hb dJ5_newCapacity_0f7a4_5 rfl hl (by decide) rfl (fun ls hl => ?_)
  refine lv_iload_n hx hb dJ5_newCapacity_0f7a4_6 rfl (lv_at hl 2 rfl) ?_
  refine lv_aload_n hx hb dJ5_newCapacity_0f7a4_7 rfl (lv_at hl 1 rfl) ?_
  refine q_get hx hb hts hown hA hW iJ4 h0 rfl 1 (by decide) (hts (.fieldLink RJ5 22 "java/lang/AbstractStringBuilder" "coder" "B") (by decide +kernel)) (fun _ h9 => h9) (v := .int 0) rfl dJ5_newCapacity_0f7a4_8 ?_
  refine lv_ishl hx hb dJ5_newCapacity_0f7a4_11 ?_
  rw [sb_shl0]
  refine lv_istore_n (lv' := [(3, .int (nI q)), (2, .int (nI m)), (0, .ref sb), (1, .int (nI q))]) hx hb dJ5_newCapacity_0f7a4_12 rfl hl (by decide) rfl (fun ls hl => ?_)
  refine lv_iload_n hx hb dJ5_newCapacity_0f7a4_13 rfl (lv_at hl 0 rfl) ?_
  refine lv_iload_n hx hb dJ5_newCapacity_0f7a4_14 rfl (lv_at hl 1 rfl) ?_
  refine lv_isub hx hb dJ5_newCapacity_0f7a4_15 ?_
  rw [show nI q - nI m = nI (q - m) from pk_sub (by omega)]
  refine lv_istore (lv' := [(4, .int (nI (q - m))), (3, .int (nI q)), (2, .int (nI m)), (0, .ref sb), (1, .int (nI q))]) hx hb dJ5_newCapacity_0f7a4_16 hl (by decide) rfl (fun ls hl => ?_)
  refine lv_iload_n hx hb dJ5_newCapacity_0f7a4_18 rfl (lv_at hl 2 rfl) ?_
  refine lv_iload hx hb dJ5_newCapacity_0f7a4_19 (lv_at hl 0 rfl) ?_
  refine lv_iload_n hx hb dJ5_newCapacity_0f7a4_21 rfl (lv_at hl 2 rfl) ?_
  refine lv_iconst (v := 2) hx hb dJ5_newCapacity_0f7a4_22 (by decide) ?_
  refine lv_aload_n hx hb dJ5_newCapacity_0f7a4_23 rfl (lv_at hl 3 rfl) ?_
  refine q_get hx hb hts hown hA hW iJ4 h0 rfl 1 (by decide) (hts (.fieldLink RJ5 22 "java/lang/AbstractStringBuilder" "coder" "B") (by decide +kernel)) (fun _ h9 => h9) (v := .int 0) rfl dJ5_newCapacity_0f7a4_24 ?_
  refine lv_ishl hx hb dJ5_newCapacity_0f7a4_27 ?_
  rw [sb_shl0]
  refine lv_iadd hx hb dJ5_newCapacity_0f7a4_28 ?_
  rw [show nI m + 2 = nI (m + 2) from nI_add m 2]
  refine q_ci (va_runS (As := [.int (nI m), .int (nI (q - m)), .int (nI (m + 2))]) (rest := []) ⟨hx, hb, hml, hown, hts⟩ (kJ8_newLength_cabcc l E f n m (q - m) (m + 2) (by omega) (by omega) (by omega) (by omega)) (va_cwS 3 hts gJ5_newCapacity_0f7a4_J8_newLength_cabcc rfl rfl rfl (by decide +kernel) ⟨(Nat.le_of_ble_eq_true rfl), (Nat.le_of_ble_eq_true rfl)⟩) (q_pS hA hW hS) rfl rfl hl.1 rfl (lv_room (Nat.le_of_ble_eq_true rfl)) dJ5_newCapacity_0f7a4_29 ⟨(Nat.le_of_ble_eq_true rfl), (Nat.le_of_ble_eq_true rfl)⟩) hS (fun r_29 f_29 n_29 H locs hp hW hS => ?_)
  obtain ⟨rfl, rfl, rfl⟩ := hp
  have hW : q_W E (f) n H := hW
  rw [scap_nl hq]
  refine lv_istore (lv' := [(5, .int (nI (scap q m))), (4, .int (nI (q - m))), (3, .int (nI q)), (2, .int (nI m)), (0, .ref sb), (1, .int (nI q))]) hx hb dJ5_newCapacity_0f7a4_32 hl (by decide) rfl (fun ls hl => ?_)
  refine lv_iload hx hb dJ5_newCapacity_0f7a4_34 (lv_at hl 0 rfl) ?_
  refine lv_ldc hx hb hown (hts (.constant RJ5 39 (2147483647)) (by decide +kernel)) dJ5_newCapacity_0f7a4_36 ?_
  have h7 := scap_le hq2 hm
  refine lv_icmp_ne (tgt := 51) hx hb dJ5_newCapacity_0f7a4_38 (by decide) (fun c_38 => ?_) (fun c_38 => False.elim ((fun h9 => nI_ne (b := 2147483647) (by omega) (by decide) (by omega) h9) c_38))
  refine lv_iload hx hb dJ5_newCapacity_0f7a4_51 (lv_at hl 0 rfl) ?_
  refine lv_aload_n hx hb dJ5_newCapacity_0f7a4_53 rfl (lv_at hl 4 rfl) ?_
  refine q_get hx hb hts hown hA hW iJ4 h0 rfl 1 (by decide) (hts (.fieldLink RJ5 22 "java/lang/AbstractStringBuilder" "coder" "B") (by decide +kernel)) (fun _ h9 => h9) (v := .int 0) rfl dJ5_newCapacity_0f7a4_54 ?_
  refine lv_ishr hx hb dJ5_newCapacity_0f7a4_57 ?_
  rw [sb_shr0]
  exact q_iret hx hb hr hlocks hW hS ⟨rfl, rfl, rfl⟩ (Nat.le_of_ble_eq_true rfl) (Nat.le_of_ble_eq_true rfl) dJ5_newCapacity_0f7a4_58

set_option maxHeartbeats 4000000 in
set_option maxRecDepth 100000 in
theorem kJ7_copyOf_9075b (l : Launch) (E : q_E) (f : q_H) (n : Nat) (b m k C : Nat) (W : List Int32) (h1 : f b = some (aB E m (tx W))) (hk : m < k) (hk2 : k ≤ 2 * C) (hC : C ≤ 2000) (hw : W.length ≤ m) (ho : okb W) : Met l yJ7_copyOf_9075b wsJ7_copyOf_9075b ({ frames := 1, cells := 1, slots := 2 * C, locals := 40 }) (q_P E [.ref b, .int (nI k)] f n) (q_Qq E (fun r f1 n1 => some n = r ∧ va_up f n (some (aB E k (tx W))) = f1 ∧ n + 1 = n1)) 1 (2 * C) (q_ge E) := by
  refine Met.ofW (cc := cJ7_copyOf_9075b) (maxL := 3) (ret := (some (.array .byte))) (by decide) rfl ?_
  intro p0_ e0_ s0_ m0_ args0_ below0_ meth0_ c0_ s1_ B hml hv
  obtain ⟨rfl, hA, hW⟩ := hv
  have hx := B.exec
  have hb := B.bytes
  have hr := B.returns
  have hts := atoms_spec (ws := wsJ7_copyOf_9075b) B.pre
  have hown : s0_.vm.findClass RJ7 = some m0_.cls := findClass_of_methodNamed B.named
  have hlocks := B.notSynchronized
  have hS : va_S (q_ge E) s0_.heap s0_.heap [] := va_S.rf
  have hl := lv_entry ([.ref b, .int (nI k)]) (n := 3) (Nat.le_of_ble_eq_true rfl)
  rw [lg_entry_eq]
  generalize (lg_sl ([.ref b, .int (nI k)]) ++ List.replicate (3 - (lg_sl ([.ref b, .int (nI k)])).length) Slot.unset).toArray = ls at hl ⊢
  have hl : lv_has ls 3 [(0, .ref b), (1, .int (nI k))] := hl
  have l_h1 := hW.lt h1
  refine lv_iload_n hx hb dJ7_copyOf_9075b_0 rfl (lv_at hl 1 rfl) ?_
  refine lv_aload_n hx hb dJ7_copyOf_9075b_1 rfl (lv_at hl 0 rfl) ?_
  refine q_alen hx hb hA hW 2 rfl h1 (v := nI m) rfl dJ7_copyOf_9075b_2 ?_
  refine lv_icmp_ne (tgt := 14) hx hb dJ7_copyOf_9075b_3 (by decide) (fun c_3 => ?_) (fun c_3 => False.elim ((fun h9 => nI_ne (by omega) (by omega) (by omega) h9) c_3))
  refine lv_iload_n hx hb dJ7_copyOf_9075b_14 rfl (lv_at hl 1 rfl) ?_
  refine q_newa (atype := .byte) hx hb hA hW hS (hts (.arrayClass .byte) (by decide +kernel)) (ty := .byte) rfl 2 rfl (fun C h9 => by cases h9) (N' := k) (a0 := (k, .inl (fun _ => 0))) (fun _ => rfl) (nI_pos (by omega)) (nI_clamp (by omega)) (by show k * 1 ≤ 536870912; omega) (by show _ ≤ 1; omega) (by show _ ≤ 2 * C; omega) dJ7_copyOf_9075b_15 (fun H hW hS => ?_)
  have hW : q_W E (va_up f n (some (aB E k (fun _ => 0)))) (n + 1) H := hW
  refine lv_astore_n (lv' := [(2, .ref n), (0, .ref b), (1, .int (nI k))]) hx hb dJ7_copyOf_9075b_17 rfl hl (by decide) rfl (fun ls hl => ?_)
  refine lv_aload_n hx hb dJ7_copyOf_9075b_18 rfl (lv_at hl 1 rfl) ?_
  refine lv_iconst (v := 0) hx hb dJ7_copyOf_9075b_19 (by decide) ?_
  refine lv_aload_n hx hb dJ7_copyOf_9075b_20 rfl (lv_at hl 0 rfl) ?_
  refine lv_iconst (v := 0) hx hb dJ7_copyOf_9075b_21 (by decide) ?_
  refine lv_aload_n hx hb dJ7_copyOf_9075b_22 rfl (lv_at hl 1 rfl) ?_
  refine q_alen hx hb hA hW 2 rfl (q_ne (by omega) h1) (v := nI m) rfl dJ7_copyOf_9075b_23 ?_
  refine lv_iload_n hx hb dJ7_copyOf_9075b_24 rfl (lv_at hl 2 rfl) ?_
  refine va_mmin hx hb (hml.trans hl.1.symm) hown (hts (.methodLink RJ7 304 Lib.Math.min.name) (by decide +kernel)) (hts (.static Lib.Math.min.name) (by decide +kernel)) (hts (.initialized "java/lang/Math") (by decide +kernel)) (hts (.code Lib.Math.min.name Lib.Math.min.code 2 (some .int)) (by decide +kernel)) (Nat.le_of_ble_eq_true rfl) (Nat.le_of_ble_eq_true rfl) (by show _ ≤ 1; omega) (by show _ ≤ 2 * C; omega) dJ7_copyOf_9075b_25 ?_
  refine w_top (show _ = q_min (nI m) (nI k) from rfl) ?_
  rw [show q_min (nI m) (nI k) = nI m from if_neg (nI_nlt (by omega) (by omega))]
  refine q_copyb hx hb (hml.trans hl.1.symm) hown (hts (.methodLink RJ7 150 arraycopyName) (by decide +kernel)) (hts (.native arraycopyName) (by decide +kernel)) (hts (.static arraycopyName) (by decide +kernel)) (hts (.initialized "java/lang/System") (by decide +kernel)) hA hW hS (q_ne (by omega) h1) q_eq (by decide) (by decide) (nI_pos (by omega)) (by rw [nI_clamp (by omega)]; show 0 + m ≤ m; omega) (by rw [nI_clamp (by omega)]; show 0 + m ≤ k; omega) (fun i _ => okb_fit ho _) (Nat.le_of_ble_eq_true rfl) (Nat.le_of_ble_eq_true rfl) dJ7_copyOf_9075b_28 (fun H locs hW hS => ?_)
  rw [show (nI m).toNatClampNeg = m from nI_clamp (by omega), show va_cpy (tx W) (fun _ => 0) (0 : Int32).toNatClampNeg (0 : Int32).toNatClampNeg m = tx W from tx_cpy hw] at hW
  rw [q_upup] at hW
  have hW : q_W E (va_up f n (some (aB E k (tx W)))) (n + 1) H := hW
  refine lv_aload_n hx hb dJ7_copyOf_9075b_31 rfl (lv_at hl 0 rfl) ?_
  exact q_aret (v := some n) hx hb hr (Or.inr ⟨_, rfl⟩) hlocks hW hS ⟨rfl, rfl, rfl⟩ (by show _ ≤ 1; omega) (by show _ ≤ 2 * C; omega) dJ7_copyOf_9075b_32

set_option maxHeartbeats 4000000 in
set_option maxRecDepth 100000 in
theorem kJ5_ensureCapacityInternal_d00df (l : Launch) (E : q_E) (f : q_H) (n : Nat) (sb b m q C : Nat) (W : List Int32) (c : Int32) (h0 : f sb = some (cSB b c)) (h1 : f b = some (aB E m (tx W))) (hq2 : q ≤ C) (hm : m ≤ 2 * C) (hC : C ≤ 2000) (hw : W.length ≤ m) (ho : okb W) : Met l yJ5_ensureCapacityInternal_d00df wsJ5_ensureCapacityInternal_d00df ({ frames := 3, cells := 1, slots := 2 * C, locals := 69 }) (q_P E [.ref sb, .int (nI q)] f n) (q_Qv E (fun f1 n1 => ∃ (b1 : Nat) (m1 : Nat), f1 sb = some (cSB b1 c) ∧ f1 b1 = some (aB E m1 (tx W)) ∧ q ≤ m1 ∧ m ≤ m1 ∧ m1 ≤ 2 * C ∧ (b1 = b ∨ n ≤ b1) ∧ n ≤ n1 ∧ ∀ z9, z9 ≠ sb → z9 ≠ b → z9 < n → f1 z9 = f z9)) 1 (2 * C) (q_ge E) := by
  refine Met.ofW (cc := cJ5_ensureCapacityInternal_d00df) (maxL := 3) (ret := none) (by decide) rfl ?_
  intro p0_ e0_ s0_ m0_ args0_ below0_ meth0_ c0_ s1_ B hml hv
  obtain ⟨rfl, hA, hW⟩ := hv
  have hx := B.exec
  have hb := B.bytes
  have hr := B.returns
  have hts := atoms_spec (ws := wsJ5_ensureCapacityInternal_d00df) B.pre
  have hown : s0_.vm.findClass RJ5 = some m0_.cls := findClass_of_methodNamed B.named
  have hlocks := B.notSynchronized
  have hS : va_S (q_ge E) s0_.heap s0_.heap [] := va_S.rf
  have iJ4 : ∀ w ∈ wsJ40, w ∈ wsJ5_ensureCapacityInternal_d00df := by decide +kernel
  have hl := lv_entry ([.ref sb, .int (nI q)]) (n := 3) (Nat.le_of_ble_eq_true rfl)
  rw [lg_entry_eq]
  generalize (lg_sl ([.ref sb, .int (nI q)]) ++ List.replicate (3 - (lg_sl ([.ref sb, .int (nI q)])).length) Slot.unset).toArray = ls at hl ⊢
  have hl : lv_has ls 3 [(0, .ref sb), (1, .int (nI q))] := hl
  have l_h0 := hW.lt h0
  have l_h1 := hW.lt h1
  have hbs := ne_ab h0 h1
  refine lv_aload_n hx hb dJ5_ensureCapacityInternal_d00df_0 rfl (lv_at hl 0 rfl) ?_
  refine q_get hx hb hts hown hA hW iJ4 h0 rfl 0 (by decide) (hts (.fieldLink RJ5 15 "java/lang/AbstractStringBuilder" "value" "[B") (by decide +kernel)) (fun _ h9 => h9) (v := .ref b) rfl dJ5_ensureCapacityInternal_d00df_1 ?_
  refine q_alen hx hb hA hW 2 rfl h1 (v := nI m) rfl dJ5_ensureCapacityInternal_d00df_4 ?_
  refine lv_aload_n hx hb dJ5_ensureCapacityInternal_d00df_5 rfl (lv_at hl 0 rfl) ?_
  refine q_get hx hb hts hown hA hW iJ4 h0 rfl 1 (by decide) (hts (.fieldLink RJ5 22 "java/lang/AbstractStringBuilder" "coder" "B") (by decide +kernel)) (fun _ h9 => h9) (v := .int 0) rfl dJ5_ensureCapacityInternal_d00df_6 ?_
  refine lv_ishr hx hb dJ5_ensureCapacityInternal_d00df_9 ?_
  rw [sb_shr0]
  refine lv_istore_n (lv' := [(2, .int (nI m)), (0, .ref sb), (1, .int (nI q))]) hx hb dJ5_ensureCapacityInternal_d00df_10 rfl hl (by decide) rfl (fun ls hl => ?_)
  refine lv_iload_n hx hb dJ5_ensureCapacityInternal_d00df_11 rfl (lv_at hl 2 rfl) ?_
  refine lv_iload_n hx hb dJ5_ensureCapacityInternal_d00df_12 rfl (lv_at hl 0 rfl) ?_
  refine lv_isub hx hb dJ5_ensureCapacityInternal_d00df_13 ?_
  refine lv_if_le (tgt := 38) hx hb dJ5_ensureCapacityInternal_d00df_14 (by decide) (fun c_14 => ?_) (fun c_14 => ?_)
  · have hqm : q ≤ m := isub_le (by omega) (by omega) c_14
    exact q_vret hx hb hr hlocks hW hS ⟨b, m, h0, h1, hqm, Nat.le_refl _, hm, (Or.inl rfl), Nat.le_refl _, (fun q g0 g1 g2 => rfl)⟩ (by show _ ≤ 1; omega) (by show _ ≤ 2 * C; omega) dJ5_ensureCapacityInternal_d00df_38
  · have hqm : m < q := isub_gt (by omega) (by omega) c_14
    have h7 := scap_le hq2 hm
    have h8 := scap_gt hqm
    have h9 := scap_ge q m
    refine lv_aload_n hx hb dJ5_ensureCapacityInternal_d00df_17 rfl (lv_at hl 1 rfl) ?_
    refine lv_aload_n hx hb dJ5_ensureCapacityInternal_d00df_18 rfl (lv_at hl 1 rfl) ?_
    refine q_get hx hb hts hown hA hW iJ4 h0 rfl 0 (by decide) (hts (.fieldLink RJ5 15 "java/lang/AbstractStringBuilder" "value" "[B") (by decide +kernel)) (fun _ h9 => h9) (v := .ref b) rfl dJ5_ensureCapacityInternal_d00df_19 ?_
    refine lv_aload_n hx hb dJ5_ensureCapacityInternal_d00df_22 rfl (lv_at hl 1 rfl) ?_
    refine lv_iload_n hx hb dJ5_ensureCapacityInternal_d00df_23 rfl (lv_at hl 2 rfl) ?_
    refine q_ci (va_runU (As := [.int (nI q)]) (rest := [.ref b, .ref sb]) ⟨hx, hb, hml, hown, hts⟩ (kJ5_newCapacity_0f7a4 l E f n sb b m q C W c h0 h1 hqm (by assumption) (by assumption) (by assumption)) (va_cwU 1 hts gJ5_ensureCapacityInternal_d00df_J5_newCapacity_0f7a4_u104J4 rfl rfl rfl rfl (by decide +kernel) ⟨(Nat.le_of_ble_eq_true rfl), (Nat.le_of_ble_eq_true rfl)⟩) (q_pV hA hW hS (ci := 1) rfl h0) rfl rfl hl.1 rfl (lv_room (Nat.le_of_ble_eq_true rfl)) dJ5_ensureCapacityInternal_d00df_24 ⟨(by show _ ≤ 1; omega), (by show _ ≤ 2 * C; omega)⟩) hS (fun r_24 f_24 n_24 H locs hp hW hS => ?_)
    obtain ⟨rfl, rfl, rfl⟩ := hp
    have hW : q_W E (f) n H := hW
    refine lv_aload_n hx hb dJ5_ensureCapacityInternal_d00df_27 rfl (lv_at hl 1 rfl) ?_
    refine q_get hx hb hts hown hA hW iJ4 h0 rfl 1 (by decide) (hts (.fieldLink RJ5 22 "java/lang/AbstractStringBuilder" "coder" "B") (by decide +kernel)) (fun _ h9 => h9) (v := .int 0) rfl dJ5_ensureCapacityInternal_d00df_28 ?_
    refine lv_ishl hx hb dJ5_ensureCapacityInternal_d00df_31 ?_
    rw [sb_shl0]
    refine q_cq (va_runS (As := [.ref b, .int (nI (scap q m))]) (rest := [.ref sb]) ⟨hx, hb, hml, hown, hts⟩ (kJ7_copyOf_9075b l E f n b m (scap q m) C W h1 h8 h7 (by assumption) (by assumption) (by assumption)) (va_cwS 2 hts gJ5_ensureCapacityInternal_d00df_J7_copyOf_9075b rfl rfl rfl (by decide +kernel) ⟨(Nat.le_of_ble_eq_true rfl), (Nat.le_of_ble_eq_true rfl)⟩) (q_pS hA hW hS) rfl rfl hl.1 rfl (lv_room (Nat.le_of_ble_eq_true rfl)) dJ5_ensureCapacityInternal_d00df_32 ⟨(by show _ ≤ 1; omega), (by show _ ≤ 2 * C; omega)⟩) hS (fun r_32 f_32 n_32 H locs hp hW hS => ?_)
    obtain ⟨rfl, rfl, rfl⟩ := hp
    have hW : q_W E (va_up f n (some (aB E (scap q m) (tx W)))) (n + 1) H := hW
    refine q_put hx hb hts hown hA hW hS iJ4 tyJ4 tyJ4_ok nmJ4 (q_ne (by omega) h0) rfl 0 (by decide) (hts (.fieldLink RJ5 15 "java/lang/AbstractStringBuilder" "value" "[B") (by decide +kernel)) (fun _ h9 => h9) rfl rfl rfl (Nat.le_of_ble_eq_true rfl) dJ5_ensureCapacityInternal_d00df_35 (fun H locs hW hS => ?_)
    have hW : q_W E (va_up (va_up f n (some (aB E (scap q m) (tx W)))) sb (some (cSB n c))) (n + 1) H := hW
    exact q_vret hx hb hr hlocks hW hS ⟨n, scap q m, q_eq, (q_ne (by omega) q_eq), h9, (Nat.le_of_lt h8), h7, (Or.inr (Nat.le_refl _)), (Nat.le_succ _), (fun q g0 g1 g2 => (q_ne (by omega) (q_ne (by omega) rfl)))⟩ (by show _ ≤ 1; omega) (by show _ ≤ 2 * C; omega) dJ5_ensureCapacityInternal_d00df_38

set_option maxHeartbeats 4000000 in
set_option maxRecDepth 100000 in
theorem kJ5_append_3fe6f (l : Launch) (E : q_E) (f : q_H) (n : Nat) (sb b m k C : Nat) (W : List Int32) (h0 : f sb = some (cSB b (nI W.length))) (h1 : f b = some (aB E m (tx W))) (hq2 : W.length + 1 ≤ C) (hm : m ≤ 2 * C) (hC : C ≤ 2000) (hw : W.length ≤ m) (ho : okb W) (hk : k < 128) : Met l yJ5_append_3fe6f wsJ5_append_3fe6f ({ frames := 4, cells := 1, slots := 2 * C, locals := 91 }) (q_P E [.ref sb, .int (nI k)] f n) (q_Qq E (fun r0 f1 n1 => ∃ (b1 : Nat) (m1 : Nat), some sb = r0 ∧ f1 sb = some (cSB b1 (nI (W ++ [nI k]).length)) ∧ f1 b1 = some (aB E m1 (tx (W ++ [nI k]))) ∧ (W ++ [nI k]).length ≤ m1 ∧ m1 ≤ 2 * C ∧ (b1 = b ∨ n ≤ b1) ∧ n ≤ n1 ∧ ∀ z9, z9 ≠ sb → z9 ≠ b → z9 < n → f1 z9 = f z9)) 1 (2 * C) (q_ge E) := by
  refine Met.ofW (cc := cJ5_append_3fe6f) (maxL := 2) (ret := (some (.object "java/lang/AbstractStringBuilder"))) (by decide) rfl ?_
  intro p0_ e0_ s0_ m0_ args0_ below0_ meth0_ c0_ s1_ B hml hv
  obtain ⟨rfl, hA, hW⟩ := hv
  have hx := B.exec
  have hb := B.bytes
  have hr := B.returns
  have hts := atoms_spec (ws := wsJ5_append_3fe6f) B.pre
  have hown : s0_.vm.findClass RJ5 = some m0_.cls := findClass_of_methodNamed B.named
  have hlocks := B.notSynchronized
  have hS : va_S (q_ge E) s0_.heap s0_.heap [] := va_S.rf
  have iJ4 : ∀ w ∈ wsJ40, w ∈ wsJ5_append_3fe6f := by decide +kernel
  have hl := lv_entry ([.ref sb, .int (nI k)]) (n := 2) (Nat.le_of_ble_eq_true rfl)
  rw [lg_entry_eq]
  generalize (lg_sl ([.ref sb, .int (nI k)]) ++ List.replicate (2 - (lg_sl ([.ref sb, .int (nI k)])).length) Slot.unset).toArray = ls at hl ⊢
  have hl : lv_has ls 2 [(0, .ref sb), (1, .int (nI k))] := hl
  have l_h0 := hW.lt h0
  have l_h1 := hW.lt h1
  have hbs := ne_ab h0 h1
  refine lv_aload_n hx hb dJ5_append_3fe6f_0 rfl (lv_at hl 0 rfl) ?_
  refine lv_aload_n hx hb dJ5_append_3fe6f_1 rfl (lv_at hl 0 rfl) ?_
  refine q_get hx hb hts hown hA hW iJ4 h0 rfl 3 (by decide) (hts (.fieldLink RJ5 79 "java/lang/AbstractStringBuilder" "count" "I") (by decide +kernel)) (fun _ h9 => h9) (v := .int (nI W.length)) rfl dJ5_append_3fe6f_2 ?_
  refine lv_iconst (v := 1) hx hb dJ5_append_3fe6f_5 (by decide) ?_
  refine lv_iadd hx hb dJ5_append_3fe6f_6 ?_
  rw [nI_1]
  refine q_cv (va_runU (As := [.int (nI (W.length + 1))]) (rest := []) ⟨hx, hb, hml, hown, hts⟩ (kJ5_ensureCapacityInternal_d00df l E f n sb b m (W.length + 1) C W (nI W.length) h0 h1 (by assumption) (by assumption) (by assumption) (by assumption) (by assumption)) (va_cwU 1 hts gJ5_append_3fe6f_J5_ensureCapacityInternal_d00df_u100J4 rfl rfl rfl rfl (by decide +kernel) ⟨(Nat.le_of_ble_eq_true rfl), (Nat.le_of_ble_eq_true rfl)⟩) (q_pV hA hW hS (ci := 1) rfl h0) rfl rfl hl.1 rfl (lv_room (Nat.le_of_ble_eq_true rfl)) dJ5_append_3fe6f_7 ⟨(by show _ ≤ 1; omega), (by show _ ≤ 2 * C; omega)⟩) hS (fun f_7 n_7 H locs hp hW hS => ?_)
  obtain ⟨b1_7, m1_7, e0_7, e1_7, eq_7, em_7, em4_7, eb_7, en_7, hfr_7⟩ := hp
  have l_e0_7 := hW.lt e0_7
  have l_e1_7 := hW.lt e1_7
  refine lv_aload_n hx hb dJ5_append_3fe6f_10 rfl (lv_at hl 0 rfl) ?_
  refine q_ci (va_runU (As := []) (rest := []) ⟨hx, hb, hml, hown, hts⟩ (kJ5_isLatin1_aae02 l E f_7 n_7 sb b1_7 (nI W.length) e0_7) (va_cwU 0 hts gJ5_append_3fe6f_J5_isLatin1_aae02_u83J4 rfl rfl rfl rfl (by decide +kernel) ⟨(Nat.le_of_ble_eq_true rfl), (Nat.le_of_ble_eq_true rfl)⟩) (q_pV hA hW hS (ci := 1) rfl e0_7) rfl rfl hl.1 rfl (lv_room (Nat.le_of_ble_eq_true rfl)) dJ5_append_3fe6f_11 ⟨(by show _ ≤ 1; omega), (by show _ ≤ 2 * C; omega)⟩) hS (fun r_11 f_11 n_11 H locs hp hW hS => ?_)
  obtain ⟨rfl, rfl, rfl⟩ := hp
  have hW : q_W E (f_7) n_7 H := hW
  refine lv_if_eq (tgt := 45) hx hb dJ5_append_3fe6f_14 (by decide) (fun c_14 => False.elim ((fun h9 => absurd h9 (by decide)) c_14)) (fun c_14 => ?_)
  refine lv_iload_n hx hb dJ5_append_3fe6f_17 rfl (lv_at hl 1 rfl) ?_
  refine q_ci (va_runS (As := [.int (nI k)]) (rest := []) ⟨hx, hb, hml, hown, hts⟩ (kJ1_canEncode_fc78d l E f_7 n_7 k hk) (va_cwS 1 hts gJ5_append_3fe6f_J1_canEncode_fc78d rfl rfl rfl (by decide +kernel) ⟨(Nat.le_of_ble_eq_true rfl), (Nat.le_of_ble_eq_true rfl)⟩) (q_pS hA hW hS) rfl rfl hl.1 rfl (lv_room (Nat.le_of_ble_eq_true rfl)) dJ5_append_3fe6f_18 ⟨(by show _ ≤ 1; omega), (by show _ ≤ 2 * C; omega)⟩) hS (fun r_18 f_18 n_18 H locs hp hW hS => ?_)
  obtain ⟨rfl, rfl, rfl⟩ := hp
  have hW : q_W E (f_7) n_7 H := hW
  refine lv_if_eq (tgt := 45) hx hb dJ5_append_3fe6f_21 (by decide) (fun c_21 => False.elim ((fun h9 => absurd h9 (by decide)) c_21)) (fun c_21 => ?_)
  refine lv_aload_n hx hb dJ5_append_3fe6f_24 rfl (lv_at hl 0 rfl) ?_
  refine q_get hx hb hts hown hA hW iJ4 e0_7 rfl 0 (by decide) (hts (.fieldLink RJ5 15 "java/lang/AbstractStringBuilder" "value" "[B") (by decide +kernel)) (fun _ h9 => h9) (v := .ref b1_7) rfl dJ5_append_3fe6f_25 ?_
  refine lv_aload_n hx hb dJ5_append_3fe6f_28 rfl (lv_at hl 0 rfl) ?_
  refine lv_dup hx hb dJ5_append_3fe6f_29 rfl ?_
  refine q_get hx hb hts hown hA hW iJ4 e0_7 rfl 3 (by decide) (hts (.fieldLink RJ5 79 "java/lang/AbstractStringBuilder" "count" "I") (by decide +kernel)) (fun _ h9 => h9) (v := .int (nI W.length)) rfl dJ5_append_3fe6f_30 ?_
  refine lv_dup_x1 hx hb dJ5_append_3fe6f_33 rfl rfl ?_
  refine lv_iconst (v := 1) hx hb dJ5_append_3fe6f_34 (by decide) ?_
  refine lv_iadd hx hb dJ5_append_3fe6f_35 ?_
  rw [nI_1]
  refine q_put hx hb hts hown hA hW hS iJ4 tyJ4 tyJ4_ok nmJ4 e0_7 rfl 3 (by decide) (hts (.fieldLink RJ5 79 "java/lang/AbstractStringBuilder" "count" "I") (by decide +kernel)) (fun _ h9 => h9) rfl rfl rfl (Nat.le_of_ble_eq_true rfl) dJ5_append_3fe6f_36 (fun H locs hW hS => ?_)
  have hW : q_W E (va_up f_7 sb (some (cSB b1_7 (nI (W.length + 1))))) n_7 H := hW
  refine lv_iload_n hx hb dJ5_append_3fe6f_39 rfl (lv_at hl 1 rfl) ?_
  refine lv_i2b hx hb dJ5_append_3fe6f_40 rfl ?_
  refine q_bast hx hb hA hW hS (q_ne (by omega) e1_7) (vp_in_nI (by omega) (by omega)) dJ5_append_3fe6f_41 (fun H locs hW hS => ?_)
  rw [show (nI W.length).toNatClampNeg = W.length from nI_clamp (by omega), b_i8 k hk, b_i8 k hk, tx_put] at hW
  have hW : q_W E (va_up (va_up f_7 sb (some (cSB b1_7 (nI (W.length + 1))))) b1_7 (some (aB E m1_7 (tx (W ++ [nI k]))))) n_7 H := hW
  refine lv_goto (tgt := 75) hx hb dJ5_append_3fe6f_42 (by decide) ?_
  refine lv_aload_n hx hb dJ5_append_3fe6f_75 rfl (lv_at hl 0 rfl) ?_
  exact q_aret (v := some sb) hx hb hr (Or.inl ⟨_, rfl⟩) hlocks hW hS ⟨b1_7, m1_7, rfl, (show _ = some (cSB _ (nI (W ++ [nI k]).length)) from (by rw [List.length_append]; exact (q_ne (by omega) q_eq))), q_eq, (by rw [List.length_append]; exact eq_7), em4_7, eb_7, en_7, (fun q g0 g1 g2 => (q_ne (by omega) (q_ne (by omega) ((hfr_7 _ (by omega) (by omega) (by omega)).trans rfl))))⟩ (by show _ ≤ 1; omega) (by show _ ≤ 2 * C; omega) dJ5_append_3fe6f_76

set_option maxHeartbeats 4000000 in
set_option maxRecDepth 100000 in
theorem kJ0_getBytes_840e7 (l : Launch) (E : q_E) (f : q_H) (n : Nat) (r rb b m : Nat) (W V : List Int32) (h2 : f r = some (cStr rb)) (h3 : f rb = some (aB E V.length (tx V))) (h1 : f b = some (aB E m (tx W))) (hwv : W.length + V.length ≤ m) (hm : m ≤ 4000) (ho : okb V) : Met l yJ0_getBytes_840e7 wsJ0_getBytes_840e7 ({ frames := 1, cells := 0, slots := 0, locals := 40 }) (q_P E [.ref r, .ref b, .int (nI W.length), .int 0] f n) (q_Qv E (fun f1 n1 => va_up f b (some (aB E m (tx (W ++ V)))) = f1 ∧ n = n1)) 0 0 (q_ge E) := by
  refine Met.ofW (cc := cJ0_getBytes_840e7) (maxL := 4) (ret := none) (by decide) rfl ?_
  intro p0_ e0_ s0_ m0_ args0_ below0_ meth0_ c0_ s1_ B hml hv
  obtain ⟨rfl, hA, hW⟩ := hv
  have hx := B.exec
  have hb := B.bytes
  have hr := B.returns
  have hts := atoms_spec (ws := wsJ0_getBytes_840e7) B.pre
  have hown : s0_.vm.findClass RJ0 = some m0_.cls := findClass_of_methodNamed B.named
  have hlocks := B.notSynchronized
  have hS : va_S (q_ge E) s0_.heap s0_.heap [] := va_S.rf
  have iJ0 : ∀ w ∈ wsJ00, w ∈ wsJ0_getBytes_840e7 := by decide +kernel
  have hl := lv_entry ([.ref r, .ref b, .int (nI W.length), .int 0]) (n := 4) (Nat.le_of_ble_eq_true rfl)
  rw [lg_entry_eq]
  generalize (lg_sl ([.ref r, .ref b, .int (nI W.length), .int 0]) ++ List.replicate (4 - (lg_sl ([.ref r, .ref b, .int (nI W.length), .int 0])).length) Slot.unset).toArray = ls at hl ⊢
  have hl : lv_has ls 4 [(0, .ref r), (1, .ref b), (2, .int (nI W.length)), (3, .int 0)] := hl
  have l_h2 := hW.lt h2
  have l_h3 := hW.lt h3
  have l_h1 := hW.lt h1
  refine lv_aload_n hx hb dJ0_getBytes_840e7_0 rfl (lv_at hl 0 rfl) ?_
  refine q_ci (va_runV (As := []) (rest := []) ⟨hx, hb, hml, hown, hts⟩ (kJ0_coder_7d493 l E f n r rb h2) (cwV 0 hts gJ0_getBytes_840e7_J0_coder_7d493 rfl rfl rfl (by decide +kernel) ⟨(Nat.le_of_ble_eq_true rfl), (Nat.le_of_ble_eq_true rfl)⟩) (q_pV hA hW hS (ci := 0) rfl h2) rfl rfl hl.1 rfl (lv_room (Nat.le_of_ble_eq_true rfl)) dJ0_getBytes_840e7_1 ⟨(Nat.le_of_ble_eq_true rfl), (Nat.le_of_ble_eq_true rfl)⟩) hS (fun r_1 f_1 n_1 H locs hp hW hS => ?_)
  obtain ⟨rfl, rfl, rfl⟩ := hp
  have hW : q_W E (f) n H := hW
  refine lv_iload_n hx hb dJ0_getBytes_840e7_4 rfl (lv_at hl 3 rfl) ?_
  refine lv_icmp_ne (tgt := 28) hx hb dJ0_getBytes_840e7_5 (by decide) (fun c_5 => False.elim ((fun h9 => h9 rfl) c_5)) (fun c_5 => ?_)
  refine lv_aload_n hx hb dJ0_getBytes_840e7_8 rfl (lv_at hl 0 rfl) ?_
  refine q_get hx hb hts hown hA hW iJ0 h2 rfl 0 (by decide) (hts (.fieldLink RJ0 9 "java/lang/String" "value" "[B") (by decide +kernel)) (fun _ h9 => h9) (v := .ref rb) rfl dJ0_getBytes_840e7_9 ?_
  refine lv_iconst (v := 0) hx hb dJ0_getBytes_840e7_12 (by decide) ?_
  refine lv_aload_n hx hb dJ0_getBytes_840e7_13 rfl (lv_at hl 1 rfl) ?_
  refine lv_iload_n hx hb dJ0_getBytes_840e7_14 rfl (lv_at hl 2 rfl) ?_
  refine lv_iload_n hx hb dJ0_getBytes_840e7_15 rfl (lv_at hl 3 rfl) ?_
  refine lv_ishl hx hb dJ0_getBytes_840e7_16 ?_
  rw [sb_shl0]
  refine lv_aload_n hx hb dJ0_getBytes_840e7_17 rfl (lv_at hl 0 rfl) ?_
  refine q_get hx hb hts hown hA hW iJ0 h2 rfl 0 (by decide) (hts (.fieldLink RJ0 9 "java/lang/String" "value" "[B") (by decide +kernel)) (fun _ h9 => h9) (v := .ref rb) rfl dJ0_getBytes_840e7_18 ?_
  refine q_alen hx hb hA hW 2 rfl h3 (v := nI V.length) rfl dJ0_getBytes_840e7_21 ?_
  refine q_copyb hx hb (hml.trans hl.1.symm) hown (hts (.methodLink RJ0 212 arraycopyName) (by decide +kernel)) (hts (.native arraycopyName) (by decide +kernel)) (hts (.static arraycopyName) (by decide +kernel)) (hts (.initialized "java/lang/System") (by decide +kernel)) hA hW hS h3 h1 (by decide) (nI_pos (by omega)) (nI_pos (by omega)) (by rw [nI_clamp (by omega)]; show 0 + V.length ≤ V.length; omega) (by rw [nI_clamp (by omega), nI_clamp (by omega)]; omega) (fun i _ => okb_fit ho _) (Nat.le_of_ble_eq_true rfl) (Nat.le_of_ble_eq_true rfl) dJ0_getBytes_840e7_22 (fun H locs hW hS => ?_)
  rw [show (nI V.length).toNatClampNeg = V.length from nI_clamp (by omega), show (nI W.length).toNatClampNeg = W.length from nI_clamp (by omega), show va_cpy (tx V) (tx W) (0 : Int32).toNatClampNeg W.length V.length = tx (W ++ V) from tx_cat rfl (fun _ _ => rfl)] at hW
  have hW : q_W E (va_up f b (some (aB E m (tx (W ++ V))))) n H := hW
  refine lv_goto (tgt := 43) hx hb dJ0_getBytes_840e7_25 (by decide) ?_
  exact q_vret hx hb hr hlocks hW hS ⟨rfl, rfl⟩ (Nat.le_of_ble_eq_true rfl) (Nat.le_of_ble_eq_true rfl) dJ0_getBytes_840e7_43

set_option maxHeartbeats 4000000 in
set_option maxRecDepth 100000 in
theorem kJ0_getBytes_k (l : Launch) (E : q_E) (f : q_H) (n : Nat) (i b m : Nat) (W : List Int32) (h1 : f b = some (aB E m (tx W))) (hwv : W.length + (kt i).length ≤ m) (hm : m ≤ 4000) (hi : i < 50) : Met l yJ0_getBytes_840e7 wsJ0_getBytes_840e7 ({ frames := 1, cells := 0, slots := 0, locals := 40 }) (q_P E [.ref (E.2.2.2 (200 + i)), .ref b, .int (nI W.length), .int 0] f n) (q_Qv E (fun f1 n1 => va_up f b (some (aB E m (tx (W ++ kt i)))) = f1 ∧ n = n1)) 0 0 (q_ge E) := by
  refine Met.ofW (cc := cJ0_getBytes_840e7) (maxL := 4) (ret := none) (by decide) rfl ?_
  intro p0_ e0_ s0_ m0_ args0_ below0_ meth0_ c0_ s1_ B hml hv
  obtain ⟨rfl, hA, hW⟩ := hv
  have hx := B.exec
  have hb := B.bytes
  have hr := B.returns
  have hts := atoms_spec (ws := wsJ0_getBytes_840e7) B.pre
  have hown : s0_.vm.findClass RJ0 = some m0_.cls := findClass_of_methodNamed B.named
  have hlocks := B.notSynchronized
  have hS : va_S (q_ge E) s0_.heap s0_.heap [] := va_S.rf
  have hl := lv_entry ([.ref (E.2.2.2 (200 + i)), .ref b, .int (nI W.length), .int 0]) (n := 4) (Nat.le_of_ble_eq_true rfl)
  rw [lg_entry_eq]
  generalize (lg_sl ([.ref (E.2.2.2 (200 + i)), .ref b, .int (nI W.length), .int 0]) ++ List.replicate (4 - (lg_sl ([.ref (E.2.2.2 (200 + i)), .ref b, .int (nI W.length), .int 0])).length) Slot.unset).toArray = ls at hl ⊢
  have hl : lv_has ls 4 [(0, .ref (E.2.2.2 (200 + i))), (1, .ref b), (2, .int (nI W.length)), (3, .int 0)] := hl
  have l_h1 := hW.lt h1
  refine lv_aload_n hx hb dJ0_getBytes_840e7_0 rfl (lv_at hl 0 rfl) ?_
  refine q_ci (va_runV (As := []) (rest := []) ⟨hx, hb, hml, hown, hts⟩ (kJ0_coder_k l E f n i hi) (cwV 0 hts gJ0_getBytes_840e7_J0_coder_7d493 rfl rfl rfl (by decide +kernel) ⟨(Nat.le_of_ble_eq_true rfl), (Nat.le_of_ble_eq_true rfl)⟩) (q_pStr hA hW hS hi) rfl rfl hl.1 rfl (lv_room (Nat.le_of_ble_eq_true rfl)) dJ0_getBytes_840e7_1 ⟨(Nat.le_of_ble_eq_true rfl), (Nat.le_of_ble_eq_true rfl)⟩) hS (fun r_1 f_1 n_1 H locs hp hW hS => ?_)
  obtain ⟨rfl, rfl, rfl⟩ := hp
  have hW : q_W E (f) n H := hW
  refine lv_iload_n hx hb dJ0_getBytes_840e7_4 rfl (lv_at hl 3 rfl) ?_
  refine lv_icmp_ne (tgt := 28) hx hb dJ0_getBytes_840e7_5 (by decide) (fun c_5 => False.elim ((fun h9 => h9 rfl) c_5)) (fun c_5 => ?_)
  refine lv_aload_n hx hb dJ0_getBytes_840e7_8 rfl (lv_at hl 0 rfl) ?_
  refine vk_getf (o := "java/lang/String") (n := "value") (d := "[B") (v := .ref (E.2.2.2 (300 + i))) hx hb (hA.2.2.1.2.2.2.2.2.1.1 i hi).2.2.1 hS hown (hts (.fieldLink RJ0 9 "java/lang/String" "value" "[B") (by decide +kernel)) (fun _ h9 => h9) dJ0_getBytes_840e7_9 ?_
  refine lv_iconst (v := 0) hx hb dJ0_getBytes_840e7_12 (by decide) ?_
  refine lv_aload_n hx hb dJ0_getBytes_840e7_13 rfl (lv_at hl 1 rfl) ?_
  refine lv_iload_n hx hb dJ0_getBytes_840e7_14 rfl (lv_at hl 2 rfl) ?_
  refine lv_iload_n hx hb dJ0_getBytes_840e7_15 rfl (lv_at hl 3 rfl) ?_
  refine lv_ishl hx hb dJ0_getBytes_840e7_16 ?_
  rw [sb_shl0]
  refine lv_aload_n hx hb dJ0_getBytes_840e7_17 rfl (lv_at hl 0 rfl) ?_
  refine vk_getf (o := "java/lang/String") (n := "value") (d := "[B") (v := .ref (E.2.2.2 (300 + i))) hx hb (hA.2.2.1.2.2.2.2.2.1.1 i hi).2.2.1 hS hown (hts (.fieldLink RJ0 9 "java/lang/String" "value" "[B") (by decide +kernel)) (fun _ h9 => h9) dJ0_getBytes_840e7_18 ?_
  refine va_tlen hx hb (hA.2.2.1.2.2.2.2.2.1.1 i hi).2.2.2 hS (v := nI (kt i).length) (by rw [kt_len i hi]; rfl) dJ0_getBytes_840e7_21 ?_
  refine q_copyt hx hb (hml.trans hl.1.symm) hown (hts (.methodLink RJ0 212 arraycopyName) (by decide +kernel)) (hts (.native arraycopyName) (by decide +kernel)) (hts (.static arraycopyName) (by decide +kernel)) (hts (.initialized "java/lang/System") (by decide +kernel)) hA hW hS (show va_T .byte (E.2.2.2 (300 + i)) (kt i).length (fun j => .int (tx (kt i) j)) (q_ge E) s0_ s0_.heap from (by rw [kt_len i hi]; exact (hA.2.2.1.2.2.2.2.2.1.1 i hi).2.2.2)) h1 (by decide) (nI_pos (by omega)) (nI_pos (by omega)) (by rw [nI_clamp (by omega)]; show 0 + (kt i).length ≤ (kt i).length; omega) (by rw [nI_clamp (by omega), nI_clamp (by omega)]; omega) (fun j _ => okb_fit (kt_okb hi) _) (Nat.le_of_ble_eq_true rfl) (Nat.le_of_ble_eq_true rfl) dJ0_getBytes_840e7_22 (fun H locs hW hS => ?_)
  rw [show (nI (kt i).length).toNatClampNeg = (kt i).length from nI_clamp (by omega), show (nI W.length).toNatClampNeg = W.length from nI_clamp (by omega), show va_cpy (tx (kt i)) (tx W) (0 : Int32).toNatClampNeg W.length (kt i).length = tx (W ++ (kt i)) from tx_cat rfl (fun _ _ => rfl)] at hW
  have hW : q_W E (va_up f b (some (aB E m (tx (W ++ kt i))))) n H := hW
  refine lv_goto (tgt := 43) hx hb dJ0_getBytes_840e7_25 (by decide) ?_
  exact q_vret hx hb hr hlocks hW hS ⟨rfl, rfl⟩ (Nat.le_of_ble_eq_true rfl) (Nat.le_of_ble_eq_true rfl) dJ0_getBytes_840e7_43

set_option maxHeartbeats 4000000 in
set_option maxRecDepth 100000 in
theorem kJ5_inflateIfNeededFor_a7421 (l : Launch) (E : q_E) (f : q_H) (n : Nat) (sb b r rb : Nat) (c : Int32) (h0 : f sb = some (cSB b c)) (h2 : f r = some (cStr rb)) : Met l yJ5_inflateIfNeededFor_a7421 wsJ5_inflateIfNeededFor_a7421 ({ frames := 1, cells := 0, slots := 0, locals := 20 }) (q_P E [.ref sb, .ref r] f n) (q_Qv E (fun f1 n1 => f = f1 ∧ n = n1)) 0 0 (q_ge E) := by
  refine Met.ofW (cc := cJ5_inflateIfNeededFor_a7421) (maxL := 2) (ret := none) (by decide) rfl ?_
  intro p0_ e0_ s0_ m0_ args0_ below0_ meth0_ c0_ s1_ B hml hv
  obtain ⟨rfl, hA, hW⟩ := hv
  have hx := B.exec
  have hb := B.bytes
  have hr := B.returns
  have hts := atoms_spec (ws := wsJ5_inflateIfNeededFor_a7421) B.pre
  have hown : s0_.vm.findClass RJ5 = some m0_.cls := findClass_of_methodNamed B.named
  have hlocks := B.notSynchronized
  have hS : va_S (q_ge E) s0_.heap s0_.heap [] := va_S.rf
  have iJ4 : ∀ w ∈ wsJ40, w ∈ wsJ5_inflateIfNeededFor_a7421 := by decide +kernel
  have hl := lv_entry ([.ref sb, .ref r]) (n := 2) (Nat.le_of_ble_eq_true rfl)
  rw [lg_entry_eq]
  generalize (lg_sl ([.ref sb, .ref r]) ++ List.replicate (2 - (lg_sl ([.ref sb, .ref r])).length) Slot.unset).toArray = ls at hl ⊢
  have hl : lv_has ls 2 [(0, .ref sb), (1, .ref r)] := hl
  have l_h0 := hW.lt h0
  have l_h2 := hW.lt h2
  refine va_gets (n := "COMPACT_STRINGS") (v := .int 1) hx hb hA.2.2.1.2.2.2.2.2.2.2.1 hS hown (hts (.fieldLink RJ5 18 "java/lang/String" "COMPACT_STRINGS" "Z") (by decide +kernel)) (fun _ h9 => h9) dJ5_inflateIfNeededFor_a7421_0 ?_
  refine lv_if_eq (tgt := 21) hx hb dJ5_inflateIfNeededFor_a7421_3 (by decide) (fun c_3 => False.elim ((fun h9 => absurd h9 (by decide)) c_3)) (fun c_3 => ?_)
  refine lv_aload_n hx hb dJ5_inflateIfNeededFor_a7421_6 rfl (lv_at hl 0 rfl) ?_
  refine q_get hx hb hts hown hA hW iJ4 h0 rfl 1 (by decide) (hts (.fieldLink RJ5 22 "java/lang/AbstractStringBuilder" "coder" "B") (by decide +kernel)) (fun _ h9 => h9) (v := .int 0) rfl dJ5_inflateIfNeededFor_a7421_7 ?_
  refine lv_aload_n hx hb dJ5_inflateIfNeededFor_a7421_10 rfl (lv_at hl 1 rfl) ?_
  refine q_ci (va_runV (As := []) (rest := [.int 0]) ⟨hx, hb, hml, hown, hts⟩ (kJ0_coder_7d493 l E f n r rb h2) (cwV 0 hts gJ5_inflateIfNeededFor_a7421_J0_coder_7d493 rfl rfl rfl (by decide +kernel) ⟨(Nat.le_of_ble_eq_true rfl), (Nat.le_of_ble_eq_true rfl)⟩) (q_pV hA hW hS (ci := 0) rfl h2) rfl rfl hl.1 rfl (lv_room (Nat.le_of_ble_eq_true rfl)) dJ5_inflateIfNeededFor_a7421_11 ⟨(Nat.le_of_ble_eq_true rfl), (Nat.le_of_ble_eq_true rfl)⟩) hS (fun r_11 f_11 n_11 H locs hp hW hS => ?_)
  obtain ⟨rfl, rfl, rfl⟩ := hp
  have hW : q_W E (f) n H := hW
  refine lv_icmp_eq (tgt := 21) hx hb dJ5_inflateIfNeededFor_a7421_14 (by decide) (fun c_14 => ?_) (fun c_14 => False.elim ((fun h9 => h9 rfl) c_14))
  exact q_vret hx hb hr hlocks hW hS ⟨rfl, rfl⟩ (Nat.le_of_ble_eq_true rfl) (Nat.le_of_ble_eq_true rfl) dJ5_inflateIfNeededFor_a7421_21

set_option maxHeartbeats 4000000 in
set_option maxRecDepth 100000 in
theorem kJ5_inflateIfNeededFor_k (l : Launch) (E : q_E) (f : q_H) (n : Nat) (sb b i : Nat) (c : Int32) (h0 : f sb = some (cSB b c)) (hi : i < 50) : Met l yJ5_inflateIfNeededFor_a7421 wsJ5_inflateIfNeededFor_a7421 ({ frames := 1, cells := 0, slots := 0, locals := 20 }) (q_P E [.ref sb, .ref (E.2.2.2 (200 + i))] f n) (q_Qv E (fun f1 n1 => f = f1 ∧ n = n1)) 0 0 (q_ge E) := by
  refine Met.ofW (cc := cJ5_inflateIfNeededFor_a7421) (maxL := 2) (ret := none) (by decide) rfl ?_
  intro p0_ e0_ s0_ m0_ args0_ below0_ meth0_ c0_ s1_ B hml hv
  obtain ⟨rfl, hA, hW⟩ := hv
  have hx := B.exec
  have hb := B.bytes
  have hr := B.returns
  have hts := atoms_spec (ws := wsJ5_inflateIfNeededFor_a7421) B.pre
  have hown : s0_.vm.findClass RJ5 = some m0_.cls := findClass_of_methodNamed B.named
  have hlocks := B.notSynchronized
  have hS : va_S (q_ge E) s0_.heap s0_.heap [] := va_S.rf
  have iJ4 : ∀ w ∈ wsJ40, w ∈ wsJ5_inflateIfNeededFor_a7421 := by decide +kernel
  have hl := lv_entry ([.ref sb, .ref (E.2.2.2 (200 + i))]) (n := 2) (Nat.le_of_ble_eq_true rfl)
  rw [lg_entry_eq]
  generalize (lg_sl ([.ref sb, .ref (E.2.2.2 (200 + i))]) ++ List.replicate (2 - (lg_sl ([.ref sb, .ref (E.2.2.2 (200 + i))])).length) Slot.unset).toArray = ls at hl ⊢
  have hl : lv_has ls 2 [(0, .ref sb), (1, .ref (E.2.2.2 (200 + i)))] := hl
  have l_h0 := hW.lt h0
  refine va_gets (n := "COMPACT_STRINGS") (v := .int 1) hx hb hA.2.2.1.2.2.2.2.2.2.2.1 hS hown (hts (.fieldLink RJ5 18 "java/lang/String" "COMPACT_STRINGS" "Z") (by decide +kernel)) (fun _ h9 => h9) dJ5_inflateIfNeededFor_a7421_0 ?_
  refine lv_if_eq (tgt := 21) hx hb dJ5_inflateIfNeededFor_a7421_3 (by decide) (fun c_3 => False.elim ((fun h9 => absurd h9 (by decide)) c_3)) (fun c_3 => ?_)
  refine lv_aload_n hx hb dJ5_inflateIfNeededFor_a7421_6 rfl (lv_at hl 0 rfl) ?_
  refine q_get hx hb hts hown hA hW iJ4 h0 rfl 1 (by decide) (hts (.fieldLink RJ5 22 "java/lang/AbstractStringBuilder" "coder" "B") (by decide +kernel)) (fun _ h9 => h9) (v := .int 0) rfl dJ5_inflateIfNeededFor_a7421_7 ?_
  refine lv_aload_n hx hb dJ5_inflateIfNeededFor_a7421_10 rfl (lv_at hl 1 rfl) ?_
  refine q_ci (va_runV (As := []) (rest := [.int 0]) ⟨hx, hb, hml, hown, hts⟩ (kJ0_coder_k l E f n i hi) (cwV 0 hts gJ5_inflateIfNeededFor_a7421_J0_coder_7d493 rfl rfl rfl (by decide +kernel) ⟨(Nat.le_of_ble_eq_true rfl), (Nat.le_of_ble_eq_true rfl)⟩) (q_pStr hA hW hS hi) rfl rfl hl.1 rfl (lv_room (Nat.le_of_ble_eq_true rfl)) dJ5_inflateIfNeededFor_a7421_11 ⟨(Nat.le_of_ble_eq_true rfl), (Nat.le_of_ble_eq_true rfl)⟩) hS (fun r_11 f_11 n_11 H locs hp hW hS => ?_)
  obtain ⟨rfl, rfl, rfl⟩ := hp
  have hW : q_W E (f) n H := hW
  refine lv_icmp_eq (tgt := 21) hx hb dJ5_inflateIfNeededFor_a7421_14 (by decide) (fun c_14 => ?_) (fun c_14 => False.elim ((fun h9 => h9 rfl) c_14))
  exact q_vret hx hb hr hlocks hW hS ⟨rfl, rfl⟩ (Nat.le_of_ble_eq_true rfl) (Nat.le_of_ble_eq_true rfl) dJ5_inflateIfNeededFor_a7421_21

set_option maxHeartbeats 4000000 in
set_option maxRecDepth 100000 in
theorem kJ5_putStringAt_47b60 (l : Launch) (E : q_E) (f : q_H) (n : Nat) (sb b m r rb C : Nat) (W V : List Int32) (c : Int32) (h0 : f sb = some (cSB b c)) (h1 : f b = some (aB E m (tx W))) (h2 : f r = some (cStr rb)) (h3 : f rb = some (aB E V.length (tx V))) (hwv : W.length + V.length ≤ m) (hm : m ≤ 4000) (ho : okb V) : Met l yJ5_putStringAt_47b60 wsJ5_putStringAt_47b60 ({ frames := 2, cells := 0, slots := 0, locals := 63 }) (q_P E [.ref sb, .int (nI W.length), .ref r] f n) (q_Qv E (fun f1 n1 => va_up f b (some (aB E m (tx (W ++ V)))) = f1 ∧ n = n1)) 0 0 (q_ge E) := by
  refine Met.ofW (cc := cJ5_putStringAt_47b60) (maxL := 3) (ret := none) (by decide) rfl ?_
  intro p0_ e0_ s0_ m0_ args0_ below0_ meth0_ c0_ s1_ B hml hv
  obtain ⟨rfl, hA, hW⟩ := hv
  have hx := B.exec
  have hb := B.bytes
  have hr := B.returns
  have hts := atoms_spec (ws := wsJ5_putStringAt_47b60) B.pre
  have hown : s0_.vm.findClass RJ5 = some m0_.cls := findClass_of_methodNamed B.named
  have hlocks := B.notSynchronized
  have hS : va_S (q_ge E) s0_.heap s0_.heap [] := va_S.rf
  have iJ4 : ∀ w ∈ wsJ40, w ∈ wsJ5_putStringAt_47b60 := by decide +kernel
  have hl := lv_entry ([.ref sb, .int (nI W.length), .ref r]) (n := 3) (Nat.le_of_ble_eq_true rfl)
  rw [lg_entry_eq]
  generalize (lg_sl ([.ref sb, .int (nI W.length), .ref r]) ++ List.replicate (3 - (lg_sl ([.ref sb, .int (nI W.length), .ref r])).length) Slot.unset).toArray = ls at hl ⊢
  have hl : lv_has ls 3 [(0, .ref sb), (1, .int (nI W.length)), (2, .ref r)] := hl
  have l_h0 := hW.lt h0
  have l_h1 := hW.lt h1
  have l_h2 := hW.lt h2
  have l_h3 := hW.lt h3
  refine lv_aload_n hx hb dJ5_putStringAt_47b60_0 rfl (lv_at hl 0 rfl) ?_
  refine lv_aload_n hx hb dJ5_putStringAt_47b60_1 rfl (lv_at hl 2 rfl) ?_
  refine q_cv (va_runU (As := [.ref r]) (rest := []) ⟨hx, hb, hml, hown, hts⟩ (kJ5_inflateIfNeededFor_a7421 l E f n sb b r rb c h0 h2) (va_cwU 1 hts gJ5_putStringAt_47b60_J5_inflateIfNeededFor_a7421_u397J4 rfl rfl rfl rfl (by decide +kernel) ⟨(Nat.le_of_ble_eq_true rfl), (Nat.le_of_ble_eq_true rfl)⟩) (q_pV hA hW hS (ci := 1) rfl h0) rfl rfl hl.1 rfl (lv_room (Nat.le_of_ble_eq_true rfl)) dJ5_putStringAt_47b60_2 ⟨(Nat.le_of_ble_eq_true rfl), (Nat.le_of_ble_eq_true rfl)⟩) hS (fun f_2 n_2 H locs hp hW hS => ?_)
  obtain ⟨rfl, rfl⟩ := hp
  have hW : q_W E (f) n H := hW
  refine lv_aload_n hx hb dJ5_putStringAt_47b60_5 rfl (lv_at hl 2 rfl) ?_
  refine lv_aload_n hx hb dJ5_putStringAt_47b60_6 rfl (lv_at hl 0 rfl) ?_
  refine q_get hx hb hts hown hA hW iJ4 h0 rfl 0 (by decide) (hts (.fieldLink RJ5 15 "java/lang/AbstractStringBuilder" "value" "[B") (by decide +kernel)) (fun _ h9 => h9) (v := .ref b) rfl dJ5_putStringAt_47b60_7 ?_
  refine lv_iload_n hx hb dJ5_putStringAt_47b60_10 rfl (lv_at hl 1 rfl) ?_
  refine lv_aload_n hx hb dJ5_putStringAt_47b60_11 rfl (lv_at hl 0 rfl) ?_
  refine q_get hx hb hts hown hA hW iJ4 h0 rfl 1 (by decide) (hts (.fieldLink RJ5 22 "java/lang/AbstractStringBuilder" "coder" "B") (by decide +kernel)) (fun _ h9 => h9) (v := .int 0) rfl dJ5_putStringAt_47b60_12 ?_
  refine q_cv (va_runV (As := [.ref b, .int (nI W.length), .int 0]) (rest := []) ⟨hx, hb, hml, hown, hts⟩ (kJ0_getBytes_840e7 l E f n r rb b m W V h2 h3 h1 (by assumption) (by assumption) (by assumption)) (cwV 3 hts gJ5_putStringAt_47b60_J0_getBytes_840e7 rfl rfl rfl (by decide +kernel) ⟨(Nat.le_of_ble_eq_true rfl), (Nat.le_of_ble_eq_true rfl)⟩) (q_pV hA hW hS (ci := 0) rfl h2) rfl rfl hl.1 rfl (lv_room (Nat.le_of_ble_eq_true rfl)) dJ5_putStringAt_47b60_15 ⟨(Nat.le_of_ble_eq_true rfl), (Nat.le_of_ble_eq_true rfl)⟩) hS (fun f_15 n_15 H locs hp hW hS => ?_)
  obtain ⟨rfl, rfl⟩ := hp
  have hW : q_W E (va_up f b (some (aB E m (tx (W ++ V))))) n H := hW
  exact q_vret hx hb hr hlocks hW hS ⟨rfl, rfl⟩ (Nat.le_of_ble_eq_true rfl) (Nat.le_of_ble_eq_true rfl) dJ5_putStringAt_47b60_18

set_option maxHeartbeats 4000000 in
set_option maxRecDepth 100000 in
theorem kJ5_putStringAt_k (l : Launch) (E : q_E) (f : q_H) (n : Nat) (sb b m i C : Nat) (W : List Int32) (c : Int32) (h0 : f sb = some (cSB b c)) (h1 : f b = some (aB E m (tx W))) (hwv : W.length + (kt i).length ≤ m) (hm : m ≤ 4000) (hi : i < 50) : Met l yJ5_putStringAt_47b60 wsJ5_putStringAt_47b60 ({ frames := 2, cells := 0, slots := 0, locals := 63 }) (q_P E [.ref sb, .int (nI W.length), .ref (E.2.2.2 (200 + i))] f n) (q_Qv E (fun f1 n1 => va_up f b (some (aB E m (tx (W ++ kt i)))) = f1 ∧ n = n1)) 0 0 (q_ge E) := by
  refine Met.ofW (cc := cJ5_putStringAt_47b60) (maxL := 3) (ret := none) (by decide) rfl ?_
  intro p0_ e0_ s0_ m0_ args0_ below0_ meth0_ c0_ s1_ B hml hv
  obtain ⟨rfl, hA, hW⟩ := hv
  have hx := B.exec
  have hb := B.bytes
  have hr := B.returns
  have hts := atoms_spec (ws := wsJ5_putStringAt_47b60) B.pre
  have hown : s0_.vm.findClass RJ5 = some m0_.cls := findClass_of_methodNamed B.named
  have hlocks := B.notSynchronized
  have hS : va_S (q_ge E) s0_.heap s0_.heap [] := va_S.rf
  have iJ4 : ∀ w ∈ wsJ40, w ∈ wsJ5_putStringAt_47b60 := by decide +kernel
  have hl := lv_entry ([.ref sb, .int (nI W.length), .ref (E.2.2.2 (200 + i))]) (n := 3) (Nat.le_of_ble_eq_true rfl)
  rw [lg_entry_eq]
  generalize (lg_sl ([.ref sb, .int (nI W.length), .ref (E.2.2.2 (200 + i))]) ++ List.replicate (3 - (lg_sl ([.ref sb, .int (nI W.length), .ref (E.2.2.2 (200 + i))])).length) Slot.unset).toArray = ls at hl ⊢
  have hl : lv_has ls 3 [(0, .ref sb), (1, .int (nI W.length)), (2, .ref (E.2.2.2 (200 + i)))] := hl
  have l_h0 := hW.lt h0
  have l_h1 := hW.lt h1
  refine lv_aload_n hx hb dJ5_putStringAt_47b60_0 rfl (lv_at hl 0 rfl) ?_
  refine lv_aload_n hx hb dJ5_putStringAt_47b60_1 rfl (lv_at hl 2 rfl) ?_
  refine q_cv (va_runU (As := [.ref (E.2.2.2 (200 + i))]) (rest := []) ⟨hx, hb, hml, hown, hts⟩ (kJ5_inflateIfNeededFor_k l E f n sb b i c h0 (by assumption)) (va_cwU 1 hts gJ5_putStringAt_47b60_J5_inflateIfNeededFor_a7421_u397J4 rfl rfl rfl rfl (by decide +kernel) ⟨(Nat.le_of_ble_eq_true rfl), (Nat.le_of_ble_eq_true rfl)⟩) (q_pV hA hW hS (ci := 1) rfl h0) rfl rfl hl.1 rfl (lv_room (Nat.le_of_ble_eq_true rfl)) dJ5_putStringAt_47b60_2 ⟨(Nat.le_of_ble_eq_true rfl), (Nat.le_of_ble_eq_true rfl)⟩) hS (fun f_2 n_2 H locs hp hW hS => ?_)
  obtain ⟨rfl, rfl⟩ := hp
  have hW : q_W E (f) n H := hW
  refine lv_aload_n hx hb dJ5_putStringAt_47b60_5 rfl (lv_at hl 2 rfl) ?_
  refine lv_aload_n hx hb dJ5_putStringAt_47b60_6 rfl (lv_at hl 0 rfl) ?_
  refine q_get hx hb hts hown hA hW iJ4 h0 rfl 0 (by decide) (hts (.fieldLink RJ5 15 "java/lang/AbstractStringBuilder" "value" "[B") (by decide +kernel)) (fun _ h9 => h9) (v := .ref b) rfl dJ5_putStringAt_47b60_7 ?_
  refine lv_iload_n hx hb dJ5_putStringAt_47b60_10 rfl (lv_at hl 1 rfl) ?_
  refine lv_aload_n hx hb dJ5_putStringAt_47b60_11 rfl (lv_at hl 0 rfl) ?_
  refine q_get hx hb hts hown hA hW iJ4 h0 rfl 1 (by decide) (hts (.fieldLink RJ5 22 "java/lang/AbstractStringBuilder" "coder" "B") (by decide +kernel)) (fun _ h9 => h9) (v := .int 0) rfl dJ5_putStringAt_47b60_12 ?_
  refine q_cv (va_runV (As := [.ref b, .int (nI W.length), .int 0]) (rest := []) ⟨hx, hb, hml, hown, hts⟩ (kJ0_getBytes_k l E f n i b m W h1 (by assumption) (by assumption) (by assumption)) (cwV 3 hts gJ5_putStringAt_47b60_J0_getBytes_840e7 rfl rfl rfl (by decide +kernel) ⟨(Nat.le_of_ble_eq_true rfl), (Nat.le_of_ble_eq_true rfl)⟩) (q_pStr hA hW hS hi) rfl rfl hl.1 rfl (lv_room (Nat.le_of_ble_eq_true rfl)) dJ5_putStringAt_47b60_15 ⟨(Nat.le_of_ble_eq_true rfl), (Nat.le_of_ble_eq_true rfl)⟩) hS (fun f_15 n_15 H locs hp hW hS => ?_)
  obtain ⟨rfl, rfl⟩ := hp
  have hW : q_W E (va_up f b (some (aB E m (tx (W ++ kt i))))) n H := hW
  exact q_vret hx hb hr hlocks hW hS ⟨rfl, rfl⟩ (Nat.le_of_ble_eq_true rfl) (Nat.le_of_ble_eq_true rfl) dJ5_putStringAt_47b60_18

set_option maxHeartbeats 4000000 in
set_option maxRecDepth 100000 in
theorem kJ5_append_cf1ce (l : Launch) (E : q_E) (f : q_H) (n : Nat) (sb b m r rb C : Nat) (W V : List Int32) (h0 : f sb = some (cSB b (nI W.length))) (h1 : f b = some (aB E m (tx W))) (h2 : f r = some (cStr rb)) (h3 : f rb = some (aB E V.length (tx V))) (hq2 : W.length + V.length ≤ C) (hm : m ≤ 2 * C) (hC : C ≤ 2000) (hw : W.length ≤ m) (ho : okb W) (hoV : okb V) (hrb : rb ≠ b) : Met l yJ5_append_cf1ce wsJ5_append_cf1ce ({ frames := 4, cells := 1, slots := 2 * C, locals := 200 }) (q_P E [.ref sb, .ref r] f n) (q_Qq E (fun r0 f1 n1 => ∃ (b1 : Nat) (m1 : Nat), some sb = r0 ∧ f1 sb = some (cSB b1 (nI (W ++ V).length)) ∧ f1 b1 = some (aB E m1 (tx (W ++ V))) ∧ (W ++ V).length ≤ m1 ∧ m1 ≤ 2 * C ∧ (b1 = b ∨ n ≤ b1) ∧ n ≤ n1 ∧ ∀ z9, z9 ≠ sb → z9 ≠ b → z9 < n → f1 z9 = f z9)) 1 (2 * C) (q_ge E) := by
  refine Met.ofW (cc := cJ5_append_cf1ce) (maxL := 3) (ret := (some (.object "java/lang/AbstractStringBuilder"))) (by decide) rfl ?_
  intro p0_ e0_ s0_ m0_ args0_ below0_ meth0_ c0_ s1_ B hml hv
  obtain ⟨rfl, hA, hW⟩ := hv
  have hx := B.exec
  have hb := B.bytes
  have hr := B.returns
  have hts := atoms_spec (ws := wsJ5_append_cf1ce) B.pre
  have hown : s0_.vm.findClass RJ5 = some m0_.cls := findClass_of_methodNamed B.named
  have hlocks := B.notSynchronized
  have hS : va_S (q_ge E) s0_.heap s0_.heap [] := va_S.rf
  have iJ4 : ∀ w ∈ wsJ40, w ∈ wsJ5_append_cf1ce := by decide +kernel
  have hl := lv_entry ([.ref sb, .ref r]) (n := 3) (Nat.le_of_ble_eq_true rfl)
  rw [lg_entry_eq]
  generalize (lg_sl ([.ref sb, .ref r]) ++ List.replicate (3 - (lg_sl ([.ref sb, .ref r])).length) Slot.unset).toArray = ls at hl ⊢
  have hl : lv_has ls 3 [(0, .ref sb), (1, .ref r)] := hl
  have l_h0 := hW.lt h0
  have l_h1 := hW.lt h1
  have l_h2 := hW.lt h2
  have l_h3 := hW.lt h3
  have hbs := ne_ab h0 h1
  have d1 := ne_ci h0 h2 (by decide)
  have d2 := ne_ab h2 h1
  have d3 := ne_ab h0 h3
  refine lv_aload_n hx hb dJ5_append_cf1ce_0 rfl (lv_at hl 1 rfl) ?_
  refine lv_ifnonnull (tgt := 9) hx hb dJ5_append_cf1ce_1 (by decide) ?_
  refine lv_aload_n hx hb dJ5_append_cf1ce_9 rfl (lv_at hl 1 rfl) ?_
  refine q_ci (va_runV (As := []) (rest := []) ⟨hx, hb, hml, hown, hts⟩ (kJ0_length_8abf5 l E f n r rb V.length (tx V) h2 h3) (cwV 0 hts gJ5_append_cf1ce_J0_length_8abf5 rfl rfl rfl (by decide +kernel) ⟨(Nat.le_of_ble_eq_true rfl), (Nat.le_of_ble_eq_true rfl)⟩) (q_pV hA hW hS (ci := 0) rfl h2) rfl rfl hl.1 rfl (lv_room (Nat.le_of_ble_eq_true rfl)) dJ5_append_cf1ce_10 ⟨(by show _ ≤ 1; omega), (by show _ ≤ 2 * C; omega)⟩) hS (fun r_10 f_10 n_10 H locs hp hW hS => ?_)
  obtain ⟨rfl, rfl, rfl⟩ := hp
  have hW : q_W E (f) n H := hW
  refine lv_istore_n (lv' := [(2, .int (nI V.length)), (0, .ref sb), (1, .ref r)]) hx hb dJ5_append_cf1ce_13 rfl hl (by decide) rfl (fun ls hl => ?_)
  refine lv_aload_n hx hb dJ5_append_cf1ce_14 rfl (lv_at hl 1 rfl) ?_
  refine lv_aload_n hx hb dJ5_append_cf1ce_15 rfl (lv_at hl 1 rfl) ?_
  refine q_get hx hb hts hown hA hW iJ4 h0 rfl 3 (by decide) (hts (.fieldLink RJ5 79 "java/lang/AbstractStringBuilder" "count" "I") (by decide +kernel)) (fun _ h9 => h9) (v := .int (nI W.length)) rfl dJ5_append_cf1ce_16 ?_
  refine lv_iload_n hx hb dJ5_append_cf1ce_19 rfl (lv_at hl 0 rfl) ?_
  refine lv_iadd hx hb dJ5_append_cf1ce_20 ?_
  rw [nI_add]
  refine q_cv (va_runU (As := [.int (nI (W.length + V.length))]) (rest := []) ⟨hx, hb, hml, hown, hts⟩ (kJ5_ensureCapacityInternal_d00df l E f n sb b m (W.length + V.length) C W (nI W.length) h0 h1 hq2 (by assumption) (by assumption) (by assumption) (by assumption)) (va_cwU 1 hts gJ5_append_cf1ce_J5_ensureCapacityInternal_d00df_u100J4 rfl rfl rfl rfl (by decide +kernel) ⟨(Nat.le_of_ble_eq_true rfl), (Nat.le_of_ble_eq_true rfl)⟩) (q_pV hA hW hS (ci := 1) rfl h0) rfl rfl hl.1 rfl (lv_room (Nat.le_of_ble_eq_true rfl)) dJ5_append_cf1ce_21 ⟨(by show _ ≤ 1; omega), (by show _ ≤ 2 * C; omega)⟩) hS (fun f_21 n_21 H locs hp hW hS => ?_)
  obtain ⟨b1_21, m1_21, e0_21, e1_21, eq_21, em_21, em4_21, eb_21, en_21, hfr_21⟩ := hp
  have l_e0_21 := hW.lt e0_21
  have l_e1_21 := hW.lt e1_21
  have hr_21 : f_21 r = some (cStr rb) := (hfr_21 _ (by omega) (by omega) (by omega)).trans h2
  have hrb_21 : f_21 rb = some (aB E V.length (tx V)) := (hfr_21 _ (by omega) (by omega) (by omega)).trans h3
  refine lv_aload_n hx hb dJ5_append_cf1ce_24 rfl (lv_at hl 1 rfl) ?_
  refine lv_aload_n hx hb dJ5_append_cf1ce_25 rfl (lv_at hl 1 rfl) ?_
  refine q_get hx hb hts hown hA hW iJ4 e0_21 rfl 3 (by decide) (hts (.fieldLink RJ5 79 "java/lang/AbstractStringBuilder" "count" "I") (by decide +kernel)) (fun _ h9 => h9) (v := .int (nI W.length)) rfl dJ5_append_cf1ce_26 ?_
  refine lv_aload_n hx hb dJ5_append_cf1ce_29 rfl (lv_at hl 2 rfl) ?_
  refine q_cv (va_runU (As := [.int (nI W.length), .ref r]) (rest := []) ⟨hx, hb, hml, hown, hts⟩ (kJ5_putStringAt_47b60 l E f_21 n_21 sb b1_21 m1_21 r rb C W V (nI W.length) e0_21 e1_21 hr_21 hrb_21 eq_21 (by omega) hoV) (va_cwU 2 hts gJ5_append_cf1ce_J5_putStringAt_47b60_u208J4 rfl rfl rfl rfl (by decide +kernel) ⟨(Nat.le_of_ble_eq_true rfl), (Nat.le_of_ble_eq_true rfl)⟩) (q_pV hA hW hS (ci := 1) rfl e0_21) rfl rfl hl.1 rfl (lv_room (Nat.le_of_ble_eq_true rfl)) dJ5_append_cf1ce_30 ⟨(by show _ ≤ 1; omega), (by show _ ≤ 2 * C; omega)⟩) hS (fun f_30 n_30 H locs hp hW hS => ?_)
  obtain ⟨rfl, rfl⟩ := hp
  have hW : q_W E (va_up f_21 b1_21 (some (aB E m1_21 (tx (W ++ V))))) n_21 H := hW
  refine lv_aload_n hx hb dJ5_append_cf1ce_33 rfl (lv_at hl 1 rfl) ?_
  refine lv_dup hx hb dJ5_append_cf1ce_34 rfl ?_
  refine q_get hx hb hts hown hA hW iJ4 (q_ne (by omega) e0_21) rfl 3 (by decide) (hts (.fieldLink RJ5 79 "java/lang/AbstractStringBuilder" "count" "I") (by decide +kernel)) (fun _ h9 => h9) (v := .int (nI W.length)) rfl dJ5_append_cf1ce_35 ?_
  refine lv_iload_n hx hb dJ5_append_cf1ce_38 rfl (lv_at hl 0 rfl) ?_
  refine lv_iadd hx hb dJ5_append_cf1ce_39 ?_
  rw [cat_len]
  refine q_put hx hb hts hown hA hW hS iJ4 tyJ4 tyJ4_ok nmJ4 (q_ne (by omega) e0_21) rfl 3 (by decide) (hts (.fieldLink RJ5 79 "java/lang/AbstractStringBuilder" "count" "I") (by decide +kernel)) (fun _ h9 => h9) rfl rfl rfl (Nat.le_of_ble_eq_true rfl) dJ5_append_cf1ce_40 (fun H locs hW hS => ?_)
  have hW : q_W E (va_up (va_up f_21 b1_21 (some (aB E m1_21 (tx (W ++ V))))) sb (some (cSB b1_21 (nI (W ++ V).length)))) n_21 H := hW
  refine lv_aload_n hx hb dJ5_append_cf1ce_43 rfl (lv_at hl 1 rfl) ?_
  exact q_aret (v := some sb) hx hb hr (Or.inl ⟨_, rfl⟩) hlocks hW hS ⟨b1_21, m1_21, rfl, q_eq, (q_ne (by omega) q_eq), (by rw [List.length_append]; exact eq_21), em4_21, eb_21, en_21, (fun q g0 g1 g2 => (q_ne (by omega) (q_ne (by omega) ((hfr_21 _ (by omega) (by omega) (by omega)).trans rfl))))⟩ (by show _ ≤ 1; omega) (by show _ ≤ 2 * C; omega) dJ5_append_cf1ce_44

set_option maxHeartbeats 4000000 in
set_option maxRecDepth 100000 in
theorem kJ5_append_k (l : Launch) (E : q_E) (f : q_H) (n : Nat) (sb b m i C : Nat) (W : List Int32) (h0 : f sb = some (cSB b (nI W.length))) (h1 : f b = some (aB E m (tx W))) (hq2 : W.length + (kt i).length ≤ C) (hm : m ≤ 2 * C) (hC : C ≤ 2000) (hw : W.length ≤ m) (ho : okb W) (hi : i < 50) : Met l yJ5_append_cf1ce wsJ5_append_cf1ce ({ frames := 4, cells := 1, slots := 2 * C, locals := 200 }) (q_P E [.ref sb, .ref (E.2.2.2 (200 + i))] f n) (q_Qq E (fun r0 f1 n1 => ∃ (b1 : Nat) (m1 : Nat), some sb = r0 ∧ f1 sb = some (cSB b1 (nI (W ++ kt i).length)) ∧ f1 b1 = some (aB E m1 (tx (W ++ kt i))) ∧ (W ++ kt i).length ≤ m1 ∧ m1 ≤ 2 * C ∧ (b1 = b ∨ n ≤ b1) ∧ n ≤ n1 ∧ ∀ z9, z9 ≠ sb → z9 ≠ b → z9 < n → f1 z9 = f z9)) 1 (2 * C) (q_ge E) := by
  refine Met.ofW (cc := cJ5_append_cf1ce) (maxL := 3) (ret := (some (.object "java/lang/AbstractStringBuilder"))) (by decide) rfl ?_
  intro p0_ e0_ s0_ m0_ args0_ below0_ meth0_ c0_ s1_ B hml hv
  obtain ⟨rfl, hA, hW⟩ := hv
  have hx := B.exec
  have hb := B.bytes
  have hr := B.returns
  have hts := atoms_spec (ws := wsJ5_append_cf1ce) B.pre
  have hown : s0_.vm.findClass RJ5 = some m0_.cls := findClass_of_methodNamed B.named
  have hlocks := B.notSynchronized
  have hS : va_S (q_ge E) s0_.heap s0_.heap [] := va_S.rf
  have iJ4 : ∀ w ∈ wsJ40, w ∈ wsJ5_append_cf1ce := by decide +kernel
  have hl := lv_entry ([.ref sb, .ref (E.2.2.2 (200 + i))]) (n := 3) (Nat.le_of_ble_eq_true rfl)
  rw [lg_entry_eq]
  generalize (lg_sl ([.ref sb, .ref (E.2.2.2 (200 + i))]) ++ List.replicate (3 - (lg_sl ([.ref sb, .ref (E.2.2.2 (200 + i))])).length) Slot.unset).toArray = ls at hl ⊢
  have hl : lv_has ls 3 [(0, .ref sb), (1, .ref (E.2.2.2 (200 + i)))] := hl
  have l_h0 := hW.lt h0
  have l_h1 := hW.lt h1
  have hbs := ne_ab h0 h1
  refine lv_aload_n hx hb dJ5_append_cf1ce_0 rfl (lv_at hl 1 rfl) ?_
  refine lv_ifnonnull (tgt := 9) hx hb dJ5_append_cf1ce_1 (by decide) ?_
  refine lv_aload_n hx hb dJ5_append_cf1ce_9 rfl (lv_at hl 1 rfl) ?_
  refine q_ci (va_runV (As := []) (rest := []) ⟨hx, hb, hml, hown, hts⟩ (kJ0_length_k l E f n i hi) (cwV 0 hts gJ5_append_cf1ce_J0_length_8abf5 rfl rfl rfl (by decide +kernel) ⟨(Nat.le_of_ble_eq_true rfl), (Nat.le_of_ble_eq_true rfl)⟩) (q_pStr hA hW hS hi) rfl rfl hl.1 rfl (lv_room (Nat.le_of_ble_eq_true rfl)) dJ5_append_cf1ce_10 ⟨(by show _ ≤ 1; omega), (by show _ ≤ 2 * C; omega)⟩) hS (fun r_10 f_10 n_10 H locs hp hW hS => ?_)
  obtain ⟨rfl, rfl, rfl⟩ := hp
  have hW : q_W E (f) n H := hW
  refine lv_istore_n (lv' := [(2, .int (nI (kt i).length)), (0, .ref sb), (1, .ref (E.2.2.2 (200 + i)))]) hx hb dJ5_append_cf1ce_13 rfl hl (by decide) rfl (fun ls hl => ?_)
  refine lv_aload_n hx hb dJ5_append_cf1ce_14 rfl (lv_at hl 1 rfl) ?_
  refine lv_aload_n hx hb dJ5_append_cf1ce_15 rfl (lv_at hl 1 rfl) ?_
  refine q_get hx hb hts hown hA hW iJ4 h0 rfl 3 (by decide) (hts (.fieldLink RJ5 79 "java/lang/AbstractStringBuilder" "count" "I") (by decide +kernel)) (fun _ h9 => h9) (v := .int (nI W.length)) rfl dJ5_append_cf1ce_16 ?_
  refine lv_iload_n hx hb dJ5_append_cf1ce_19 rfl (lv_at hl 0 rfl) ?_
  refine lv_iadd hx hb dJ5_append_cf1ce_20 ?_
  rw [nI_add]
  refine q_cv (va_runU (As := [.int (nI (W.length + (kt i).length))]) (rest := []) ⟨hx, hb, hml, hown, hts⟩ (kJ5_ensureCapacityInternal_d00df l E f n sb b m (W.length + (kt i).length) C W (nI W.length) h0 h1 hq2 (by assumption) (by assumption) (by assumption) (by assumption)) (va_cwU 1 hts gJ5_append_cf1ce_J5_ensureCapacityInternal_d00df_u100J4 rfl rfl rfl rfl (by decide +kernel) ⟨(Nat.le_of_ble_eq_true rfl), (Nat.le_of_ble_eq_true rfl)⟩) (q_pV hA hW hS (ci := 1) rfl h0) rfl rfl hl.1 rfl (lv_room (Nat.le_of_ble_eq_true rfl)) dJ5_append_cf1ce_21 ⟨(by show _ ≤ 1; omega), (by show _ ≤ 2 * C; omega)⟩) hS (fun f_21 n_21 H locs hp hW hS => ?_)
  obtain ⟨b1_21, m1_21, e0_21, e1_21, eq_21, em_21, em4_21, eb_21, en_21, hfr_21⟩ := hp
  have l_e0_21 := hW.lt e0_21
  have l_e1_21 := hW.lt e1_21
  refine lv_aload_n hx hb dJ5_append_cf1ce_24 rfl (lv_at hl 1 rfl) ?_
  refine lv_aload_n hx hb dJ5_append_cf1ce_25 rfl (lv_at hl 1 rfl) ?_
  refine q_get hx hb hts hown hA hW iJ4 e0_21 rfl 3 (by decide) (hts (.fieldLink RJ5 79 "java/lang/AbstractStringBuilder" "count" "I") (by decide +kernel)) (fun _ h9 => h9) (v := .int (nI W.length)) rfl dJ5_append_cf1ce_26 ?_
  refine lv_aload_n hx hb dJ5_append_cf1ce_29 rfl (lv_at hl 2 rfl) ?_
  refine q_cv (va_runU (As := [.int (nI W.length), .ref (E.2.2.2 (200 + i))]) (rest := []) ⟨hx, hb, hml, hown, hts⟩ (kJ5_putStringAt_k l E f_21 n_21 sb b1_21 m1_21 i C W (nI W.length) e0_21 e1_21 eq_21 (by omega) hi) (va_cwU 2 hts gJ5_append_cf1ce_J5_putStringAt_47b60_u208J4 rfl rfl rfl rfl (by decide +kernel) ⟨(Nat.le_of_ble_eq_true rfl), (Nat.le_of_ble_eq_true rfl)⟩) (q_pV hA hW hS (ci := 1) rfl e0_21) rfl rfl hl.1 rfl (lv_room (Nat.le_of_ble_eq_true rfl)) dJ5_append_cf1ce_30 ⟨(by show _ ≤ 1; omega), (by show _ ≤ 2 * C; omega)⟩) hS (fun f_30 n_30 H locs hp hW hS => ?_)
  obtain ⟨rfl, rfl⟩ := hp
  have hW : q_W E (va_up f_21 b1_21 (some (aB E m1_21 (tx (W ++ kt i))))) n_21 H := hW
  refine lv_aload_n hx hb dJ5_append_cf1ce_33 rfl (lv_at hl 1 rfl) ?_
  refine lv_dup hx hb dJ5_append_cf1ce_34 rfl ?_
  refine q_get hx hb hts hown hA hW iJ4 (q_ne (by omega) e0_21) rfl 3 (by decide) (hts (.fieldLink RJ5 79 "java/lang/AbstractStringBuilder" "count" "I") (by decide +kernel)) (fun _ h9 => h9) (v := .int (nI W.length)) rfl dJ5_append_cf1ce_35 ?_
  refine lv_iload_n hx hb dJ5_append_cf1ce_38 rfl (lv_at hl 0 rfl) ?_
  refine lv_iadd hx hb dJ5_append_cf1ce_39 ?_
  rw [cat_len]
  refine q_put hx hb hts hown hA hW hS iJ4 tyJ4 tyJ4_ok nmJ4 (q_ne (by omega) e0_21) rfl 3 (by decide) (hts (.fieldLink RJ5 79 "java/lang/AbstractStringBuilder" "count" "I") (by decide +kernel)) (fun _ h9 => h9) rfl rfl rfl (Nat.le_of_ble_eq_true rfl) dJ5_append_cf1ce_40 (fun H locs hW hS => ?_)
  have hW : q_W E (va_up (va_up f_21 b1_21 (some (aB E m1_21 (tx (W ++ kt i))))) sb (some (cSB b1_21 (nI (W ++ kt i).length)))) n_21 H := hW
  refine lv_aload_n hx hb dJ5_append_cf1ce_43 rfl (lv_at hl 1 rfl) ?_
  exact q_aret (v := some sb) hx hb hr (Or.inl ⟨_, rfl⟩) hlocks hW hS ⟨b1_21, m1_21, rfl, q_eq, (q_ne (by omega) q_eq), (by rw [List.length_append]; exact eq_21), em4_21, eb_21, en_21, (fun q g0 g1 g2 => (q_ne (by omega) (q_ne (by omega) ((hfr_21 _ (by omega) (by omega) (by omega)).trans rfl))))⟩ (by show _ ≤ 1; omega) (by show _ ≤ 2 * C; omega) dJ5_append_cf1ce_44

set_option maxHeartbeats 4000000 in
set_option maxRecDepth 100000 in
theorem kJ4_append_15ec4 (l : Launch) (E : q_E) (f : q_H) (n : Nat) (sb b m r rb C : Nat) (W V : List Int32) (h0 : f sb = some (cSB b (nI W.length))) (h1 : f b = some (aB E m (tx W))) (h2 : f r = some (cStr rb)) (h3 : f rb = some (aB E V.length (tx V))) (hq2 : W.length + V.length ≤ C) (hm : m ≤ 2 * C) (hC : C ≤ 2000) (hw : W.length ≤ m) (ho : okb W) (hoV : okb V) (hrb : rb ≠ b) : Met l yJ4_append_15ec4 wsJ4_append_15ec4 ({ frames := 5, cells := 1, slots := 2 * C, locals := 300 }) (q_P E [.ref sb, .ref r] f n) (q_Qq E (fun r0 f1 n1 => ∃ (b1 : Nat) (m1 : Nat), some sb = r0 ∧ f1 sb = some (cSB b1 (nI (W ++ V).length)) ∧ f1 b1 = some (aB E m1 (tx (W ++ V))) ∧ (W ++ V).length ≤ m1 ∧ m1 ≤ 2 * C ∧ (b1 = b ∨ n ≤ b1) ∧ n ≤ n1 ∧ ∀ z9, z9 ≠ sb → z9 ≠ b → z9 < n → f1 z9 = f z9)) 1 (2 * C) (q_ge E) := by
  refine Met.ofW (cc := cJ4_append_15ec4) (maxL := 2) (ret := (some (.object "java/lang/StringBuilder"))) (by decide) rfl ?_
  intro p0_ e0_ s0_ m0_ args0_ below0_ meth0_ c0_ s1_ B hml hv
  obtain ⟨rfl, hA, hW⟩ := hv
  have hx := B.exec
  have hb := B.bytes
  have hr := B.returns
  have hts := atoms_spec (ws := wsJ4_append_15ec4) B.pre
  have hown : s0_.vm.findClass RJ4 = some m0_.cls := findClass_of_methodNamed B.named
  have hlocks := B.notSynchronized
  have hS : va_S (q_ge E) s0_.heap s0_.heap [] := va_S.rf
  have hl := lv_entry ([.ref sb, .ref r]) (n := 2) (Nat.le_of_ble_eq_true rfl)
  rw [lg_entry_eq]
  generalize (lg_sl ([.ref sb, .ref r]) ++ List.replicate (2 - (lg_sl ([.ref sb, .ref r])).length) Slot.unset).toArray = ls at hl ⊢
  have hl : lv_has ls 2 [(0, .ref sb), (1, .ref r)] := hl
  have l_h0 := hW.lt h0
  have l_h1 := hW.lt h1
  have l_h2 := hW.lt h2
  have l_h3 := hW.lt h3
  have hbs := ne_ab h0 h1
  have d1 := ne_ci h0 h2 (by decide)
  have d2 := ne_ab h2 h1
  have d3 := ne_ab h0 h3
  refine lv_aload_n hx hb dJ4_append_15ec4_0 rfl (lv_at hl 0 rfl) ?_
  refine lv_aload_n hx hb dJ4_append_15ec4_1 rfl (lv_at hl 1 rfl) ?_
  refine q_cq (va_runSU (hA.1.1 1 _ rfl).2 (As := [.ref r]) (rest := []) ⟨hx, hb, hml, hown, hts⟩ (kJ5_append_cf1ce l E f n sb b m r rb C W V h0 h1 h2 h3 (by assumption) (by assumption) (by assumption) (by assumption) (by assumption) (by assumption) (by assumption)) (va_cwSU 1 hts gJ4_append_15ec4_J5_append_cf1ce_s29 rfl rfl rfl (by decide +kernel) ⟨(Nat.le_of_ble_eq_true rfl), (Nat.le_of_ble_eq_true rfl)⟩) (q_pV hA hW hS (ci := 1) rfl h0) rfl rfl hl.1 rfl (lv_room (Nat.le_of_ble_eq_true rfl)) dJ4_append_15ec4_2 ⟨(by show _ ≤ 1; omega), (by show _ ≤ 2 * C; omega)⟩) hS (fun r_2 f_2 n_2 H locs hp hW hS => ?_)
  obtain ⟨b1_2, m1_2, rfl, e0_2, e1_2, el_2, em4_2, eb_2, en_2, hfr_2⟩ := hp
  have l_e0_2 := hW.lt e0_2
  have l_e1_2 := hW.lt e1_2
  have hr_2 : f_2 r = some (cStr rb) := (hfr_2 _ (by omega) (by omega) (by omega)).trans h2
  have hrb_2 : f_2 rb = some (aB E V.length (tx V)) := (hfr_2 _ (by omega) (by omega) (by omega)).trans h3
  refine lv_pop hx hb dJ4_append_15ec4_5 rfl ?_
  refine lv_aload_n hx hb dJ4_append_15ec4_6 rfl (lv_at hl 0 rfl) ?_
  exact q_aret (v := some sb) hx hb hr (Or.inl ⟨_, rfl⟩) hlocks hW hS ⟨b1_2, m1_2, rfl, e0_2, e1_2, el_2, em4_2, eb_2, en_2, (fun q g0 g1 g2 => ((hfr_2 _ (by omega) (by omega) (by omega)).trans rfl))⟩ (by show _ ≤ 1; omega) (by show _ ≤ 2 * C; omega) dJ4_append_15ec4_7

set_option maxHeartbeats 4000000 in
set_option maxRecDepth 100000 in
theorem kJ4_append_k (l : Launch) (E : q_E) (f : q_H) (n : Nat) (sb b m i C : Nat) (W : List Int32) (h0 : f sb = some (cSB b (nI W.length))) (h1 : f b = some (aB E m (tx W))) (hq2 : W.length + (kt i).length ≤ C) (hm : m ≤ 2 * C) (hC : C ≤ 2000) (hw : W.length ≤ m) (ho : okb W) (hi : i < 50) : Met l yJ4_append_15ec4 wsJ4_append_15ec4 ({ frames := 5, cells := 1, slots := 2 * C, locals := 300 }) (q_P E [.ref sb, .ref (E.2.2.2 (200 + i))] f n) (q_Qq E (fun r0 f1 n1 => ∃ (b1 : Nat) (m1 : Nat), some sb = r0 ∧ f1 sb = some (cSB b1 (nI (W ++ kt i).length)) ∧ f1 b1 = some (aB E m1 (tx (W ++ kt i))) ∧ (W ++ kt i).length ≤ m1 ∧ m1 ≤ 2 * C ∧ (b1 = b ∨ n ≤ b1) ∧ n ≤ n1 ∧ ∀ z9, z9 ≠ sb → z9 ≠ b → z9 < n → f1 z9 = f z9)) 1 (2 * C) (q_ge E) := by
  refine Met.ofW (cc := cJ4_append_15ec4) (maxL := 2) (ret := (some (.object "java/lang/StringBuilder"))) (by decide) rfl ?_
  intro p0_ e0_ s0_ m0_ args0_ below0_ meth0_ c0_ s1_ B hml hv
  obtain ⟨rfl, hA, hW⟩ := hv
  have hx := B.exec
  have hb := B.bytes
  have hr := B.returns
  have hts := atoms_spec (ws := wsJ4_append_15ec4) B.pre
  have hown : s0_.vm.findClass RJ4 = some m0_.cls := findClass_of_methodNamed B.named
  have hlocks := B.notSynchronized
  have hS : va_S (q_ge E) s0_.heap s0_.heap [] := va_S.rf
  have hl := lv_entry ([.ref sb, .ref (E.2.2.2 (200 + i))]) (n := 2) (Nat.le_of_ble_eq_true rfl)
  rw [lg_entry_eq]
  generalize (lg_sl ([.ref sb, .ref (E.2.2.2 (200 + i))]) ++ List.replicate (2 - (lg_sl ([.ref sb, .ref (E.2.2.2 (200 + i))])).length) Slot.unset).toArray = ls at hl ⊢
  have hl : lv_has ls 2 [(0, .ref sb), (1, .ref (E.2.2.2 (200 + i)))] := hl
  have l_h0 := hW.lt h0
  have l_h1 := hW.lt h1
  have hbs := ne_ab h0 h1
  refine lv_aload_n hx hb dJ4_append_15ec4_0 rfl (lv_at hl 0 rfl) ?_
  refine lv_aload_n hx hb dJ4_append_15ec4_1 rfl (lv_at hl 1 rfl) ?_
  refine q_cq (va_runSU (hA.1.1 1 _ rfl).2 (As := [.ref (E.2.2.2 (200 + i))]) (rest := []) ⟨hx, hb, hml, hown, hts⟩ (kJ5_append_k l E f n sb b m i C W h0 h1 (by assumption) (by assumption) (by assumption) (by assumption) (by assumption) (by assumption)) (va_cwSU 1 hts gJ4_append_15ec4_J5_append_cf1ce_s29 rfl rfl rfl (by decide +kernel) ⟨(Nat.le_of_ble_eq_true rfl), (Nat.le_of_ble_eq_true rfl)⟩) (q_pV hA hW hS (ci := 1) rfl h0) rfl rfl hl.1 rfl (lv_room (Nat.le_of_ble_eq_true rfl)) dJ4_append_15ec4_2 ⟨(by show _ ≤ 1; omega), (by show _ ≤ 2 * C; omega)⟩) hS (fun r_2 f_2 n_2 H locs hp hW hS => ?_)
  obtain ⟨b1_2, m1_2, rfl, e0_2, e1_2, el_2, em4_2, eb_2, en_2, hfr_2⟩ := hp
  have l_e0_2 := hW.lt e0_2
  have l_e1_2 := hW.lt e1_2
  refine lv_pop hx hb dJ4_append_15ec4_5 rfl ?_
  refine lv_aload_n hx hb dJ4_append_15ec4_6 rfl (lv_at hl 0 rfl) ?_
  exact q_aret (v := some sb) hx hb hr (Or.inl ⟨_, rfl⟩) hlocks hW hS ⟨b1_2, m1_2, rfl, e0_2, e1_2, el_2, em4_2, eb_2, en_2, (fun q g0 g1 g2 => ((hfr_2 _ (by omega) (by omega) (by omega)).trans rfl))⟩ (by show _ ≤ 1; omega) (by show _ ≤ 2 * C; omega) dJ4_append_15ec4_7

set_option maxHeartbeats 4000000 in
set_option maxRecDepth 100000 in
theorem kJ4_append_cf468 (l : Launch) (E : q_E) (f : q_H) (n : Nat) (sb b m k C : Nat) (W : List Int32) (h0 : f sb = some (cSB b (nI W.length))) (h1 : f b = some (aB E m (tx W))) (hq2 : W.length + 1 ≤ C) (hm : m ≤ 2 * C) (hC : C ≤ 2000) (hw : W.length ≤ m) (ho : okb W) (hk : k < 128) : Met l yJ4_append_cf468 wsJ4_append_cf468 ({ frames := 5, cells := 1, slots := 2 * C, locals := 112 }) (q_P E [.ref sb, .int (nI k)] f n) (q_Qq E (fun r0 f1 n1 => ∃ (b1 : Nat) (m1 : Nat), some sb = r0 ∧ f1 sb = some (cSB b1 (nI (W ++ [nI k]).length)) ∧ f1 b1 = some (aB E m1 (tx (W ++ [nI k]))) ∧ (W ++ [nI k]).length ≤ m1 ∧ m1 ≤ 2 * C ∧ (b1 = b ∨ n ≤ b1) ∧ n ≤ n1 ∧ ∀ z9, z9 ≠ sb → z9 ≠ b → z9 < n → f1 z9 = f z9)) 1 (2 * C) (q_ge E) := by
  refine Met.ofW (cc := cJ4_append_cf468) (maxL := 2) (ret := (some (.object "java/lang/StringBuilder"))) (by decide) rfl ?_
  intro p0_ e0_ s0_ m0_ args0_ below0_ meth0_ c0_ s1_ B hml hv
  obtain ⟨rfl, hA, hW⟩ := hv
  have hx := B.exec
  have hb := B.bytes
  have hr := B.returns
  have hts := atoms_spec (ws := wsJ4_append_cf468) B.pre
  have hown : s0_.vm.findClass RJ4 = some m0_.cls := findClass_of_methodNamed B.named
  have hlocks := B.notSynchronized
  have hS : va_S (q_ge E) s0_.heap s0_.heap [] := va_S.rf
  have hl := lv_entry ([.ref sb, .int (nI k)]) (n := 2) (Nat.le_of_ble_eq_true rfl)
  rw [lg_entry_eq]
  generalize (lg_sl ([.ref sb, .int (nI k)]) ++ List.replicate (2 - (lg_sl ([.ref sb, .int (nI k)])).length) Slot.unset).toArray = ls at hl ⊢
  have hl : lv_has ls 2 [(0, .ref sb), (1, .int (nI k))] := hl
  have l_h0 := hW.lt h0
  have l_h1 := hW.lt h1
  have hbs := ne_ab h0 h1
  refine lv_aload_n hx hb dJ4_append_cf468_0 rfl (lv_at hl 0 rfl) ?_
  refine lv_iload_n hx hb dJ4_append_cf468_1 rfl (lv_at hl 1 rfl) ?_
  refine q_cq (va_runSU (hA.1.1 1 _ rfl).2 (As := [.int (nI k)]) (rest := []) ⟨hx, hb, hml, hown, hts⟩ (kJ5_append_3fe6f l E f n sb b m k C W h0 h1 (by assumption) (by assumption) (by assumption) (by assumption) (by assumption) (by assumption)) (va_cwSU 1 hts gJ4_append_cf468_J5_append_3fe6f_s50 rfl rfl rfl (by decide +kernel) ⟨(Nat.le_of_ble_eq_true rfl), (Nat.le_of_ble_eq_true rfl)⟩) (q_pV hA hW hS (ci := 1) rfl h0) rfl rfl hl.1 rfl (lv_room (Nat.le_of_ble_eq_true rfl)) dJ4_append_cf468_2 ⟨(by show _ ≤ 1; omega), (by show _ ≤ 2 * C; omega)⟩) hS (fun r_2 f_2 n_2 H locs hp hW hS => ?_)
  obtain ⟨b1_2, m1_2, rfl, e0_2, e1_2, el_2, em4_2, eb_2, en_2, hfr_2⟩ := hp
  have l_e0_2 := hW.lt e0_2
  have l_e1_2 := hW.lt e1_2
  refine lv_pop hx hb dJ4_append_cf468_5 rfl ?_
  refine lv_aload_n hx hb dJ4_append_cf468_6 rfl (lv_at hl 0 rfl) ?_
  exact q_aret (v := some sb) hx hb hr (Or.inl ⟨_, rfl⟩) hlocks hW hS ⟨b1_2, m1_2, rfl, e0_2, e1_2, el_2, em4_2, eb_2, en_2, (fun q g0 g1 g2 => ((hfr_2 _ (by omega) (by omega) (by omega)).trans rfl))⟩ (by show _ ≤ 1; omega) (by show _ ≤ 2 * C; omega) dJ4_append_cf468_7

theorem gs_100 : ∀ k, k < 100 → (-100 : Int32) < -nI k := gc_lt
set_option maxHeartbeats 4000000 in
set_option maxRecDepth 100000 in
theorem kJ6_stringSize_1 (l : Launch) (E : q_E) (f : q_H) (n : Nat) (k : Nat)  (hk : k < 10) : Met l yJ6_stringSize_0f7a4 wsJ6_stringSize_0f7a4 ({ frames := 0, cells := 0, slots := 0, locals := 0 }) (q_P E [.int (nI k)] f n) (q_Qi E (fun r f1 n1 => 1 = r ∧ f = f1 ∧ n = n1)) 0 0 (q_ge E) := by
  refine Met.ofW (cc := cJ6_stringSize_0f7a4) (maxL := 4) (ret := (some .int)) (by decide) rfl ?_
  intro p0_ e0_ s0_ m0_ args0_ below0_ meth0_ c0_ s1_ B hml hv
  obtain ⟨rfl, hA, hW⟩ := hv
  have hx := B.exec
  have hb := B.bytes
  have hr := B.returns
  have hts := atoms_spec (ws := wsJ6_stringSize_0f7a4) B.pre
  have hown : s0_.vm.findClass RJ6 = some m0_.cls := findClass_of_methodNamed B.named
  have hlocks := B.notSynchronized
  have hS : va_S (q_ge E) s0_.heap s0_.heap [] := va_S.rf
  have hl := lv_entry ([.int (nI k)]) (n := 4) (Nat.le_of_ble_eq_true rfl)
  rw [lg_entry_eq]
  generalize (lg_sl ([.int (nI k)]) ++ List.replicate (4 - (lg_sl ([.int (nI k)])).length) Slot.unset).toArray = ls at hl ⊢
  have hl : lv_has ls 4 [(0, .int (nI k))] := hl
  refine lv_iconst (v := 1) hx hb dJ6_stringSize_0f7a4_0 (by decide) ?_
  refine lv_istore_n (lv' := [(1, .int 1), (0, .int (nI k))]) hx hb dJ6_stringSize_0f7a4_1 rfl hl (by decide) rfl (fun ls hl => ?_)
  refine lv_iload_n hx hb dJ6_stringSize_0f7a4_2 rfl (lv_at hl 1 rfl) ?_
  refine lv_if_lt (tgt := 11) hx hb dJ6_stringSize_0f7a4_3 (by decide) (fun c_3 => absurd c_3 (nI_pos (by omega))) (fun c_3 => ?_)
  refine lv_iconst (v := 0) hx hb dJ6_stringSize_0f7a4_6 (by decide) ?_
  refine lv_istore_n (lv' := [(1, .int 0), (0, .int (nI k))]) hx hb dJ6_stringSize_0f7a4_7 rfl hl (by decide) rfl (fun ls hl => ?_)
  refine lv_iload_n hx hb dJ6_stringSize_0f7a4_8 rfl (lv_at hl 1 rfl) ?_
  refine lv_ineg hx hb dJ6_stringSize_0f7a4_9 ?_
  refine lv_istore_n (lv' := [(0, .int (-(nI k))), (1, .int 0)]) hx hb dJ6_stringSize_0f7a4_10 rfl hl (by decide) rfl (fun ls hl => ?_)
  refine lv_bipush (v := (-10)) hx hb dJ6_stringSize_0f7a4_11 (by decide) ?_
  refine lv_istore_n (lv' := [(2, .int (-10)), (0, .int (-(nI k))), (1, .int 0)]) hx hb dJ6_stringSize_0f7a4_13 rfl hl (by decide) rfl (fun ls hl => ?_)
  refine lv_iconst (v := 1) hx hb dJ6_stringSize_0f7a4_14 (by decide) ?_
  refine lv_istore_n (lv' := [(3, .int 1), (2, .int (-10)), (0, .int (-(nI k))), (1, .int 0)]) hx hb dJ6_stringSize_0f7a4_15 rfl hl (by decide) rfl (fun ls hl => ?_)
  refine lv_iload_n hx hb dJ6_stringSize_0f7a4_16 rfl (lv_at hl 0 rfl) ?_
  refine lv_bipush (v := 10) hx hb dJ6_stringSize_0f7a4_17 (by decide) ?_
  refine lv_icmp_ge (tgt := 42) hx hb dJ6_stringSize_0f7a4_19 (by decide) (fun c_19 => absurd c_19 (by decide)) (fun c_19 => ?_)
  refine lv_iload_n hx hb dJ6_stringSize_0f7a4_22 rfl (lv_at hl 2 rfl) ?_
  refine lv_iload_n hx hb dJ6_stringSize_0f7a4_23 rfl (lv_at hl 1 rfl) ?_
  refine lv_icmp_le (tgt := 31) hx hb dJ6_stringSize_0f7a4_24 (by decide) (fun c_24 => absurd c_24 (Int32.not_le.mpr (gs_10 k hk))) (fun c_24 => ?_)
  refine lv_iload_n hx hb dJ6_stringSize_0f7a4_27 rfl (lv_at hl 0 rfl) ?_
  refine lv_iload_n hx hb dJ6_stringSize_0f7a4_28 rfl (lv_at hl 3 rfl) ?_
  refine lv_iadd hx hb dJ6_stringSize_0f7a4_29 ?_
  rw [show (1 : Int32) + 0 = 1 from by decide]
  exact q_iret hx hb hr hlocks hW hS ⟨rfl, rfl, rfl⟩ (Nat.le_of_ble_eq_true rfl) (Nat.le_of_ble_eq_true rfl) dJ6_stringSize_0f7a4_30

set_option maxHeartbeats 4000000 in
set_option maxRecDepth 100000 in
theorem kJ6_stringSize_2 (l : Launch) (E : q_E) (f : q_H) (n : Nat) (k : Nat)  (hk : k < 100) (hk1 : ¬ k < 10) : Met l yJ6_stringSize_0f7a4 wsJ6_stringSize_0f7a4 ({ frames := 0, cells := 0, slots := 0, locals := 0 }) (q_P E [.int (nI k)] f n) (q_Qi E (fun r f1 n1 => 2 = r ∧ f = f1 ∧ n = n1)) 0 0 (q_ge E) := by
  refine Met.ofW (cc := cJ6_stringSize_0f7a4) (maxL := 4) (ret := (some .int)) (by decide) rfl ?_
  intro p0_ e0_ s0_ m0_ args0_ below0_ meth0_ c0_ s1_ B hml hv
  obtain ⟨rfl, hA, hW⟩ := hv
  have hx := B.exec
  have hb := B.bytes
  have hr := B.returns
  have hts := atoms_spec (ws := wsJ6_stringSize_0f7a4) B.pre
  have hown : s0_.vm.findClass RJ6 = some m0_.cls := findClass_of_methodNamed B.named
  have hlocks := B.notSynchronized
  have hS : va_S (q_ge E) s0_.heap s0_.heap [] := va_S.rf
  have hl := lv_entry ([.int (nI k)]) (n := 4) (Nat.le_of_ble_eq_true rfl)
  rw [lg_entry_eq]
  generalize (lg_sl ([.int (nI k)]) ++ List.replicate (4 - (lg_sl ([.int (nI k)])).length) Slot.unset).toArray = ls at hl ⊢
  have hl : lv_has ls 4 [(0, .int (nI k))] := hl
  refine lv_iconst (v := 1) hx hb dJ6_stringSize_0f7a4_0 (by decide) ?_
  refine lv_istore_n (lv' := [(1, .int 1), (0, .int (nI k))]) hx hb dJ6_stringSize_0f7a4_1 rfl hl (by decide) rfl (fun ls hl => ?_)
  refine lv_iload_n hx hb dJ6_stringSize_0f7a4_2 rfl (lv_at hl 1 rfl) ?_
  refine lv_if_lt (tgt := 11) hx hb dJ6_stringSize_0f7a4_3 (by decide) (fun c_3 => absurd c_3 (nI_pos (by omega))) (fun c_3 => ?_)
  refine lv_iconst (v := 0) hx hb dJ6_stringSize_0f7a4_6 (by decide) ?_
  refine lv_istore_n (lv' := [(1, .int 0), (0, .int (nI k))]) hx hb dJ6_stringSize_0f7a4_7 rfl hl (by decide) rfl (fun ls hl => ?_)
  refine lv_iload_n hx hb dJ6_stringSize_0f7a4_8 rfl (lv_at hl 1 rfl) ?_
  refine lv_ineg hx hb dJ6_stringSize_0f7a4_9 ?_
  refine lv_istore_n (lv' := [(0, .int (-(nI k))), (1, .int 0)]) hx hb dJ6_stringSize_0f7a4_10 rfl hl (by decide) rfl (fun ls hl => ?_)
  refine lv_bipush (v := (-10)) hx hb dJ6_stringSize_0f7a4_11 (by decide) ?_
  refine lv_istore_n (lv' := [(2, .int (-10)), (0, .int (-(nI k))), (1, .int 0)]) hx hb dJ6_stringSize_0f7a4_13 rfl hl (by decide) rfl (fun ls hl => ?_)
  refine lv_iconst (v := 1) hx hb dJ6_stringSize_0f7a4_14 (by decide) ?_
  refine lv_istore_n (lv' := [(3, .int 1), (2, .int (-10)), (0, .int (-(nI k))), (1, .int 0)]) hx hb dJ6_stringSize_0f7a4_15 rfl hl (by decide) rfl (fun ls hl => ?_)
  refine lv_iload_n hx hb dJ6_stringSize_0f7a4_16 rfl (lv_at hl 0 rfl) ?_
  refine lv_bipush (v := 10) hx hb dJ6_stringSize_0f7a4_17 (by decide) ?_
  refine lv_icmp_ge (tgt := 42) hx hb dJ6_stringSize_0f7a4_19 (by decide) (fun c_19 => absurd c_19 (by decide)) (fun c_19 => ?_)
  refine lv_iload_n hx hb dJ6_stringSize_0f7a4_22 rfl (lv_at hl 2 rfl) ?_
  refine lv_iload_n hx hb dJ6_stringSize_0f7a4_23 rfl (lv_at hl 1 rfl) ?_
  refine lv_icmp_le (tgt := 31) hx hb dJ6_stringSize_0f7a4_24 (by decide) (fun c_24 => ?_) (fun c_24 => absurd (gs_n10 k (by omega) hk1) c_24)
  refine lv_bipush (v := 10) hx hb dJ6_stringSize_0f7a4_31 (by decide) ?_
  refine lv_iload_n hx hb dJ6_stringSize_0f7a4_33 rfl (lv_at hl 1 rfl) ?_
  refine lv_imul hx hb dJ6_stringSize_0f7a4_34 ?_
  rw [show (10 : Int32) * (-10) = (-100) from by decide]
  refine lv_istore_n (lv' := [(2, .int (-100)), (3, .int 1), (0, .int (-(nI k))), (1, .int 0)]) hx hb dJ6_stringSize_0f7a4_35 rfl hl (by decide) rfl (fun ls hl => ?_)
  refine lv_iinc (v := 2) (lv' := [(3, .int 2), (2, .int (-100)), (0, .int (-(nI k))), (1, .int 0)]) hx hb dJ6_stringSize_0f7a4_36 hl (k := 1) rfl (by decide) (by decide) rfl (fun ls hl => ?_)
  refine lv_goto (tgt := 16) hx hb dJ6_stringSize_0f7a4_39 (by decide) ?_
  refine lv_iload_n hx hb dJ6_stringSize_0f7a4_16 rfl (lv_at hl 0 rfl) ?_
  refine lv_bipush (v := 10) hx hb dJ6_stringSize_0f7a4_17 (by decide) ?_
  refine lv_icmp_ge (tgt := 42) hx hb dJ6_stringSize_0f7a4_19 (by decide) (fun c_19 => absurd c_19 (by decide)) (fun c_19 => ?_)
  refine lv_iload_n hx hb dJ6_stringSize_0f7a4_22 rfl (lv_at hl 2 rfl) ?_
  refine lv_iload_n hx hb dJ6_stringSize_0f7a4_23 rfl (lv_at hl 1 rfl) ?_
  refine lv_icmp_le (tgt := 31) hx hb dJ6_stringSize_0f7a4_24 (by decide) (fun c_24 => absurd c_24 (Int32.not_le.mpr (gs_100 k hk))) (fun c_24 => ?_)
  refine lv_iload_n hx hb dJ6_stringSize_0f7a4_27 rfl (lv_at hl 0 rfl) ?_
  refine lv_iload_n hx hb dJ6_stringSize_0f7a4_28 rfl (lv_at hl 3 rfl) ?_
  refine lv_iadd hx hb dJ6_stringSize_0f7a4_29 ?_
  rw [show (2 : Int32) + 0 = 2 from by decide]
  exact q_iret hx hb hr hlocks hW hS ⟨rfl, rfl, rfl⟩ (Nat.le_of_ble_eq_true rfl) (Nat.le_of_ble_eq_true rfl) dJ6_stringSize_0f7a4_30

set_option maxHeartbeats 4000000 in
set_option maxRecDepth 100000 in
theorem kJ6_stringSize_3 (l : Launch) (E : q_E) (f : q_H) (n : Nat) (k : Nat)  (hk : k < 1000) (hk1 : ¬ k < 100) : Met l yJ6_stringSize_0f7a4 wsJ6_stringSize_0f7a4 ({ frames := 0, cells := 0, slots := 0, locals := 0 }) (q_P E [.int (nI k)] f n) (q_Qi E (fun r f1 n1 => 3 = r ∧ f = f1 ∧ n = n1)) 0 0 (q_ge E) := by
  refine Met.ofW (cc := cJ6_stringSize_0f7a4) (maxL := 4) (ret := (some .int)) (by decide) rfl ?_
  intro p0_ e0_ s0_ m0_ args0_ below0_ meth0_ c0_ s1_ B hml hv
  obtain ⟨rfl, hA, hW⟩ := hv
  have hx := B.exec
  have hb := B.bytes
  have hr := B.returns
  have hts := atoms_spec (ws := wsJ6_stringSize_0f7a4) B.pre
  have hown : s0_.vm.findClass RJ6 = some m0_.cls := findClass_of_methodNamed B.named
  have hlocks := B.notSynchronized
  have hS : va_S (q_ge E) s0_.heap s0_.heap [] := va_S.rf
  have hl := lv_entry ([.int (nI k)]) (n := 4) (Nat.le_of_ble_eq_true rfl)
  rw [lg_entry_eq]
  generalize (lg_sl ([.int (nI k)]) ++ List.replicate (4 - (lg_sl ([.int (nI k)])).length) Slot.unset).toArray = ls at hl ⊢
  have hl : lv_has ls 4 [(0, .int (nI k))] := hl
  refine lv_iconst (v := 1) hx hb dJ6_stringSize_0f7a4_0 (by decide) ?_
  refine lv_istore_n (lv' := [(1, .int 1), (0, .int (nI k))]) hx hb dJ6_stringSize_0f7a4_1 rfl hl (by decide) rfl (fun ls hl => ?_)
  refine lv_iload_n hx hb dJ6_stringSize_0f7a4_2 rfl (lv_at hl 1 rfl) ?_
  refine lv_if_lt (tgt := 11) hx hb dJ6_stringSize_0f7a4_3 (by decide) (fun c_3 => absurd c_3 (nI_pos (by omega))) (fun c_3 => ?_)
  refine lv_iconst (v := 0) hx hb dJ6_stringSize_0f7a4_6 (by decide) ?_
  refine lv_istore_n (lv' := [(1, .int 0), (0, .int (nI k))]) hx hb dJ6_stringSize_0f7a4_7 rfl hl (by decide) rfl (fun ls hl => ?_)
  refine lv_iload_n hx hb dJ6_stringSize_0f7a4_8 rfl (lv_at hl 1 rfl) ?_
  refine lv_ineg hx hb dJ6_stringSize_0f7a4_9 ?_
  refine lv_istore_n (lv' := [(0, .int (-(nI k))), (1, .int 0)]) hx hb dJ6_stringSize_0f7a4_10 rfl hl (by decide) rfl (fun ls hl => ?_)
  refine lv_bipush (v := (-10)) hx hb dJ6_stringSize_0f7a4_11 (by decide) ?_
  refine lv_istore_n (lv' := [(2, .int (-10)), (0, .int (-(nI k))), (1, .int 0)]) hx hb dJ6_stringSize_0f7a4_13 rfl hl (by decide) rfl (fun ls hl => ?_)
  refine lv_iconst (v := 1) hx hb dJ6_stringSize_0f7a4_14 (by decide) ?_
  refine lv_istore_n (lv' := [(3, .int 1), (2, .int (-10)), (0, .int (-(nI k))), (1, .int 0)]) hx hb dJ6_stringSize_0f7a4_15 rfl hl (by decide) rfl (fun ls hl => ?_)
  refine lv_iload_n hx hb dJ6_stringSize_0f7a4_16 rfl (lv_at hl 0 rfl) ?_
  refine lv_bipush (v := 10) hx hb dJ6_stringSize_0f7a4_17 (by decide) ?_
  refine lv_icmp_ge (tgt := 42) hx hb dJ6_stringSize_0f7a4_19 (by decide) (fun c_19 => absurd c_19 (by decide)) (fun c_19 => ?_)
  refine lv_iload_n hx hb dJ6_stringSize_0f7a4_22 rfl (lv_at hl 2 rfl) ?_
  refine lv_iload_n hx hb dJ6_stringSize_0f7a4_23 rfl (lv_at hl 1 rfl) ?_
  refine lv_icmp_le (tgt := 31) hx hb dJ6_stringSize_0f7a4_24 (by decide) (fun c_24 => ?_) (fun c_24 => absurd (gs_n10 k hk (by omega)) c_24)
  refine lv_bipush (v := 10) hx hb dJ6_stringSize_0f7a4_31 (by decide) ?_
  refine lv_iload_n hx hb dJ6_stringSize_0f7a4_33 rfl (lv_at hl 1 rfl) ?_
  refine lv_imul hx hb dJ6_stringSize_0f7a4_34 ?_
  rw [show (10 : Int32) * (-10) = (-100) from by decide]
  refine lv_istore_n (lv' := [(2, .int (-100)), (3, .int 1), (0, .int (-(nI k))), (1, .int 0)]) hx hb dJ6_stringSize_0f7a4_35 rfl hl (by decide) rfl (fun ls hl => ?_)
  refine lv_iinc (v := 2) (lv' := [(3, .int 2), (2, .int (-100)), (0, .int (-(nI k))), (1, .int 0)]) hx hb dJ6_stringSize_0f7a4_36 hl (k := 1) rfl (by decide) (by decide) rfl (fun ls hl => ?_)
  refine lv_goto (tgt := 16) hx hb dJ6_stringSize_0f7a4_39 (by decide) ?_
  refine lv_iload_n hx hb dJ6_stringSize_0f7a4_16 rfl (lv_at hl 0 rfl) ?_
  refine lv_bipush (v := 10) hx hb dJ6_stringSize_0f7a4_17 (by decide) ?_
  refine lv_icmp_ge (tgt := 42) hx hb dJ6_stringSize_0f7a4_19 (by decide) (fun c_19 => absurd c_19 (by decide)) (fun c_19 => ?_)
  refine lv_iload_n hx hb dJ6_stringSize_0f7a4_22 rfl (lv_at hl 2 rfl) ?_
  refine lv_iload_n hx hb dJ6_stringSize_0f7a4_23 rfl (lv_at hl 1 rfl) ?_
  refine lv_icmp_le (tgt := 31) hx hb dJ6_stringSize_0f7a4_24 (by decide) (fun c_24 => ?_) (fun c_24 => absurd (gs_n100 k hk hk1) c_24)
  refine lv_bipush (v := 10) hx hb dJ6_stringSize_0f7a4_31 (by decide) ?_
  refine lv_iload_n hx hb dJ6_stringSize_0f7a4_33 rfl (lv_at hl 1 rfl) ?_
  refine lv_imul hx hb dJ6_stringSize_0f7a4_34 ?_
  rw [show (10 : Int32) * (-100) = (-1000) from by decide]
  refine lv_istore_n (lv' := [(2, .int (-1000)), (3, .int 2), (0, .int (-(nI k))), (1, .int 0)]) hx hb dJ6_stringSize_0f7a4_35 rfl hl (by decide) rfl (fun ls hl => ?_)
  refine lv_iinc (v := 3) (lv' := [(3, .int 3), (2, .int (-1000)), (0, .int (-(nI k))), (1, .int 0)]) hx hb dJ6_stringSize_0f7a4_36 hl (k := 1) rfl (by decide) (by decide) rfl (fun ls hl => ?_)
  refine lv_goto (tgt := 16) hx hb dJ6_stringSize_0f7a4_39 (by decide) ?_
  refine lv_iload_n hx hb dJ6_stringSize_0f7a4_16 rfl (lv_at hl 0 rfl) ?_
  refine lv_bipush (v := 10) hx hb dJ6_stringSize_0f7a4_17 (by decide) ?_
  refine lv_icmp_ge (tgt := 42) hx hb dJ6_stringSize_0f7a4_19 (by decide) (fun c_19 => absurd c_19 (by decide)) (fun c_19 => ?_)
  refine lv_iload_n hx hb dJ6_stringSize_0f7a4_22 rfl (lv_at hl 2 rfl) ?_
  refine lv_iload_n hx hb dJ6_stringSize_0f7a4_23 rfl (lv_at hl 1 rfl) ?_
  refine lv_icmp_le (tgt := 31) hx hb dJ6_stringSize_0f7a4_24 (by decide) (fun c_24 => absurd c_24 (Int32.not_le.mpr (gs_1000 k hk))) (fun c_24 => ?_)
  refine lv_iload_n hx hb dJ6_stringSize_0f7a4_27 rfl (lv_at hl 0 rfl) ?_
  refine lv_iload_n hx hb dJ6_stringSize_0f7a4_28 rfl (lv_at hl 3 rfl) ?_
  refine lv_iadd hx hb dJ6_stringSize_0f7a4_29 ?_
  rw [show (3 : Int32) + 0 = 3 from by decide]
  exact q_iret hx hb hr hlocks hW hS ⟨rfl, rfl, rfl⟩ (Nat.le_of_ble_eq_true rfl) (Nat.le_of_ble_eq_true rfl) dJ6_stringSize_0f7a4_30

set_option maxHeartbeats 4000000 in
set_option maxRecDepth 100000 in
theorem kJ6_getChars_1 (l : Launch) (E : q_E) (f : q_H) (n : Nat) (k b m : Nat) (W : List Int32) (h1 : f b = some (aB E m (tx W))) (hk : k < 10) (hwm : W.length + 1 ≤ m) (hm : m ≤ 4000) : Met l yJ6_getChars_ba4f3 wsJ6_getChars_ba4f3 ({ frames := 0, cells := 0, slots := 0, locals := 0 }) (q_P E [.int (nI k), .int (nI (W.length + 1)), .ref b] f n) (q_Qi E (fun r f1 n1 => nI W.length = r ∧ va_up f b (some (aB E m (tx (W ++ dg k)))) = f1 ∧ n = n1)) 0 0 (q_ge E) := by
  refine Met.ofW (cc := cJ6_getChars_ba4f3) (maxL := 7) (ret := (some .int)) (by decide) rfl ?_
  intro p0_ e0_ s0_ m0_ args0_ below0_ meth0_ c0_ s1_ B hml hv
  obtain ⟨rfl, hA, hW⟩ := hv
  have hx := B.exec
  have hb := B.bytes
  have hr := B.returns
  have hts := atoms_spec (ws := wsJ6_getChars_ba4f3) B.pre
  have hown : s0_.vm.findClass RJ6 = some m0_.cls := findClass_of_methodNamed B.named
  have hlocks := B.notSynchronized
  have hS : va_S (q_ge E) s0_.heap s0_.heap [] := va_S.rf
  have hl := lv_entry ([.int (nI k), .int (nI (W.length + 1)), .ref b]) (n := 7) (Nat.le_of_ble_eq_true rfl)
  rw [lg_entry_eq]
  generalize (lg_sl ([.int (nI k), .int (nI (W.length + 1)), .ref b]) ++ List.replicate (7 - (lg_sl ([.int (nI k), .int (nI (W.length + 1)), .ref b])).length) Slot.unset).toArray = ls at hl ⊢
  have hl : lv_has ls 7 [(0, .int (nI k)), (1, .int (nI (W.length + 1))), (2, .ref b)] := hl
  have l_h1 := hW.lt h1
  refine lv_iload_n hx hb dJ6_getChars_ba4f3_0 rfl (lv_at hl 1 rfl) ?_
  refine lv_istore (lv' := [(5, .int (nI (W.length + 1))), (0, .int (nI k)), (1, .int (nI (W.length + 1))), (2, .ref b)]) hx hb dJ6_getChars_ba4f3_1 hl (by decide) rfl (fun ls hl => ?_)
  refine lv_iload_n hx hb dJ6_getChars_ba4f3_3 rfl (lv_at hl 1 rfl) ?_
  refine lv_if_ge (tgt := 11) hx hb dJ6_getChars_ba4f3_4 (by decide) (fun c_4 => ?_) (fun c_4 => absurd (nI_pos' (by omega)) c_4)
  refine lv_iconst (v := 0) hx hb dJ6_getChars_ba4f3_11 (by decide) ?_
  refine lv_istore (lv' := [(6, .int 0), (5, .int (nI (W.length + 1))), (0, .int (nI k)), (1, .int (nI (W.length + 1))), (2, .ref b)]) hx hb dJ6_getChars_ba4f3_12 hl (by decide) rfl (fun ls hl => ?_)
  refine lv_iload hx hb dJ6_getChars_ba4f3_14 (lv_at hl 0 rfl) ?_
  refine lv_if_ne (tgt := 22) hx hb dJ6_getChars_ba4f3_16 (by decide) (fun c_16 => False.elim ((fun h9 => h9 rfl) c_16)) (fun c_16 => ?_)
  refine lv_iload_n hx hb dJ6_getChars_ba4f3_19 rfl (lv_at hl 2 rfl) ?_
  refine lv_ineg hx hb dJ6_getChars_ba4f3_20 ?_
  refine lv_istore_n (lv' := [(0, .int (-(nI k))), (6, .int 0), (5, .int (nI (W.length + 1))), (1, .int (nI (W.length + 1))), (2, .ref b)]) hx hb dJ6_getChars_ba4f3_21 rfl hl (by decide) rfl (fun ls hl => ?_)
  refine lv_iload_n hx hb dJ6_getChars_ba4f3_22 rfl (lv_at hl 0 rfl) ?_
  refine lv_bipush (v := (-100)) hx hb dJ6_getChars_ba4f3_23 (by decide) ?_
  refine lv_icmp_gt (tgt := 72) hx hb dJ6_getChars_ba4f3_25 (by decide) (fun c_25 => ?_) (fun c_25 => absurd (gc_lt k (by omega)) c_25)
  refine lv_aload_n hx hb dJ6_getChars_ba4f3_72 rfl (lv_at hl 4 rfl) ?_
  refine lv_iinc (v := nI W.length) (lv' := [(5, .int (nI W.length)), (0, .int (-(nI k))), (6, .int 0), (1, .int (nI (W.length + 1))), (2, .ref b)]) hx hb dJ6_getChars_ba4f3_73 hl (k := 2) rfl (nI_dn W.length) (by decide) rfl (fun ls hl => ?_)
  refine lv_iload hx hb dJ6_getChars_ba4f3_76 (lv_at hl 0 rfl) ?_
  refine va_gets (n := "DigitOnes") (v := .ref (E.2.2.2 106)) hx hb hA.2.2.1.2.2.2.2.2.2.2.2.2.1.1 hS hown (hts (.fieldLink RJ6 83 "java/lang/Integer" "DigitOnes" "[B") (by decide +kernel)) (fun _ h9 => h9) dJ6_getChars_ba4f3_78 ?_
  refine lv_iload_n hx hb dJ6_getChars_ba4f3_81 rfl (lv_at hl 1 rfl) ?_
  refine lv_ineg hx hb dJ6_getChars_ba4f3_82 ?_
  rw [gc_n (k) (by omega)]
  refine va_tb hx hb hA.2.2.1.2.2.2.2.2.2.2.2.2.1.2 hS (vp_in_nI (by omega) (by decide)) (v := .int (q_d1 k)) (by rw [nI_clamp (by omega)]) dJ6_getChars_ba4f3_83 ?_
  refine q_bast hx hb hA hW hS h1 (vp_in_nI (by omega) (by omega)) dJ6_getChars_ba4f3_84 (fun H locs hW hS => ?_)
  rw [show (nI W.length).toNatClampNeg = W.length from nI_clamp (by omega), show (q_d1 k).toInt8.toInt32 = nI (48 + k % 10) from d8 k (by omega)] at hW
  rw [show upd (tx W) W.length (nI (48 + k % 10)) = tx (W ++ dg k) from by rw [dg_1 hk]; exact tx_put] at hW
  have hW : q_W E (va_up f b (some (aB E m (tx (W ++ dg k))))) n H := hW
  refine lv_iload_n hx hb dJ6_getChars_ba4f3_85 rfl (lv_at hl 1 rfl) ?_
  refine lv_bipush (v := (-9)) hx hb dJ6_getChars_ba4f3_86 (by decide) ?_
  refine lv_icmp_ge (tgt := 104) hx hb dJ6_getChars_ba4f3_88 (by decide) (fun c_88 => ?_) (fun c_88 => absurd (gc_9 (k) (by omega)) c_88)
  refine lv_iload hx hb dJ6_getChars_ba4f3_104 (lv_at hl 2 rfl) ?_
  refine lv_if_eq (tgt := 118) hx hb dJ6_getChars_ba4f3_106 (by decide) (fun c_106 => ?_) (fun c_106 => absurd rfl c_106)
  refine lv_iload hx hb dJ6_getChars_ba4f3_118 (lv_at hl 0 rfl) ?_
  exact q_iret hx hb hr hlocks hW hS ⟨rfl, rfl, rfl⟩ (Nat.le_of_ble_eq_true rfl) (Nat.le_of_ble_eq_true rfl) dJ6_getChars_ba4f3_120

set_option maxHeartbeats 4000000 in
set_option maxRecDepth 100000 in
theorem kJ6_getChars_2 (l : Launch) (E : q_E) (f : q_H) (n : Nat) (k b m : Nat) (W : List Int32) (h1 : f b = some (aB E m (tx W))) (hk : k < 100) (hk1 : ¬ k < 10) (hwm : W.length + 2 ≤ m) (hm : m ≤ 4000) : Met l yJ6_getChars_ba4f3 wsJ6_getChars_ba4f3 ({ frames := 0, cells := 0, slots := 0, locals := 0 }) (q_P E [.int (nI k), .int (nI (W.length + 2)), .ref b] f n) (q_Qi E (fun r f1 n1 => nI W.length = r ∧ va_up f b (some (aB E m (tx (W ++ dg k)))) = f1 ∧ n = n1)) 0 0 (q_ge E) := by
  refine Met.ofW (cc := cJ6_getChars_ba4f3) (maxL := 7) (ret := (some .int)) (by decide) rfl ?_
  intro p0_ e0_ s0_ m0_ args0_ below0_ meth0_ c0_ s1_ B hml hv
  obtain ⟨rfl, hA, hW⟩ := hv
  have hx := B.exec
  have hb := B.bytes
  have hr := B.returns
  have hts := atoms_spec (ws := wsJ6_getChars_ba4f3) B.pre
  have hown : s0_.vm.findClass RJ6 = some m0_.cls := findClass_of_methodNamed B.named
  have hlocks := B.notSynchronized
  have hS : va_S (q_ge E) s0_.heap s0_.heap [] := va_S.rf
  have hl := lv_entry ([.int (nI k), .int (nI (W.length + 2)), .ref b]) (n := 7) (Nat.le_of_ble_eq_true rfl)
  rw [lg_entry_eq]
  generalize (lg_sl ([.int (nI k), .int (nI (W.length + 2)), .ref b]) ++ List.replicate (7 - (lg_sl ([.int (nI k), .int (nI (W.length + 2)), .ref b])).length) Slot.unset).toArray = ls at hl ⊢
  have hl : lv_has ls 7 [(0, .int (nI k)), (1, .int (nI (W.length + 2))), (2, .ref b)] := hl
  have l_h1 := hW.lt h1
  refine lv_iload_n hx hb dJ6_getChars_ba4f3_0 rfl (lv_at hl 1 rfl) ?_
  refine lv_istore (lv' := [(5, .int (nI (W.length + 2))), (0, .int (nI k)), (1, .int (nI (W.length + 2))), (2, .ref b)]) hx hb dJ6_getChars_ba4f3_1 hl (by decide) rfl (fun ls hl => ?_)
  refine lv_iload_n hx hb dJ6_getChars_ba4f3_3 rfl (lv_at hl 1 rfl) ?_
  refine lv_if_ge (tgt := 11) hx hb dJ6_getChars_ba4f3_4 (by decide) (fun c_4 => ?_) (fun c_4 => absurd (nI_pos' (by omega)) c_4)
  refine lv_iconst (v := 0) hx hb dJ6_getChars_ba4f3_11 (by decide) ?_
  refine lv_istore (lv' := [(6, .int 0), (5, .int (nI (W.length + 2))), (0, .int (nI k)), (1, .int (nI (W.length + 2))), (2, .ref b)]) hx hb dJ6_getChars_ba4f3_12 hl (by decide) rfl (fun ls hl => ?_)
  refine lv_iload hx hb dJ6_getChars_ba4f3_14 (lv_at hl 0 rfl) ?_
  refine lv_if_ne (tgt := 22) hx hb dJ6_getChars_ba4f3_16 (by decide) (fun c_16 => False.elim ((fun h9 => h9 rfl) c_16)) (fun c_16 => ?_)
  refine lv_iload_n hx hb dJ6_getChars_ba4f3_19 rfl (lv_at hl 2 rfl) ?_
  refine lv_ineg hx hb dJ6_getChars_ba4f3_20 ?_
  refine lv_istore_n (lv' := [(0, .int (-(nI k))), (6, .int 0), (5, .int (nI (W.length + 2))), (1, .int (nI (W.length + 2))), (2, .ref b)]) hx hb dJ6_getChars_ba4f3_21 rfl hl (by decide) rfl (fun ls hl => ?_)
  refine lv_iload_n hx hb dJ6_getChars_ba4f3_22 rfl (lv_at hl 0 rfl) ?_
  refine lv_bipush (v := (-100)) hx hb dJ6_getChars_ba4f3_23 (by decide) ?_
  refine lv_icmp_gt (tgt := 72) hx hb dJ6_getChars_ba4f3_25 (by decide) (fun c_25 => ?_) (fun c_25 => absurd (gc_lt k (by omega)) c_25)
  refine lv_aload_n hx hb dJ6_getChars_ba4f3_72 rfl (lv_at hl 4 rfl) ?_
  refine lv_iinc (v := nI (W.length + 1)) (lv' := [(5, .int (nI (W.length + 1))), (0, .int (-(nI k))), (6, .int 0), (1, .int (nI (W.length + 2))), (2, .ref b)]) hx hb dJ6_getChars_ba4f3_73 hl (k := 2) rfl (nI_dn (W.length + 1)) (by decide) rfl (fun ls hl => ?_)
  refine lv_iload hx hb dJ6_getChars_ba4f3_76 (lv_at hl 0 rfl) ?_
  refine va_gets (n := "DigitOnes") (v := .ref (E.2.2.2 106)) hx hb hA.2.2.1.2.2.2.2.2.2.2.2.2.1.1 hS hown (hts (.fieldLink RJ6 83 "java/lang/Integer" "DigitOnes" "[B") (by decide +kernel)) (fun _ h9 => h9) dJ6_getChars_ba4f3_78 ?_
  refine lv_iload_n hx hb dJ6_getChars_ba4f3_81 rfl (lv_at hl 1 rfl) ?_
  refine lv_ineg hx hb dJ6_getChars_ba4f3_82 ?_
  rw [gc_n (k) (by omega)]
  refine va_tb hx hb hA.2.2.1.2.2.2.2.2.2.2.2.2.1.2 hS (vp_in_nI (by omega) (by decide)) (v := .int (q_d1 k)) (by rw [nI_clamp (by omega)]) dJ6_getChars_ba4f3_83 ?_
  refine q_bast hx hb hA hW hS h1 (vp_in_nI (by omega) (by omega)) dJ6_getChars_ba4f3_84 (fun H locs hW hS => ?_)
  rw [show (nI (W.length + 1)).toNatClampNeg = W.length + 1 from nI_clamp (by omega), show (q_d1 k).toInt8.toInt32 = nI (48 + k % 10) from d8 k (by omega)] at hW
  have hW : q_W E (va_up f b (some (aB E m (upd (tx W) (W.length + 1) (nI (48 + k % 10)))))) n H := hW
  refine lv_iload_n hx hb dJ6_getChars_ba4f3_85 rfl (lv_at hl 1 rfl) ?_
  refine lv_bipush (v := (-9)) hx hb dJ6_getChars_ba4f3_86 (by decide) ?_
  refine lv_icmp_ge (tgt := 104) hx hb dJ6_getChars_ba4f3_88 (by decide) (fun c_88 => absurd c_88 (gc_n9 k hk hk1)) (fun c_88 => ?_)
  refine lv_aload_n hx hb dJ6_getChars_ba4f3_91 rfl (lv_at hl 4 rfl) ?_
  refine lv_iinc (v := nI W.length) (lv' := [(5, .int (nI W.length)), (0, .int (-(nI k))), (6, .int 0), (1, .int (nI (W.length + 2))), (2, .ref b)]) hx hb dJ6_getChars_ba4f3_92 hl (k := 0) rfl (nI_dn W.length) (by decide) rfl (fun ls hl => ?_)
  refine lv_iload hx hb dJ6_getChars_ba4f3_95 (lv_at hl 0 rfl) ?_
  refine va_gets (n := "DigitTens") (v := .ref (E.2.2.2 107)) hx hb hA.2.2.1.2.2.2.2.2.2.2.2.2.2.1.1 hS hown (hts (.fieldLink RJ6 87 "java/lang/Integer" "DigitTens" "[B") (by decide +kernel)) (fun _ h9 => h9) dJ6_getChars_ba4f3_97 ?_
  refine lv_iload_n hx hb dJ6_getChars_ba4f3_100 rfl (lv_at hl 1 rfl) ?_
  refine lv_ineg hx hb dJ6_getChars_ba4f3_101 ?_
  rw [gc_n (k) (by omega)]
  refine va_tb hx hb hA.2.2.1.2.2.2.2.2.2.2.2.2.2.1.2 hS (vp_in_nI (by omega) (by decide)) (v := .int (q_d10 k)) (by rw [nI_clamp (by omega)]) dJ6_getChars_ba4f3_102 ?_
  refine q_bast hx hb hA hW hS q_eq (vp_in_nI (by omega) (by omega)) dJ6_getChars_ba4f3_103 (fun H locs hW hS => ?_)
  rw [show (nI W.length).toNatClampNeg = W.length from nI_clamp (by omega), show (q_d10 k).toInt8.toInt32 = nI (48 + k / 10) from d80 k (by omega)] at hW
  rw [show upd (upd (tx W) (W.length + 1) (nI (48 + k % 10))) (W.length) (nI (48 + k / 10)) = tx (W ++ dg k) from by rw [dg_2 hk hk1]; exact put2] at hW
  rw [q_upup] at hW
  have hW : q_W E (va_up f b (some (aB E m (tx (W ++ dg k))))) n H := hW
  refine lv_iload hx hb dJ6_getChars_ba4f3_104 (lv_at hl 2 rfl) ?_
  refine lv_if_eq (tgt := 118) hx hb dJ6_getChars_ba4f3_106 (by decide) (fun c_106 => ?_) (fun c_106 => absurd rfl c_106)
  refine lv_iload hx hb dJ6_getChars_ba4f3_118 (lv_at hl 0 rfl) ?_
  exact q_iret hx hb hr hlocks hW hS ⟨rfl, rfl, rfl⟩ (Nat.le_of_ble_eq_true rfl) (Nat.le_of_ble_eq_true rfl) dJ6_getChars_ba4f3_120

set_option maxHeartbeats 4000000 in
set_option maxRecDepth 100000 in
theorem kJ6_getChars_3 (l : Launch) (E : q_E) (f : q_H) (n : Nat) (k b m : Nat) (W : List Int32) (h1 : f b = some (aB E m (tx W))) (hk : k < 1000) (hk1 : ¬ k < 100) (hwm : W.length + 3 ≤ m) (hm : m ≤ 4000) : Met l yJ6_getChars_ba4f3 wsJ6_getChars_ba4f3 ({ frames := 0, cells := 0, slots := 0, locals := 0 }) (q_P E [.int (nI k), .int (nI (W.length + 3)), .ref b] f n) (q_Qi E (fun r f1 n1 => nI W.length = r ∧ va_up f b (some (aB E m (tx (W ++ dg k)))) = f1 ∧ n = n1)) 0 0 (q_ge E) := by
  refine Met.ofW (cc := cJ6_getChars_ba4f3) (maxL := 7) (ret := (some .int)) (by decide) rfl ?_
  intro p0_ e0_ s0_ m0_ args0_ below0_ meth0_ c0_ s1_ B hml hv
  obtain ⟨rfl, hA, hW⟩ := hv
  have hx := B.exec
  have hb := B.bytes
  have hr := B.returns
  have hts := atoms_spec (ws := wsJ6_getChars_ba4f3) B.pre
  have hown : s0_.vm.findClass RJ6 = some m0_.cls := findClass_of_methodNamed B.named
  have hlocks := B.notSynchronized
  have hS : va_S (q_ge E) s0_.heap s0_.heap [] := va_S.rf
  have hl := lv_entry ([.int (nI k), .int (nI (W.length + 3)), .ref b]) (n := 7) (Nat.le_of_ble_eq_true rfl)
  rw [lg_entry_eq]
  generalize (lg_sl ([.int (nI k), .int (nI (W.length + 3)), .ref b]) ++ List.replicate (7 - (lg_sl ([.int (nI k), .int (nI (W.length + 3)), .ref b])).length) Slot.unset).toArray = ls at hl ⊢
  have hl : lv_has ls 7 [(0, .int (nI k)), (1, .int (nI (W.length + 3))), (2, .ref b)] := hl
  have l_h1 := hW.lt h1
  refine lv_iload_n hx hb dJ6_getChars_ba4f3_0 rfl (lv_at hl 1 rfl) ?_
  refine lv_istore (lv' := [(5, .int (nI (W.length + 3))), (0, .int (nI k)), (1, .int (nI (W.length + 3))), (2, .ref b)]) hx hb dJ6_getChars_ba4f3_1 hl (by decide) rfl (fun ls hl => ?_)
  refine lv_iload_n hx hb dJ6_getChars_ba4f3_3 rfl (lv_at hl 1 rfl) ?_
  refine lv_if_ge (tgt := 11) hx hb dJ6_getChars_ba4f3_4 (by decide) (fun c_4 => ?_) (fun c_4 => absurd (nI_pos' (by omega)) c_4)
  refine lv_iconst (v := 0) hx hb dJ6_getChars_ba4f3_11 (by decide) ?_
  refine lv_istore (lv' := [(6, .int 0), (5, .int (nI (W.length + 3))), (0, .int (nI k)), (1, .int (nI (W.length + 3))), (2, .ref b)]) hx hb dJ6_getChars_ba4f3_12 hl (by decide) rfl (fun ls hl => ?_)
  refine lv_iload hx hb dJ6_getChars_ba4f3_14 (lv_at hl 0 rfl) ?_
  refine lv_if_ne (tgt := 22) hx hb dJ6_getChars_ba4f3_16 (by decide) (fun c_16 => False.elim ((fun h9 => h9 rfl) c_16)) (fun c_16 => ?_)
  refine lv_iload_n hx hb dJ6_getChars_ba4f3_19 rfl (lv_at hl 2 rfl) ?_
  refine lv_ineg hx hb dJ6_getChars_ba4f3_20 ?_
  refine lv_istore_n (lv' := [(0, .int (-(nI k))), (6, .int 0), (5, .int (nI (W.length + 3))), (1, .int (nI (W.length + 3))), (2, .ref b)]) hx hb dJ6_getChars_ba4f3_21 rfl hl (by decide) rfl (fun ls hl => ?_)
  refine lv_iload_n hx hb dJ6_getChars_ba4f3_22 rfl (lv_at hl 0 rfl) ?_
  refine lv_bipush (v := (-100)) hx hb dJ6_getChars_ba4f3_23 (by decide) ?_
  refine lv_icmp_gt (tgt := 72) hx hb dJ6_getChars_ba4f3_25 (by decide) (fun c_25 => absurd c_25 (gc_ge k hk hk1)) (fun c_25 => ?_)
  refine lv_iload_n hx hb dJ6_getChars_ba4f3_28 rfl (lv_at hl 0 rfl) ?_
  refine lv_bipush (v := 100) hx hb dJ6_getChars_ba4f3_29 (by decide) ?_
  refine lv_idiv hx hb dJ6_getChars_ba4f3_31 (by decide) ?_
  rw [gc_q k hk]
  refine lv_istore_n (lv' := [(3, .int (-nI (k / 100))), (0, .int (-(nI k))), (6, .int 0), (5, .int (nI (W.length + 3))), (1, .int (nI (W.length + 3))), (2, .ref b)]) hx hb dJ6_getChars_ba4f3_32 rfl hl (by decide) rfl (fun ls hl => ?_)
  refine lv_iload_n hx hb dJ6_getChars_ba4f3_33 rfl (lv_at hl 0 rfl) ?_
  refine lv_bipush (v := 100) hx hb dJ6_getChars_ba4f3_34 (by decide) ?_
  refine lv_imul hx hb dJ6_getChars_ba4f3_36 ?_
  refine lv_iload_n hx hb dJ6_getChars_ba4f3_37 rfl (lv_at hl 1 rfl) ?_
  refine lv_isub hx hb dJ6_getChars_ba4f3_38 ?_
  rw [gc_r k hk]
  refine lv_istore (lv' := [(4, .int (nI (k % 100))), (3, .int (-nI (k / 100))), (0, .int (-(nI k))), (6, .int 0), (5, .int (nI (W.length + 3))), (1, .int (nI (W.length + 3))), (2, .ref b)]) hx hb dJ6_getChars_ba4f3_39 hl (by decide) rfl (fun ls hl => ?_)
  refine lv_iload_n hx hb dJ6_getChars_ba4f3_41 rfl (lv_at hl 1 rfl) ?_
  refine lv_istore_n (lv' := [(0, .int (-nI (k / 100))), (4, .int (nI (k % 100))), (3, .int (-nI (k / 100))), (6, .int 0), (5, .int (nI (W.length + 3))), (1, .int (nI (W.length + 3))), (2, .ref b)]) hx hb dJ6_getChars_ba4f3_42 rfl hl (by decide) rfl (fun ls hl => ?_)
  refine lv_aload_n hx hb dJ6_getChars_ba4f3_43 rfl (lv_at hl 6 rfl) ?_
  refine lv_iinc (v := nI (W.length + 2)) (lv' := [(5, .int (nI (W.length + 2))), (0, .int (-nI (k / 100))), (4, .int (nI (k % 100))), (3, .int (-nI (k / 100))), (6, .int 0), (1, .int (nI (W.length + 3))), (2, .ref b)]) hx hb dJ6_getChars_ba4f3_44 hl (k := 4) rfl (nI_dn (W.length + 2)) (by decide) rfl (fun ls hl => ?_)
  refine lv_iload hx hb dJ6_getChars_ba4f3_47 (lv_at hl 0 rfl) ?_
  refine va_gets (n := "DigitOnes") (v := .ref (E.2.2.2 106)) hx hb hA.2.2.1.2.2.2.2.2.2.2.2.2.1.1 hS hown (hts (.fieldLink RJ6 83 "java/lang/Integer" "DigitOnes" "[B") (by decide +kernel)) (fun _ h9 => h9) dJ6_getChars_ba4f3_49 ?_
  refine lv_iload hx hb dJ6_getChars_ba4f3_52 (lv_at hl 2 rfl) ?_
  refine va_tb hx hb hA.2.2.1.2.2.2.2.2.2.2.2.2.1.2 hS (vp_in_nI (by omega) (by decide)) (v := .int (q_d1 (k % 100))) (by rw [nI_clamp (by omega)]) dJ6_getChars_ba4f3_54 ?_
  refine q_bast hx hb hA hW hS h1 (vp_in_nI (by omega) (by omega)) dJ6_getChars_ba4f3_55 (fun H locs hW hS => ?_)
  rw [show (nI (W.length + 2)).toNatClampNeg = W.length + 2 from nI_clamp (by omega), show (q_d1 (k % 100)).toInt8.toInt32 = nI (48 + (k % 100) % 10) from d8 (k % 100) (by omega)] at hW
  have hW : q_W E (va_up f b (some (aB E m (upd (tx W) (W.length + 2) (nI (48 + (k % 100) % 10)))))) n H := hW
  refine lv_aload_n hx hb dJ6_getChars_ba4f3_56 rfl (lv_at hl 6 rfl) ?_
  refine lv_iinc (v := nI (W.length + 1)) (lv' := [(5, .int (nI (W.length + 1))), (0, .int (-nI (k / 100))), (4, .int (nI (k % 100))), (3, .int (-nI (k / 100))), (6, .int 0), (1, .int (nI (W.length + 3))), (2, .ref b)]) hx hb dJ6_getChars_ba4f3_57 hl (k := 0) rfl (nI_dn (W.length + 1)) (by decide) rfl (fun ls hl => ?_)
  refine lv_iload hx hb dJ6_getChars_ba4f3_60 (lv_at hl 0 rfl) ?_
  refine va_gets (n := "DigitTens") (v := .ref (E.2.2.2 107)) hx hb hA.2.2.1.2.2.2.2.2.2.2.2.2.2.1.1 hS hown (hts (.fieldLink RJ6 87 "java/lang/Integer" "DigitTens" "[B") (by decide +kernel)) (fun _ h9 => h9) dJ6_getChars_ba4f3_62 ?_
  refine lv_iload hx hb dJ6_getChars_ba4f3_65 (lv_at hl 2 rfl) ?_
  refine va_tb hx hb hA.2.2.1.2.2.2.2.2.2.2.2.2.2.1.2 hS (vp_in_nI (by omega) (by decide)) (v := .int (q_d10 (k % 100))) (by rw [nI_clamp (by omega)]) dJ6_getChars_ba4f3_67 ?_
  refine q_bast hx hb hA hW hS q_eq (vp_in_nI (by omega) (by omega)) dJ6_getChars_ba4f3_68 (fun H locs hW hS => ?_)
  rw [show (nI (W.length + 1)).toNatClampNeg = W.length + 1 from nI_clamp (by omega), show (q_d10 (k % 100)).toInt8.toInt32 = nI (48 + (k % 100) / 10) from d80 (k % 100) (by omega)] at hW
  rw [q_upup] at hW
  have hW : q_W E (va_up f b (some (aB E m (upd (upd (tx W) (W.length + 2) (nI (48 + (k % 100) % 10))) (W.length + 1) (nI (48 + (k % 100) / 10)))))) n H := hW
  refine lv_goto (tgt := 22) hx hb dJ6_getChars_ba4f3_69 (by decide) ?_
  refine lv_iload_n hx hb dJ6_getChars_ba4f3_22 rfl (lv_at hl 1 rfl) ?_
  refine lv_bipush (v := (-100)) hx hb dJ6_getChars_ba4f3_23 (by decide) ?_
  refine lv_icmp_gt (tgt := 72) hx hb dJ6_getChars_ba4f3_25 (by decide) (fun c_25 => ?_) (fun c_25 => absurd (gc_lt (k / 100) (by omega)) c_25)
  refine lv_aload_n hx hb dJ6_getChars_ba4f3_72 rfl (lv_at hl 6 rfl) ?_
  refine lv_iinc (v := nI W.length) (lv' := [(5, .int (nI W.length)), (0, .int (-nI (k / 100))), (4, .int (nI (k % 100))), (3, .int (-nI (k / 100))), (6, .int 0), (1, .int (nI (W.length + 3))), (2, .ref b)]) hx hb dJ6_getChars_ba4f3_73 hl (k := 0) rfl (nI_dn W.length) (by decide) rfl (fun ls hl => ?_)
  refine lv_iload hx hb dJ6_getChars_ba4f3_76 (lv_at hl 0 rfl) ?_
  refine va_gets (n := "DigitOnes") (v := .ref (E.2.2.2 106)) hx hb hA.2.2.1.2.2.2.2.2.2.2.2.2.1.1 hS hown (hts (.fieldLink RJ6 83 "java/lang/Integer" "DigitOnes" "[B") (by decide +kernel)) (fun _ h9 => h9) dJ6_getChars_ba4f3_78 ?_
  refine lv_iload_n hx hb dJ6_getChars_ba4f3_81 rfl (lv_at hl 1 rfl) ?_
  refine lv_ineg hx hb dJ6_getChars_ba4f3_82 ?_
  rw [gc_n (k / 100) (by omega)]
  refine va_tb hx hb hA.2.2.1.2.2.2.2.2.2.2.2.2.1.2 hS (vp_in_nI (by omega) (by decide)) (v := .int (q_d1 (k / 100))) (by rw [nI_clamp (by omega)]) dJ6_getChars_ba4f3_83 ?_
  refine q_bast hx hb hA hW hS q_eq (vp_in_nI (by omega) (by omega)) dJ6_getChars_ba4f3_84 (fun H locs hW hS => ?_)
  rw [show (nI W.length).toNatClampNeg = W.length from nI_clamp (by omega), show (q_d1 (k / 100)).toInt8.toInt32 = nI (48 + (k / 100) % 10) from d8 (k / 100) (by omega)] at hW
  rw [show upd (upd (upd (tx W) (W.length + 2) (nI (48 + (k % 100) % 10))) (W.length + 1) (nI (48 + (k % 100) / 10))) (W.length) (nI (48 + (k / 100) % 10)) = tx (W ++ dg k) from by rw [dg_3 hk1]; exact put3] at hW
  rw [q_upup] at hW
  have hW : q_W E (va_up f b (some (aB E m (tx (W ++ dg k))))) n H := hW
  refine lv_iload_n hx hb dJ6_getChars_ba4f3_85 rfl (lv_at hl 1 rfl) ?_
  refine lv_bipush (v := (-9)) hx hb dJ6_getChars_ba4f3_86 (by decide) ?_
  refine lv_icmp_ge (tgt := 104) hx hb dJ6_getChars_ba4f3_88 (by decide) (fun c_88 => ?_) (fun c_88 => absurd (gc_9 (k / 100) (by omega)) c_88)
  refine lv_iload hx hb dJ6_getChars_ba4f3_104 (lv_at hl 4 rfl) ?_
  refine lv_if_eq (tgt := 118) hx hb dJ6_getChars_ba4f3_106 (by decide) (fun c_106 => ?_) (fun c_106 => absurd rfl c_106)
  refine lv_iload hx hb dJ6_getChars_ba4f3_118 (lv_at hl 0 rfl) ?_
  exact q_iret hx hb hr hlocks hW hS ⟨rfl, rfl, rfl⟩ (Nat.le_of_ble_eq_true rfl) (Nat.le_of_ble_eq_true rfl) dJ6_getChars_ba4f3_120

set_option maxHeartbeats 4000000 in
set_option maxRecDepth 100000 in
theorem kJ5_append_d1 (l : Launch) (E : q_E) (f : q_H) (n : Nat) (sb b m k C : Nat) (W : List Int32) (h0 : f sb = some (cSB b (nI W.length))) (h1 : f b = some (aB E m (tx W))) (hq2 : W.length + 3 ≤ C) (hm : m ≤ 2 * C) (hC : C ≤ 2000) (hw : W.length ≤ m) (ho : okb W) (hk : k < 10) : Met l yJ5_append_c97b9 wsJ5_append_c97b9 ({ frames := 4, cells := 1, slots := 2 * C, locals := 200 }) (q_P E [.ref sb, .int (nI k)] f n) (q_Qq E (fun r0 f1 n1 => ∃ (b1 : Nat) (m1 : Nat), some sb = r0 ∧ f1 sb = some (cSB b1 (nI (W ++ dg k).length)) ∧ f1 b1 = some (aB E m1 (tx (W ++ dg k))) ∧ (W ++ dg k).length ≤ m1 ∧ m1 ≤ 2 * C ∧ (b1 = b ∨ n ≤ b1) ∧ n ≤ n1 ∧ ∀ z9, z9 ≠ sb → z9 ≠ b → z9 < n → f1 z9 = f z9)) 1 (2 * C) (q_ge E) := by
  refine Met.ofW (cc := cJ5_append_c97b9) (maxL := 4) (ret := (some (.object "java/lang/AbstractStringBuilder"))) (by decide) rfl ?_
  intro p0_ e0_ s0_ m0_ args0_ below0_ meth0_ c0_ s1_ B hml hv
  obtain ⟨rfl, hA, hW⟩ := hv
  have hx := B.exec
  have hb := B.bytes
  have hr := B.returns
  have hts := atoms_spec (ws := wsJ5_append_c97b9) B.pre
  have hown : s0_.vm.findClass RJ5 = some m0_.cls := findClass_of_methodNamed B.named
  have hlocks := B.notSynchronized
  have hS : va_S (q_ge E) s0_.heap s0_.heap [] := va_S.rf
  have iJ4 : ∀ w ∈ wsJ40, w ∈ wsJ5_append_c97b9 := by decide +kernel
  have hl := lv_entry ([.ref sb, .int (nI k)]) (n := 4) (Nat.le_of_ble_eq_true rfl)
  rw [lg_entry_eq]
  generalize (lg_sl ([.ref sb, .int (nI k)]) ++ List.replicate (4 - (lg_sl ([.ref sb, .int (nI k)])).length) Slot.unset).toArray = ls at hl ⊢
  have hl : lv_has ls 4 [(0, .ref sb), (1, .int (nI k))] := hl
  have l_h0 := hW.lt h0
  have l_h1 := hW.lt h1
  have hbs := ne_ab h0 h1
  have hdl : (dg k).length = 1 := (by rw [dg_1 hk]; rfl)
  refine lv_aload_n hx hb dJ5_append_c97b9_0 rfl (lv_at hl 0 rfl) ?_
  refine q_get hx hb hts hown hA hW iJ4 h0 rfl 3 (by decide) (hts (.fieldLink RJ5 79 "java/lang/AbstractStringBuilder" "count" "I") (by decide +kernel)) (fun _ h9 => h9) (v := .int (nI W.length)) rfl dJ5_append_c97b9_1 ?_
  refine lv_istore_n (lv' := [(2, .int (nI W.length)), (0, .ref sb), (1, .int (nI k))]) hx hb dJ5_append_c97b9_4 rfl hl (by decide) rfl (fun ls hl => ?_)
  refine lv_iload_n hx hb dJ5_append_c97b9_5 rfl (lv_at hl 0 rfl) ?_
  refine lv_iload_n hx hb dJ5_append_c97b9_6 rfl (lv_at hl 2 rfl) ?_
  refine q_ci (va_runS (As := [.int (nI k)]) (rest := [.int (nI W.length)]) ⟨hx, hb, hml, hown, hts⟩ (kJ6_stringSize_1 l E f n k (by assumption)) (va_cwS 1 hts gJ5_append_c97b9_J6_stringSize_0f7a4 rfl rfl rfl (by decide +kernel) ⟨(Nat.le_of_ble_eq_true rfl), (Nat.le_of_ble_eq_true rfl)⟩) (q_pS hA hW hS) rfl rfl hl.1 rfl (lv_room (Nat.le_of_ble_eq_true rfl)) dJ5_append_c97b9_7 ⟨(by show _ ≤ 1; omega), (by show _ ≤ 2 * C; omega)⟩) hS (fun r_7 f_7 n_7 H locs hp hW hS => ?_)
  obtain ⟨rfl, rfl, rfl⟩ := hp
  have hW : q_W E (f) n H := hW
  refine lv_iadd hx hb dJ5_append_c97b9_10 ?_
  rw [show nI W.length + 1 = nI (W.length + 1) from nI_add W.length 1]
  refine lv_istore_n (lv' := [(3, .int (nI (W.length + 1))), (2, .int (nI W.length)), (0, .ref sb), (1, .int (nI k))]) hx hb dJ5_append_c97b9_11 rfl hl (by decide) rfl (fun ls hl => ?_)
  refine lv_aload_n hx hb dJ5_append_c97b9_12 rfl (lv_at hl 2 rfl) ?_
  refine lv_iload_n hx hb dJ5_append_c97b9_13 rfl (lv_at hl 0 rfl) ?_
  refine q_cv (va_runU (As := [.int (nI (W.length + 1))]) (rest := []) ⟨hx, hb, hml, hown, hts⟩ (kJ5_ensureCapacityInternal_d00df l E f n sb b m (W.length + 1) C W (nI W.length) h0 h1 (by omega) (by assumption) (by assumption) (by assumption) (by assumption)) (va_cwU 1 hts gJ5_append_c97b9_J5_ensureCapacityInternal_d00df_u100J4 rfl rfl rfl rfl (by decide +kernel) ⟨(Nat.le_of_ble_eq_true rfl), (Nat.le_of_ble_eq_true rfl)⟩) (q_pV hA hW hS (ci := 1) rfl h0) rfl rfl hl.1 rfl (lv_room (Nat.le_of_ble_eq_true rfl)) dJ5_append_c97b9_14 ⟨(by show _ ≤ 1; omega), (by show _ ≤ 2 * C; omega)⟩) hS (fun f_14 n_14 H locs hp hW hS => ?_)
  obtain ⟨b1_14, m1_14, e0_14, e1_14, eq_14, em_14, em4_14, eb_14, en_14, hfr_14⟩ := hp
  have l_e0_14 := hW.lt e0_14
  have l_e1_14 := hW.lt e1_14
  refine lv_aload_n hx hb dJ5_append_c97b9_17 rfl (lv_at hl 2 rfl) ?_
  refine q_ci (va_runU (As := []) (rest := []) ⟨hx, hb, hml, hown, hts⟩ (kJ5_isLatin1_aae02 l E f_14 n_14 sb b1_14 (nI W.length) e0_14) (va_cwU 0 hts gJ5_append_c97b9_J5_isLatin1_aae02_u83J4 rfl rfl rfl rfl (by decide +kernel) ⟨(Nat.le_of_ble_eq_true rfl), (Nat.le_of_ble_eq_true rfl)⟩) (q_pV hA hW hS (ci := 1) rfl e0_14) rfl rfl hl.1 rfl (lv_room (Nat.le_of_ble_eq_true rfl)) dJ5_append_c97b9_18 ⟨(by show _ ≤ 1; omega), (by show _ ≤ 2 * C; omega)⟩) hS (fun r_18 f_18 n_18 H locs hp hW hS => ?_)
  obtain ⟨rfl, rfl, rfl⟩ := hp
  have hW : q_W E (f_14) n_14 H := hW
  refine lv_if_eq (tgt := 37) hx hb dJ5_append_c97b9_21 (by decide) (fun c_21 => False.elim ((fun h9 => absurd h9 (by decide)) c_21)) (fun c_21 => ?_)
  refine lv_iload_n hx hb dJ5_append_c97b9_24 rfl (lv_at hl 3 rfl) ?_
  refine lv_iload_n hx hb dJ5_append_c97b9_25 rfl (lv_at hl 0 rfl) ?_
  refine lv_aload_n hx hb dJ5_append_c97b9_26 rfl (lv_at hl 2 rfl) ?_
  refine q_get hx hb hts hown hA hW iJ4 e0_14 rfl 0 (by decide) (hts (.fieldLink RJ5 15 "java/lang/AbstractStringBuilder" "value" "[B") (by decide +kernel)) (fun _ h9 => h9) (v := .ref b1_14) rfl dJ5_append_c97b9_27 ?_
  refine q_ci (va_runS (As := [.int (nI k), .int (nI (W.length + 1)), .ref b1_14]) (rest := []) ⟨hx, hb, hml, hown, hts⟩ (kJ6_getChars_1 l E f_14 n_14 k b1_14 m1_14 W e1_14 (by assumption) eq_14 (by omega)) (va_cwS 3 hts gJ5_append_c97b9_J6_getChars_ba4f3 rfl rfl rfl (by decide +kernel) ⟨(Nat.le_of_ble_eq_true rfl), (Nat.le_of_ble_eq_true rfl)⟩) (q_pS hA hW hS) rfl rfl hl.1 rfl (lv_room (Nat.le_of_ble_eq_true rfl)) dJ5_append_c97b9_30 ⟨(by show _ ≤ 1; omega), (by show _ ≤ 2 * C; omega)⟩) hS (fun r_30 f_30 n_30 H locs hp hW hS => ?_)
  obtain ⟨rfl, rfl, rfl⟩ := hp
  have hW : q_W E (va_up f_14 b1_14 (some (aB E m1_14 (tx (W ++ dg k))))) n_14 H := hW
  refine lv_pop hx hb dJ5_append_c97b9_33 rfl ?_
  refine lv_goto (tgt := 48) hx hb dJ5_append_c97b9_34 (by decide) ?_
  refine lv_aload_n hx hb dJ5_append_c97b9_48 rfl (lv_at hl 2 rfl) ?_
  refine lv_iload_n hx hb dJ5_append_c97b9_49 rfl (lv_at hl 0 rfl) ?_
  refine q_put hx hb hts hown hA hW hS iJ4 tyJ4 tyJ4_ok nmJ4 (q_ne (by omega) e0_14) rfl 3 (by decide) (hts (.fieldLink RJ5 79 "java/lang/AbstractStringBuilder" "count" "I") (by decide +kernel)) (fun _ h9 => h9) rfl rfl rfl (Nat.le_of_ble_eq_true rfl) dJ5_append_c97b9_50 (fun H locs hW hS => ?_)
  have hW : q_W E (va_up (va_up f_14 b1_14 (some (aB E m1_14 (tx (W ++ dg k))))) sb (some (cSB b1_14 (nI (W.length + 1))))) n_14 H := hW
  have eL : (W ++ dg k).length = W.length + 1 := by rw [List.length_append, hdl]
  rw [← eL] at hW
  refine lv_aload_n hx hb dJ5_append_c97b9_53 rfl (lv_at hl 2 rfl) ?_
  exact q_aret (v := some sb) hx hb hr (Or.inl ⟨_, rfl⟩) hlocks hW hS ⟨b1_14, m1_14, rfl, q_eq, (q_ne (by omega) q_eq), (by rw [eL]; exact eq_14), em4_14, eb_14, en_14, (fun q g0 g1 g2 => (q_ne (by omega) (q_ne (by omega) ((hfr_14 _ (by omega) (by omega) (by omega)).trans rfl))))⟩ (by show _ ≤ 1; omega) (by show _ ≤ 2 * C; omega) dJ5_append_c97b9_54

set_option maxHeartbeats 4000000 in
set_option maxRecDepth 100000 in
theorem kJ5_append_d2 (l : Launch) (E : q_E) (f : q_H) (n : Nat) (sb b m k C : Nat) (W : List Int32) (h0 : f sb = some (cSB b (nI W.length))) (h1 : f b = some (aB E m (tx W))) (hq2 : W.length + 3 ≤ C) (hm : m ≤ 2 * C) (hC : C ≤ 2000) (hw : W.length ≤ m) (ho : okb W) (hk : k < 100) (hk1 : ¬ k < 10) : Met l yJ5_append_c97b9 wsJ5_append_c97b9 ({ frames := 4, cells := 1, slots := 2 * C, locals := 200 }) (q_P E [.ref sb, .int (nI k)] f n) (q_Qq E (fun r0 f1 n1 => ∃ (b1 : Nat) (m1 : Nat), some sb = r0 ∧ f1 sb = some (cSB b1 (nI (W ++ dg k).length)) ∧ f1 b1 = some (aB E m1 (tx (W ++ dg k))) ∧ (W ++ dg k).length ≤ m1 ∧ m1 ≤ 2 * C ∧ (b1 = b ∨ n ≤ b1) ∧ n ≤ n1 ∧ ∀ z9, z9 ≠ sb → z9 ≠ b → z9 < n → f1 z9 = f z9)) 1 (2 * C) (q_ge E) := by
  refine Met.ofW (cc := cJ5_append_c97b9) (maxL := 4) (ret := (some (.object "java/lang/AbstractStringBuilder"))) (by decide) rfl ?_
  intro p0_ e0_ s0_ m0_ args0_ below0_ meth0_ c0_ s1_ B hml hv
  obtain ⟨rfl, hA, hW⟩ := hv
  have hx := B.exec
  have hb := B.bytes
  have hr := B.returns
  have hts := atoms_spec (ws := wsJ5_append_c97b9) B.pre
  have hown : s0_.vm.findClass RJ5 = some m0_.cls := findClass_of_methodNamed B.named
  have hlocks := B.notSynchronized
  have hS : va_S (q_ge E) s0_.heap s0_.heap [] := va_S.rf
  have iJ4 : ∀ w ∈ wsJ40, w ∈ wsJ5_append_c97b9 := by decide +kernel
  have hl := lv_entry ([.ref sb, .int (nI k)]) (n := 4) (Nat.le_of_ble_eq_true rfl)
  rw [lg_entry_eq]
  generalize (lg_sl ([.ref sb, .int (nI k)]) ++ List.replicate (4 - (lg_sl ([.ref sb, .int (nI k)])).length) Slot.unset).toArray = ls at hl ⊢
  have hl : lv_has ls 4 [(0, .ref sb), (1, .int (nI k))] := hl
  have l_h0 := hW.lt h0
  have l_h1 := hW.lt h1
  have hbs := ne_ab h0 h1
  have hdl : (dg k).length = 2 := (by rw [dg_2 hk hk1]; rfl)
  refine lv_aload_n hx hb dJ5_append_c97b9_0 rfl (lv_at hl 0 rfl) ?_
  refine q_get hx hb hts hown hA hW iJ4 h0 rfl 3 (by decide) (hts (.fieldLink RJ5 79 "java/lang/AbstractStringBuilder" "count" "I") (by decide +kernel)) (fun _ h9 => h9) (v := .int (nI W.length)) rfl dJ5_append_c97b9_1 ?_
  refine lv_istore_n (lv' := [(2, .int (nI W.length)), (0, .ref sb), (1, .int (nI k))]) hx hb dJ5_append_c97b9_4 rfl hl (by decide) rfl (fun ls hl => ?_)
  refine lv_iload_n hx hb dJ5_append_c97b9_5 rfl (lv_at hl 0 rfl) ?_
  refine lv_iload_n hx hb dJ5_append_c97b9_6 rfl (lv_at hl 2 rfl) ?_
  refine q_ci (va_runS (As := [.int (nI k)]) (rest := [.int (nI W.length)]) ⟨hx, hb, hml, hown, hts⟩ (kJ6_stringSize_2 l E f n k (by assumption) (by assumption)) (va_cwS 1 hts gJ5_append_c97b9_J6_stringSize_0f7a4 rfl rfl rfl (by decide +kernel) ⟨(Nat.le_of_ble_eq_true rfl), (Nat.le_of_ble_eq_true rfl)⟩) (q_pS hA hW hS) rfl rfl hl.1 rfl (lv_room (Nat.le_of_ble_eq_true rfl)) dJ5_append_c97b9_7 ⟨(by show _ ≤ 1; omega), (by show _ ≤ 2 * C; omega)⟩) hS (fun r_7 f_7 n_7 H locs hp hW hS => ?_)
  obtain ⟨rfl, rfl, rfl⟩ := hp
  have hW : q_W E (f) n H := hW
  refine lv_iadd hx hb dJ5_append_c97b9_10 ?_
  rw [show nI W.length + 2 = nI (W.length + 2) from nI_add W.length 2]
  refine lv_istore_n (lv' := [(3, .int (nI (W.length + 2))), (2, .int (nI W.length)), (0, .ref sb), (1, .int (nI k))]) hx hb dJ5_append_c97b9_11 rfl hl (by decide) rfl (fun ls hl => ?_)
  refine lv_aload_n hx hb dJ5_append_c97b9_12 rfl (lv_at hl 2 rfl) ?_
  refine lv_iload_n hx hb dJ5_append_c97b9_13 rfl (lv_at hl 0 rfl) ?_
  refine q_cv (va_runU (As := [.int (nI (W.length + 2))]) (rest := []) ⟨hx, hb, hml, hown, hts⟩ (kJ5_ensureCapacityInternal_d00df l E f n sb b m (W.length + 2) C W (nI W.length) h0 h1 (by omega) (by assumption) (by assumption) (by assumption) (by assumption)) (va_cwU 1 hts gJ5_append_c97b9_J5_ensureCapacityInternal_d00df_u100J4 rfl rfl rfl rfl (by decide +kernel) ⟨(Nat.le_of_ble_eq_true rfl), (Nat.le_of_ble_eq_true rfl)⟩) (q_pV hA hW hS (ci := 1) rfl h0) rfl rfl hl.1 rfl (lv_room (Nat.le_of_ble_eq_true rfl)) dJ5_append_c97b9_14 ⟨(by show _ ≤ 1; omega), (by show _ ≤ 2 * C; omega)⟩) hS (fun f_14 n_14 H locs hp hW hS => ?_)
  obtain ⟨b1_14, m1_14, e0_14, e1_14, eq_14, em_14, em4_14, eb_14, en_14, hfr_14⟩ := hp
  have l_e0_14 := hW.lt e0_14
  have l_e1_14 := hW.lt e1_14
  refine lv_aload_n hx hb dJ5_append_c97b9_17 rfl (lv_at hl 2 rfl) ?_
  refine q_ci (va_runU (As := []) (rest := []) ⟨hx, hb, hml, hown, hts⟩ (kJ5_isLatin1_aae02 l E f_14 n_14 sb b1_14 (nI W.length) e0_14) (va_cwU 0 hts gJ5_append_c97b9_J5_isLatin1_aae02_u83J4 rfl rfl rfl rfl (by decide +kernel) ⟨(Nat.le_of_ble_eq_true rfl), (Nat.le_of_ble_eq_true rfl)⟩) (q_pV hA hW hS (ci := 1) rfl e0_14) rfl rfl hl.1 rfl (lv_room (Nat.le_of_ble_eq_true rfl)) dJ5_append_c97b9_18 ⟨(by show _ ≤ 1; omega), (by show _ ≤ 2 * C; omega)⟩) hS (fun r_18 f_18 n_18 H locs hp hW hS => ?_)
  obtain ⟨rfl, rfl, rfl⟩ := hp
  have hW : q_W E (f_14) n_14 H := hW
  refine lv_if_eq (tgt := 37) hx hb dJ5_append_c97b9_21 (by decide) (fun c_21 => False.elim ((fun h9 => absurd h9 (by decide)) c_21)) (fun c_21 => ?_)
  refine lv_iload_n hx hb dJ5_append_c97b9_24 rfl (lv_at hl 3 rfl) ?_
  refine lv_iload_n hx hb dJ5_append_c97b9_25 rfl (lv_at hl 0 rfl) ?_
  refine lv_aload_n hx hb dJ5_append_c97b9_26 rfl (lv_at hl 2 rfl) ?_
  refine q_get hx hb hts hown hA hW iJ4 e0_14 rfl 0 (by decide) (hts (.fieldLink RJ5 15 "java/lang/AbstractStringBuilder" "value" "[B") (by decide +kernel)) (fun _ h9 => h9) (v := .ref b1_14) rfl dJ5_append_c97b9_27 ?_
  refine q_ci (va_runS (As := [.int (nI k), .int (nI (W.length + 2)), .ref b1_14]) (rest := []) ⟨hx, hb, hml, hown, hts⟩ (kJ6_getChars_2 l E f_14 n_14 k b1_14 m1_14 W e1_14 (by assumption) (by assumption) eq_14 (by omega)) (va_cwS 3 hts gJ5_append_c97b9_J6_getChars_ba4f3 rfl rfl rfl (by decide +kernel) ⟨(Nat.le_of_ble_eq_true rfl), (Nat.le_of_ble_eq_true rfl)⟩) (q_pS hA hW hS) rfl rfl hl.1 rfl (lv_room (Nat.le_of_ble_eq_true rfl)) dJ5_append_c97b9_30 ⟨(by show _ ≤ 1; omega), (by show _ ≤ 2 * C; omega)⟩) hS (fun r_30 f_30 n_30 H locs hp hW hS => ?_)
  obtain ⟨rfl, rfl, rfl⟩ := hp
  have hW : q_W E (va_up f_14 b1_14 (some (aB E m1_14 (tx (W ++ dg k))))) n_14 H := hW
  refine lv_pop hx hb dJ5_append_c97b9_33 rfl ?_
  refine lv_goto (tgt := 48) hx hb dJ5_append_c97b9_34 (by decide) ?_
  refine lv_aload_n hx hb dJ5_append_c97b9_48 rfl (lv_at hl 2 rfl) ?_
  refine lv_iload_n hx hb dJ5_append_c97b9_49 rfl (lv_at hl 0 rfl) ?_
  refine q_put hx hb hts hown hA hW hS iJ4 tyJ4 tyJ4_ok nmJ4 (q_ne (by omega) e0_14) rfl 3 (by decide) (hts (.fieldLink RJ5 79 "java/lang/AbstractStringBuilder" "count" "I") (by decide +kernel)) (fun _ h9 => h9) rfl rfl rfl (Nat.le_of_ble_eq_true rfl) dJ5_append_c97b9_50 (fun H locs hW hS => ?_)
  have hW : q_W E (va_up (va_up f_14 b1_14 (some (aB E m1_14 (tx (W ++ dg k))))) sb (some (cSB b1_14 (nI (W.length + 2))))) n_14 H := hW
  have eL : (W ++ dg k).length = W.length + 2 := by rw [List.length_append, hdl]
  rw [← eL] at hW
  refine lv_aload_n hx hb dJ5_append_c97b9_53 rfl (lv_at hl 2 rfl) ?_
  exact q_aret (v := some sb) hx hb hr (Or.inl ⟨_, rfl⟩) hlocks hW hS ⟨b1_14, m1_14, rfl, q_eq, (q_ne (by omega) q_eq), (by rw [eL]; exact eq_14), em4_14, eb_14, en_14, (fun q g0 g1 g2 => (q_ne (by omega) (q_ne (by omega) ((hfr_14 _ (by omega) (by omega) (by omega)).trans rfl))))⟩ (by show _ ≤ 1; omega) (by show _ ≤ 2 * C; omega) dJ5_append_c97b9_54

set_option maxHeartbeats 4000000 in
set_option maxRecDepth 100000 in
theorem kJ5_append_d3 (l : Launch) (E : q_E) (f : q_H) (n : Nat) (sb b m k C : Nat) (W : List Int32) (h0 : f sb = some (cSB b (nI W.length))) (h1 : f b = some (aB E m (tx W))) (hq2 : W.length + 3 ≤ C) (hm : m ≤ 2 * C) (hC : C ≤ 2000) (hw : W.length ≤ m) (ho : okb W) (hk : k < 1000) (hk1 : ¬ k < 100) : Met l yJ5_append_c97b9 wsJ5_append_c97b9 ({ frames := 4, cells := 1, slots := 2 * C, locals := 200 }) (q_P E [.ref sb, .int (nI k)] f n) (q_Qq E (fun r0 f1 n1 => ∃ (b1 : Nat) (m1 : Nat), some sb = r0 ∧ f1 sb = some (cSB b1 (nI (W ++ dg k).length)) ∧ f1 b1 = some (aB E m1 (tx (W ++ dg k))) ∧ (W ++ dg k).length ≤ m1 ∧ m1 ≤ 2 * C ∧ (b1 = b ∨ n ≤ b1) ∧ n ≤ n1 ∧ ∀ z9, z9 ≠ sb → z9 ≠ b → z9 < n → f1 z9 = f z9)) 1 (2 * C) (q_ge E) := by
  refine Met.ofW (cc := cJ5_append_c97b9) (maxL := 4) (ret := (some (.object "java/lang/AbstractStringBuilder"))) (by decide) rfl ?_
  intro p0_ e0_ s0_ m0_ args0_ below0_ meth0_ c0_ s1_ B hml hv
  obtain ⟨rfl, hA, hW⟩ := hv
  have hx := B.exec
  have hb := B.bytes
  have hr := B.returns
  have hts := atoms_spec (ws := wsJ5_append_c97b9) B.pre
  have hown : s0_.vm.findClass RJ5 = some m0_.cls := findClass_of_methodNamed B.named
  have hlocks := B.notSynchronized
  have hS : va_S (q_ge E) s0_.heap s0_.heap [] := va_S.rf
  have iJ4 : ∀ w ∈ wsJ40, w ∈ wsJ5_append_c97b9 := by decide +kernel
  have hl := lv_entry ([.ref sb, .int (nI k)]) (n := 4) (Nat.le_of_ble_eq_true rfl)
  rw [lg_entry_eq]
  generalize (lg_sl ([.ref sb, .int (nI k)]) ++ List.replicate (4 - (lg_sl ([.ref sb, .int (nI k)])).length) Slot.unset).toArray = ls at hl ⊢
  have hl : lv_has ls 4 [(0, .ref sb), (1, .int (nI k))] := hl
  have l_h0 := hW.lt h0
  have l_h1 := hW.lt h1
  have hbs := ne_ab h0 h1
  have hdl : (dg k).length = 3 := (by rw [dg_3 hk1]; rfl)
  refine lv_aload_n hx hb dJ5_append_c97b9_0 rfl (lv_at hl 0 rfl) ?_
  refine q_get hx hb hts hown hA hW iJ4 h0 rfl 3 (by decide) (hts (.fieldLink RJ5 79 "java/lang/AbstractStringBuilder" "count" "I") (by decide +kernel)) (fun _ h9 => h9) (v := .int (nI W.length)) rfl dJ5_append_c97b9_1 ?_
  refine lv_istore_n (lv' := [(2, .int (nI W.length)), (0, .ref sb), (1, .int (nI k))]) hx hb dJ5_append_c97b9_4 rfl hl (by decide) rfl (fun ls hl => ?_)
  refine lv_iload_n hx hb dJ5_append_c97b9_5 rfl (lv_at hl 0 rfl) ?_
  refine lv_iload_n hx hb dJ5_append_c97b9_6 rfl (lv_at hl 2 rfl) ?_
  refine q_ci (va_runS (As := [.int (nI k)]) (rest := [.int (nI W.length)]) ⟨hx, hb, hml, hown, hts⟩ (kJ6_stringSize_3 l E f n k (by assumption) (by assumption)) (va_cwS 1 hts gJ5_append_c97b9_J6_stringSize_0f7a4 rfl rfl rfl (by decide +kernel) ⟨(Nat.le_of_ble_eq_true rfl), (Nat.le_of_ble_eq_true rfl)⟩) (q_pS hA hW hS) rfl rfl hl.1 rfl (lv_room (Nat.le_of_ble_eq_true rfl)) dJ5_append_c97b9_7 ⟨(by show _ ≤ 1; omega), (by show _ ≤ 2 * C; omega)⟩) hS (fun r_7 f_7 n_7 H locs hp hW hS => ?_)
  obtain ⟨rfl, rfl, rfl⟩ := hp
  have hW : q_W E (f) n H := hW
  refine lv_iadd hx hb dJ5_append_c97b9_10 ?_
  rw [show nI W.length + 3 = nI (W.length + 3) from nI_add W.length 3]
  refine lv_istore_n (lv' := [(3, .int (nI (W.length + 3))), (2, .int (nI W.length)), (0, .ref sb), (1, .int (nI k))]) hx hb dJ5_append_c97b9_11 rfl hl (by decide) rfl (fun ls hl => ?_)
  refine lv_aload_n hx hb dJ5_append_c97b9_12 rfl (lv_at hl 2 rfl) ?_
  refine lv_iload_n hx hb dJ5_append_c97b9_13 rfl (lv_at hl 0 rfl) ?_
  refine q_cv (va_runU (As := [.int (nI (W.length + 3))]) (rest := []) ⟨hx, hb, hml, hown, hts⟩ (kJ5_ensureCapacityInternal_d00df l E f n sb b m (W.length + 3) C W (nI W.length) h0 h1 (by omega) (by assumption) (by assumption) (by assumption) (by assumption)) (va_cwU 1 hts gJ5_append_c97b9_J5_ensureCapacityInternal_d00df_u100J4 rfl rfl rfl rfl (by decide +kernel) ⟨(Nat.le_of_ble_eq_true rfl), (Nat.le_of_ble_eq_true rfl)⟩) (q_pV hA hW hS (ci := 1) rfl h0) rfl rfl hl.1 rfl (lv_room (Nat.le_of_ble_eq_true rfl)) dJ5_append_c97b9_14 ⟨(by show _ ≤ 1; omega), (by show _ ≤ 2 * C; omega)⟩) hS (fun f_14 n_14 H locs hp hW hS => ?_)
  obtain ⟨b1_14, m1_14, e0_14, e1_14, eq_14, em_14, em4_14, eb_14, en_14, hfr_14⟩ := hp
  have l_e0_14 := hW.lt e0_14
  have l_e1_14 := hW.lt e1_14
  refine lv_aload_n hx hb dJ5_append_c97b9_17 rfl (lv_at hl 2 rfl) ?_
  refine q_ci (va_runU (As := []) (rest := []) ⟨hx, hb, hml, hown, hts⟩ (kJ5_isLatin1_aae02 l E f_14 n_14 sb b1_14 (nI W.length) e0_14) (va_cwU 0 hts gJ5_append_c97b9_J5_isLatin1_aae02_u83J4 rfl rfl rfl rfl (by decide +kernel) ⟨(Nat.le_of_ble_eq_true rfl), (Nat.le_of_ble_eq_true rfl)⟩) (q_pV hA hW hS (ci := 1) rfl e0_14) rfl rfl hl.1 rfl (lv_room (Nat.le_of_ble_eq_true rfl)) dJ5_append_c97b9_18 ⟨(by show _ ≤ 1; omega), (by show _ ≤ 2 * C; omega)⟩) hS (fun r_18 f_18 n_18 H locs hp hW hS => ?_)
  obtain ⟨rfl, rfl, rfl⟩ := hp
  have hW : q_W E (f_14) n_14 H := hW
  refine lv_if_eq (tgt := 37) hx hb dJ5_append_c97b9_21 (by decide) (fun c_21 => False.elim ((fun h9 => absurd h9 (by decide)) c_21)) (fun c_21 => ?_)
  refine lv_iload_n hx hb dJ5_append_c97b9_24 rfl (lv_at hl 3 rfl) ?_
  refine lv_iload_n hx hb dJ5_append_c97b9_25 rfl (lv_at hl 0 rfl) ?_
  refine lv_aload_n hx hb dJ5_append_c97b9_26 rfl (lv_at hl 2 rfl) ?_
  refine q_get hx hb hts hown hA hW iJ4 e0_14 rfl 0 (by decide) (hts (.fieldLink RJ5 15 "java/lang/AbstractStringBuilder" "value" "[B") (by decide +kernel)) (fun _ h9 => h9) (v := .ref b1_14) rfl dJ5_append_c97b9_27 ?_
  refine q_ci (va_runS (As := [.int (nI k), .int (nI (W.length + 3)), .ref b1_14]) (rest := []) ⟨hx, hb, hml, hown, hts⟩ (kJ6_getChars_3 l E f_14 n_14 k b1_14 m1_14 W e1_14 (by assumption) (by assumption) eq_14 (by omega)) (va_cwS 3 hts gJ5_append_c97b9_J6_getChars_ba4f3 rfl rfl rfl (by decide +kernel) ⟨(Nat.le_of_ble_eq_true rfl), (Nat.le_of_ble_eq_true rfl)⟩) (q_pS hA hW hS) rfl rfl hl.1 rfl (lv_room (Nat.le_of_ble_eq_true rfl)) dJ5_append_c97b9_30 ⟨(by show _ ≤ 1; omega), (by show _ ≤ 2 * C; omega)⟩) hS (fun r_30 f_30 n_30 H locs hp hW hS => ?_)
  obtain ⟨rfl, rfl, rfl⟩ := hp
  have hW : q_W E (va_up f_14 b1_14 (some (aB E m1_14 (tx (W ++ dg k))))) n_14 H := hW
  refine lv_pop hx hb dJ5_append_c97b9_33 rfl ?_
  refine lv_goto (tgt := 48) hx hb dJ5_append_c97b9_34 (by decide) ?_
  refine lv_aload_n hx hb dJ5_append_c97b9_48 rfl (lv_at hl 2 rfl) ?_
  refine lv_iload_n hx hb dJ5_append_c97b9_49 rfl (lv_at hl 0 rfl) ?_
  refine q_put hx hb hts hown hA hW hS iJ4 tyJ4 tyJ4_ok nmJ4 (q_ne (by omega) e0_14) rfl 3 (by decide) (hts (.fieldLink RJ5 79 "java/lang/AbstractStringBuilder" "count" "I") (by decide +kernel)) (fun _ h9 => h9) rfl rfl rfl (Nat.le_of_ble_eq_true rfl) dJ5_append_c97b9_50 (fun H locs hW hS => ?_)
  have hW : q_W E (va_up (va_up f_14 b1_14 (some (aB E m1_14 (tx (W ++ dg k))))) sb (some (cSB b1_14 (nI (W.length + 3))))) n_14 H := hW
  have eL : (W ++ dg k).length = W.length + 3 := by rw [List.length_append, hdl]
  rw [← eL] at hW
  refine lv_aload_n hx hb dJ5_append_c97b9_53 rfl (lv_at hl 2 rfl) ?_
  exact q_aret (v := some sb) hx hb hr (Or.inl ⟨_, rfl⟩) hlocks hW hS ⟨b1_14, m1_14, rfl, q_eq, (q_ne (by omega) q_eq), (by rw [eL]; exact eq_14), em4_14, eb_14, en_14, (fun q g0 g1 g2 => (q_ne (by omega) (q_ne (by omega) ((hfr_14 _ (by omega) (by omega) (by omega)).trans rfl))))⟩ (by show _ ≤ 1; omega) (by show _ ≤ 2 * C; omega) dJ5_append_c97b9_54

theorem kJ5_append_d (l : Launch) (E : q_E) (f : q_H) (n : Nat) (sb b m k C : Nat) (W : List Int32) (h0 : f sb = some (cSB b (nI W.length))) (h1 : f b = some (aB E m (tx W))) (hq2 : W.length + 3 ≤ C) (hm : m ≤ 2 * C) (hC : C ≤ 2000) (hw : W.length ≤ m) (ho : okb W) (hk : k < 1000) : Met l yJ5_append_c97b9 wsJ5_append_c97b9 ({ frames := 4, cells := 1, slots := 2 * C, locals := 200 }) (q_P E [.ref sb, .int (nI k)] f n) (q_Qq E (fun r0 f1 n1 => ∃ (b1 : Nat) (m1 : Nat), some sb = r0 ∧ f1 sb = some (cSB b1 (nI (W ++ dg k).length)) ∧ f1 b1 = some (aB E m1 (tx (W ++ dg k))) ∧ (W ++ dg k).length ≤ m1 ∧ m1 ≤ 2 * C ∧ (b1 = b ∨ n ≤ b1) ∧ n ≤ n1 ∧ ∀ z9, z9 ≠ sb → z9 ≠ b → z9 < n → f1 z9 = f z9)) 1 (2 * C) (q_ge E) := by
  by_cases h10 : k < 10
  · exact kJ5_append_d1 l E f n sb b m k C W h0 h1 hq2 hm hC hw ho h10
  · by_cases h100 : k < 100
    · exact kJ5_append_d2 l E f n sb b m k C W h0 h1 hq2 hm hC hw ho h100 h10
    · exact kJ5_append_d3 l E f n sb b m k C W h0 h1 hq2 hm hC hw ho hk h100

set_option maxHeartbeats 4000000 in
set_option maxRecDepth 100000 in
theorem kJ4_append_bf812 (l : Launch) (E : q_E) (f : q_H) (n : Nat) (sb b m k C : Nat) (W : List Int32) (h0 : f sb = some (cSB b (nI W.length))) (h1 : f b = some (aB E m (tx W))) (hq2 : W.length + 3 ≤ C) (hm : m ≤ 2 * C) (hC : C ≤ 2000) (hw : W.length ≤ m) (ho : okb W) (hk : k < 1000) : Met l yJ4_append_bf812 wsJ4_append_bf812 ({ frames := 5, cells := 1, slots := 2 * C, locals := 223 }) (q_P E [.ref sb, .int (nI k)] f n) (q_Qq E (fun r0 f1 n1 => ∃ (b1 : Nat) (m1 : Nat), some sb = r0 ∧ f1 sb = some (cSB b1 (nI (W ++ dg k).length)) ∧ f1 b1 = some (aB E m1 (tx (W ++ dg k))) ∧ (W ++ dg k).length ≤ m1 ∧ m1 ≤ 2 * C ∧ (b1 = b ∨ n ≤ b1) ∧ n ≤ n1 ∧ ∀ z9, z9 ≠ sb → z9 ≠ b → z9 < n → f1 z9 = f z9)) 1 (2 * C) (q_ge E) := by
  refine Met.ofW (cc := cJ4_append_bf812) (maxL := 2) (ret := (some (.object "java/lang/StringBuilder"))) (by decide) rfl ?_
  intro p0_ e0_ s0_ m0_ args0_ below0_ meth0_ c0_ s1_ B hml hv
  obtain ⟨rfl, hA, hW⟩ := hv
  have hx := B.exec
  have hb := B.bytes
  have hr := B.returns
  have hts := atoms_spec (ws := wsJ4_append_bf812) B.pre
  have hown : s0_.vm.findClass RJ4 = some m0_.cls := findClass_of_methodNamed B.named
  have hlocks := B.notSynchronized
  have hS : va_S (q_ge E) s0_.heap s0_.heap [] := va_S.rf
  have hl := lv_entry ([.ref sb, .int (nI k)]) (n := 2) (Nat.le_of_ble_eq_true rfl)
  rw [lg_entry_eq]
  generalize (lg_sl ([.ref sb, .int (nI k)]) ++ List.replicate (2 - (lg_sl ([.ref sb, .int (nI k)])).length) Slot.unset).toArray = ls at hl ⊢
  have hl : lv_has ls 2 [(0, .ref sb), (1, .int (nI k))] := hl
  have l_h0 := hW.lt h0
  have l_h1 := hW.lt h1
  have hbs := ne_ab h0 h1
  refine lv_aload_n hx hb dJ4_append_bf812_0 rfl (lv_at hl 0 rfl) ?_
  refine lv_iload_n hx hb dJ4_append_bf812_1 rfl (lv_at hl 1 rfl) ?_
  refine q_cq (va_runSU (hA.1.1 1 _ rfl).2 (As := [.int (nI k)]) (rest := []) ⟨hx, hb, hml, hown, hts⟩ (kJ5_append_d l E f n sb b m k C W h0 h1 (by assumption) (by assumption) (by assumption) (by assumption) (by assumption) (by assumption)) (va_cwSU 1 hts gJ4_append_bf812_J5_append_c97b9_s53 rfl rfl rfl (by decide +kernel) ⟨(Nat.le_of_ble_eq_true rfl), (Nat.le_of_ble_eq_true rfl)⟩) (q_pV hA hW hS (ci := 1) rfl h0) rfl rfl hl.1 rfl (lv_room (Nat.le_of_ble_eq_true rfl)) dJ4_append_bf812_2 ⟨(by show _ ≤ 1; omega), (by show _ ≤ 2 * C; omega)⟩) hS (fun r_2 f_2 n_2 H locs hp hW hS => ?_)
  obtain ⟨b1_2, m1_2, rfl, e0_2, e1_2, el_2, em4_2, eb_2, en_2, hfr_2⟩ := hp
  have l_e0_2 := hW.lt e0_2
  have l_e1_2 := hW.lt e1_2
  refine lv_pop hx hb dJ4_append_bf812_5 rfl ?_
  refine lv_aload_n hx hb dJ4_append_bf812_6 rfl (lv_at hl 0 rfl) ?_
  exact q_aret (v := some sb) hx hb hr (Or.inl ⟨_, rfl⟩) hlocks hW hS ⟨b1_2, m1_2, rfl, e0_2, e1_2, el_2, em4_2, eb_2, en_2, (fun q g0 g1 g2 => ((hfr_2 _ (by omega) (by omega) (by omega)).trans rfl))⟩ (by show _ ≤ 1; omega) (by show _ ≤ 2 * C; omega) dJ4_append_bf812_7

theorem mn_le {k m : Nat} (h : k ≤ m) (hm : m < 2 ^ 31) : q_min (nI m) (nI k) = nI k := by
  unfold q_min
  rcases Nat.lt_or_ge k m with h1 | h1
  · rw [if_pos (nI_lt h1 hm)]
  · obtain rfl : k = m := by omega
    split <;> rfl
theorem tx_nil : tx [] = fun _ => 0 := funext fun _ => rfl
theorem nI_s0 (a : Nat) : nI a - 0 = nI a := Int32.sub_zero _

set_option maxHeartbeats 4000000 in
set_option maxRecDepth 100000 in
theorem kJ7_checkLength_df160 (l : Launch) (E : q_E) (f : q_H) (n : Nat) (k : Nat)  (hk : k ≤ 4000) : Met l yJ7_checkLength_df160 wsJ7_checkLength_df160 ({ frames := 0, cells := 0, slots := 0, locals := 0 }) (q_P E [.int 0, .int (nI k)] f n) (q_Qv E (fun f1 n1 => f = f1 ∧ n = n1)) 0 0 (q_ge E) := by
  refine Met.ofW (cc := cJ7_checkLength_df160) (maxL := 2) (ret := none) (by decide) rfl ?_
  intro p0_ e0_ s0_ m0_ args0_ below0_ meth0_ c0_ s1_ B hml hv
  obtain ⟨rfl, hA, hW⟩ := hv
  have hx := B.exec
  have hb := B.bytes
  have hr := B.returns
  have hts := atoms_spec (ws := wsJ7_checkLength_df160) B.pre
  have hown : s0_.vm.findClass RJ7 = some m0_.cls := findClass_of_methodNamed B.named
  have hlocks := B.notSynchronized
  have hS : va_S (q_ge E) s0_.heap s0_.heap [] := va_S.rf
  have hl := lv_entry ([.int 0, .int (nI k)]) (n := 2) (Nat.le_of_ble_eq_true rfl)
  rw [lg_entry_eq]
  generalize (lg_sl ([.int 0, .int (nI k)]) ++ List.replicate (2 - (lg_sl ([.int 0, .int (nI k)])).length) Slot.unset).toArray = ls at hl ⊢
  have hl : lv_has ls 2 [(0, .int 0), (1, .int (nI k))] := hl
  refine lv_iload_n hx hb dJ7_checkLength_df160_0 rfl (lv_at hl 1 rfl) ?_
  refine lv_iload_n hx hb dJ7_checkLength_df160_1 rfl (lv_at hl 0 rfl) ?_
  refine lv_icmp_ge (tgt := 37) hx hb dJ7_checkLength_df160_2 (by decide) (fun c_2 => ?_) (fun c_2 => absurd (nI_pos' (by omega)) c_2)
  exact q_vret hx hb hr hlocks hW hS ⟨rfl, rfl⟩ (Nat.le_of_ble_eq_true rfl) (Nat.le_of_ble_eq_true rfl) dJ7_checkLength_df160_37

set_option maxHeartbeats 4000000 in
set_option maxRecDepth 100000 in
theorem kJ7_copyOfRangeByte_39247 (l : Launch) (E : q_E) (f : q_H) (n : Nat) (b m C : Nat) (W : List Int32) (h1 : f b = some (aB E m (tx W))) (hk : W.length ≤ m) (hm : m ≤ 4000) (hW2 : W.length ≤ C) (hC : C ≤ 2000) (ho : okb W) : Met l yJ7_copyOfRangeByte_39247 wsJ7_copyOfRangeByte_39247 ({ frames := 1, cells := 1, slots := C, locals := 40 }) (q_P E [.ref b, .int 0, .int (nI W.length)] f n) (q_Qq E (fun r f1 n1 => some n = r ∧ va_up f n (some (aB E W.length (tx W))) = f1 ∧ n + 1 = n1)) 1 C (q_ge E) := by
  refine Met.ofW (cc := cJ7_copyOfRangeByte_39247) (maxL := 5) (ret := (some (.array .byte))) (by decide) rfl ?_
  intro p0_ e0_ s0_ m0_ args0_ below0_ meth0_ c0_ s1_ B hml hv
  obtain ⟨rfl, hA, hW⟩ := hv
  have hx := B.exec
  have hb := B.bytes
  have hr := B.returns
  have hts := atoms_spec (ws := wsJ7_copyOfRangeByte_39247) B.pre
  have hown : s0_.vm.findClass RJ7 = some m0_.cls := findClass_of_methodNamed B.named
  have hlocks := B.notSynchronized
  have hS : va_S (q_ge E) s0_.heap s0_.heap [] := va_S.rf
  have hl := lv_entry ([.ref b, .int 0, .int (nI W.length)]) (n := 5) (Nat.le_of_ble_eq_true rfl)
  rw [lg_entry_eq]
  generalize (lg_sl ([.ref b, .int 0, .int (nI W.length)]) ++ List.replicate (5 - (lg_sl ([.ref b, .int 0, .int (nI W.length)])).length) Slot.unset).toArray = ls at hl ⊢
  have hl : lv_has ls 5 [(0, .ref b), (1, .int 0), (2, .int (nI W.length))] := hl
  have l_h1 := hW.lt h1
  refine lv_iload_n hx hb dJ7_copyOfRangeByte_39247_0 rfl (lv_at hl 1 rfl) ?_
  refine lv_iload_n hx hb dJ7_copyOfRangeByte_39247_1 rfl (lv_at hl 2 rfl) ?_
  refine q_cv (va_runS (As := [.int 0, .int (nI W.length)]) (rest := []) ⟨hx, hb, hml, hown, hts⟩ (kJ7_checkLength_df160 l E f n W.length (by omega)) (va_cwS 2 hts gJ7_copyOfRangeByte_39247_J7_checkLength_df160 rfl rfl rfl (by decide +kernel) ⟨(Nat.le_of_ble_eq_true rfl), (Nat.le_of_ble_eq_true rfl)⟩) (q_pS hA hW hS) rfl rfl hl.1 rfl (lv_room (Nat.le_of_ble_eq_true rfl)) dJ7_copyOfRangeByte_39247_2 ⟨(by show _ ≤ 1; omega), (by show _ ≤ C; omega)⟩) hS (fun f_2 n_2 H locs hp hW hS => ?_)
  obtain ⟨rfl, rfl⟩ := hp
  have hW : q_W E (f) n H := hW
  refine lv_iload_n hx hb dJ7_copyOfRangeByte_39247_5 rfl (lv_at hl 2 rfl) ?_
  refine lv_iload_n hx hb dJ7_copyOfRangeByte_39247_6 rfl (lv_at hl 1 rfl) ?_
  refine lv_isub hx hb dJ7_copyOfRangeByte_39247_7 ?_
  rw [nI_s0]
  refine lv_istore_n (lv' := [(3, .int (nI W.length)), (0, .ref b), (1, .int 0), (2, .int (nI W.length))]) hx hb dJ7_copyOfRangeByte_39247_8 rfl hl (by decide) rfl (fun ls hl => ?_)
  refine lv_iload_n hx hb dJ7_copyOfRangeByte_39247_9 rfl (lv_at hl 0 rfl) ?_
  refine q_newa (atype := .byte) hx hb hA hW hS (hts (.arrayClass .byte) (by decide +kernel)) (ty := .byte) rfl 2 rfl (fun C h9 => by cases h9) (N' := W.length) (a0 := (W.length, .inl (fun _ => 0))) (fun _ => rfl) (nI_pos (by omega)) (nI_clamp (by omega)) (by show W.length * 1 ≤ 536870912; omega) (by show _ ≤ 1; omega) (by show _ ≤ C; omega) dJ7_copyOfRangeByte_39247_10 (fun H hW hS => ?_)
  have hW : q_W E (va_up f n (some (aB E W.length (fun _ => 0)))) (n + 1) H := hW
  refine lv_astore (lv' := [(4, .ref n), (3, .int (nI W.length)), (0, .ref b), (1, .int 0), (2, .int (nI W.length))]) hx hb dJ7_copyOfRangeByte_39247_12 hl (by decide) rfl (fun ls hl => ?_)
  refine lv_aload_n hx hb dJ7_copyOfRangeByte_39247_14 rfl (lv_at hl 2 rfl) ?_
  refine lv_iload_n hx hb dJ7_copyOfRangeByte_39247_15 rfl (lv_at hl 3 rfl) ?_
  refine lv_aload hx hb dJ7_copyOfRangeByte_39247_16 (lv_at hl 0 rfl) ?_
  refine lv_iconst (v := 0) hx hb dJ7_copyOfRangeByte_39247_18 (by decide) ?_
  refine lv_aload_n hx hb dJ7_copyOfRangeByte_39247_19 rfl (lv_at hl 2 rfl) ?_
  refine q_alen hx hb hA hW 2 rfl (q_ne (by omega) h1) (v := nI m) rfl dJ7_copyOfRangeByte_39247_20 ?_
  refine lv_iload_n hx hb dJ7_copyOfRangeByte_39247_21 rfl (lv_at hl 3 rfl) ?_
  refine lv_isub hx hb dJ7_copyOfRangeByte_39247_22 ?_
  rw [nI_s0]
  refine lv_iload_n hx hb dJ7_copyOfRangeByte_39247_23 rfl (lv_at hl 1 rfl) ?_
  refine va_mmin hx hb (hml.trans hl.1.symm) hown (hts (.methodLink RJ7 304 Lib.Math.min.name) (by decide +kernel)) (hts (.static Lib.Math.min.name) (by decide +kernel)) (hts (.initialized "java/lang/Math") (by decide +kernel)) (hts (.code Lib.Math.min.name Lib.Math.min.code 2 (some .int)) (by decide +kernel)) (Nat.le_of_ble_eq_true rfl) (Nat.le_of_ble_eq_true rfl) (by show _ ≤ 1; omega) (by show _ ≤ C; omega) dJ7_copyOfRangeByte_39247_24 ?_
  refine w_top (show _ = q_min (nI m) (nI W.length) from rfl) ?_
  rw [mn_le hk (by omega)]
  refine q_copyb hx hb (hml.trans hl.1.symm) hown (hts (.methodLink RJ7 150 arraycopyName) (by decide +kernel)) (hts (.native arraycopyName) (by decide +kernel)) (hts (.static arraycopyName) (by decide +kernel)) (hts (.initialized "java/lang/System") (by decide +kernel)) hA hW hS (q_ne (by omega) h1) q_eq (by decide) (by decide) (nI_pos (by omega)) (by rw [nI_clamp (by omega)]; show 0 + W.length ≤ m; omega) (by rw [nI_clamp (by omega)]; show 0 + W.length ≤ W.length; omega) (fun i _ => okb_fit ho _) (Nat.le_of_ble_eq_true rfl) (Nat.le_of_ble_eq_true rfl) dJ7_copyOfRangeByte_39247_27 (fun H locs hW hS => ?_)
  rw [show (nI W.length).toNatClampNeg = W.length from nI_clamp (by omega), show va_cpy (tx W) (fun _ => 0) (0 : Int32).toNatClampNeg (0 : Int32).toNatClampNeg W.length = tx W from tx_cpy (Nat.le_refl _)] at hW
  rw [q_upup] at hW
  have hW : q_W E (va_up f n (some (aB E W.length (tx W)))) (n + 1) H := hW
  refine lv_aload hx hb dJ7_copyOfRangeByte_39247_30 (lv_at hl 0 rfl) ?_
  exact q_aret (v := some n) hx hb hr (Or.inr ⟨_, rfl⟩) hlocks hW hS ⟨rfl, rfl, rfl⟩ (by show _ ≤ 1; omega) (by show _ ≤ C; omega) dJ7_copyOfRangeByte_39247_32

set_option maxHeartbeats 4000000 in
set_option maxRecDepth 100000 in
theorem kJ7_copyOfRange_39247 (l : Launch) (E : q_E) (f : q_H) (n : Nat) (b m C : Nat) (W : List Int32) (h1 : f b = some (aB E m (tx W))) (hk : W.length ≤ m) (hm : m ≤ 4000) (hW2 : W.length ≤ C) (hC : C ≤ 2000) (ho : okb W) : Met l yJ7_copyOfRange_39247 wsJ7_copyOfRange_39247 ({ frames := 2, cells := 1, slots := C, locals := 64 }) (q_P E [.ref b, .int 0, .int (nI W.length)] f n) (q_Qq E (fun r f1 n1 => some n = r ∧ va_up f n (some (aB E W.length (tx W))) = f1 ∧ n + 1 = n1)) 1 C (q_ge E) := by
  refine Met.ofW (cc := cJ7_copyOfRange_39247) (maxL := 3) (ret := (some (.array .byte))) (by decide) rfl ?_
  intro p0_ e0_ s0_ m0_ args0_ below0_ meth0_ c0_ s1_ B hml hv
  obtain ⟨rfl, hA, hW⟩ := hv
  have hx := B.exec
  have hb := B.bytes
  have hr := B.returns
  have hts := atoms_spec (ws := wsJ7_copyOfRange_39247) B.pre
  have hown : s0_.vm.findClass RJ7 = some m0_.cls := findClass_of_methodNamed B.named
  have hlocks := B.notSynchronized
  have hS : va_S (q_ge E) s0_.heap s0_.heap [] := va_S.rf
  have hl := lv_entry ([.ref b, .int 0, .int (nI W.length)]) (n := 3) (Nat.le_of_ble_eq_true rfl)
  rw [lg_entry_eq]
  generalize (lg_sl ([.ref b, .int 0, .int (nI W.length)]) ++ List.replicate (3 - (lg_sl ([.ref b, .int 0, .int (nI W.length)])).length) Slot.unset).toArray = ls at hl ⊢
  have hl : lv_has ls 3 [(0, .ref b), (1, .int 0), (2, .int (nI W.length))] := hl
  have l_h1 := hW.lt h1
  refine lv_iload_n hx hb dJ7_copyOfRange_39247_0 rfl (lv_at hl 1 rfl) ?_
  refine lv_if_ne (tgt := 10) hx hb dJ7_copyOfRange_39247_1 (by decide) (fun c_1 => False.elim ((fun h9 => h9 rfl) c_1)) (fun c_1 => ?_)
  refine lv_iload_n hx hb dJ7_copyOfRange_39247_4 rfl (lv_at hl 2 rfl) ?_
  refine lv_aload_n hx hb dJ7_copyOfRange_39247_5 rfl (lv_at hl 0 rfl) ?_
  refine q_alen hx hb hA hW 2 rfl h1 (v := nI m) rfl dJ7_copyOfRange_39247_6 ?_
  refine lv_icmp_eq (tgt := 17) hx hb dJ7_copyOfRange_39247_7 (by decide) (fun c_7 => ?_) (fun c_7 => ?_)
  · have hkm : W.length = m := (nI_eq (by omega) (by omega)).mp c_7
    refine lv_aload_n hx hb dJ7_copyOfRange_39247_17 rfl (lv_at hl 0 rfl) ?_
    refine q_cloneb hx hb (hml.trans hl.1.symm) hown (hts (.methodLink RJ7 310 ⟨"[B", "clone", "()Ljava/lang/Object;"⟩) (by decide +kernel)) (hts (.sameMethod "[B" "java/lang/Object" "clone" "()Ljava/lang/Object;") (by decide +kernel)) (hts (.native ⟨"java/lang/Object", "clone", "()Ljava/lang/Object;"⟩) (by decide +kernel)) (hts (.instanceMethod ⟨"java/lang/Object", "clone", "()Ljava/lang/Object;"⟩) (by decide +kernel)) (hts (.selects "[B" ⟨"[B", "clone", "()Ljava/lang/Object;"⟩ ⟨"java/lang/Object", "clone", "()Ljava/lang/Object;"⟩) (by decide +kernel)) (hA.2.2.2.2.2.2.1 ("[B", "java/lang/Cloneable") (by decide +kernel)) hA hW hS h1 (fun i => okb_fit ho i) (Nat.le_of_ble_eq_true rfl) (Nat.le_of_ble_eq_true rfl) (by show _ ≤ 1; omega) (by show _ ≤ C; omega) dJ7_copyOfRange_39247_18 (fun H hW hS => ?_)
    have hW : q_W E (va_up f n (some (aB E m (tx W)))) (n + 1) H := hW
    refine q_castb hx hb hown (hts (.classLink RJ7 311 "[B") (by decide +kernel)) hA hW q_eq dJ7_copyOfRange_39247_21 ?_
    exact q_aret (v := some n) hx hb hr (Or.inr ⟨_, rfl⟩) hlocks hW hS ⟨rfl, (by rw [hkm]), rfl⟩ (by show _ ≤ 1; omega) (by show _ ≤ C; omega) dJ7_copyOfRange_39247_24
  · refine lv_aload_n hx hb dJ7_copyOfRange_39247_10 rfl (lv_at hl 0 rfl) ?_
    refine lv_iload_n hx hb dJ7_copyOfRange_39247_11 rfl (lv_at hl 1 rfl) ?_
    refine lv_iload_n hx hb dJ7_copyOfRange_39247_12 rfl (lv_at hl 2 rfl) ?_
    refine q_cq (va_runS (As := [.ref b, .int 0, .int (nI W.length)]) (rest := []) ⟨hx, hb, hml, hown, hts⟩ (kJ7_copyOfRangeByte_39247 l E f n b m C W h1 (by assumption) (by assumption) (by assumption) (by assumption) (by assumption)) (va_cwS 3 hts gJ7_copyOfRange_39247_J7_copyOfRangeByte_39247 rfl rfl rfl (by decide +kernel) ⟨(Nat.le_of_ble_eq_true rfl), (Nat.le_of_ble_eq_true rfl)⟩) (q_pS hA hW hS) rfl rfl hl.1 rfl (lv_room (Nat.le_of_ble_eq_true rfl)) dJ7_copyOfRange_39247_13 ⟨(by show _ ≤ 1; omega), (by show _ ≤ C; omega)⟩) hS (fun r_13 f_13 n_13 H locs hp hW hS => ?_)
    obtain ⟨rfl, rfl, rfl⟩ := hp
    have hW : q_W E (va_up f n (some (aB E W.length (tx W)))) (n + 1) H := hW
    exact q_aret (v := some n) hx hb hr (Or.inr ⟨_, rfl⟩) hlocks hW hS ⟨rfl, rfl, rfl⟩ (by show _ ≤ 1; omega) (by show _ ≤ C; omega) dJ7_copyOfRange_39247_16

set_option maxHeartbeats 4000000 in
set_option maxRecDepth 100000 in
theorem kJ0_init_db425 (l : Launch) (E : q_E) (f : q_H) (n : Nat) (r sb b m C : Nat) (W : List Int32) (hr0 : f r = some (rStr none 0)) (h0 : f sb = some (cSB b (nI W.length))) (h1 : f b = some (aB E m (tx W))) (hk : W.length ≤ m) (hm : m ≤ 4000) (hW2 : W.length ≤ C) (hC : C ≤ 2000) (ho : okb W) : Met l yJ0_init_db425 wsJ0_init_db425 ({ frames := 3, cells := 1, slots := C, locals := 86 }) (q_P E [.ref r, .ref sb, .null] f n) (q_Qv E (fun f1 n1 => f1 r = some (cStr n) ∧ f1 n = some (aB E W.length (tx W)) ∧ n1 = n + 1 ∧ ∀ z9, z9 ≠ r → z9 < n → f1 z9 = f z9)) 1 C (q_ge E) := by
  refine Met.ofW (cc := cJ0_init_db425) (maxL := 5) (ret := none) (by decide) rfl ?_
  intro p0_ e0_ s0_ m0_ args0_ below0_ meth0_ c0_ s1_ B hml hv
  obtain ⟨rfl, hA, hW⟩ := hv
  have hx := B.exec
  have hb := B.bytes
  have hr := B.returns
  have hts := atoms_spec (ws := wsJ0_init_db425) B.pre
  have hown : s0_.vm.findClass RJ0 = some m0_.cls := findClass_of_methodNamed B.named
  have hlocks := B.notSynchronized
  have hin : meth0_.name = "<init>" := (name_of_methodNamed B.named B.method).1
  have hS : va_S (q_ge E) s0_.heap s0_.heap [] := va_S.rf
  have iJ0 : ∀ w ∈ wsJ00, w ∈ wsJ0_init_db425 := by decide +kernel
  have hl := lv_entry ([.ref r, .ref sb, .null]) (n := 5) (Nat.le_of_ble_eq_true rfl)
  rw [lg_entry_eq]
  generalize (lg_sl ([.ref r, .ref sb, .null]) ++ List.replicate (5 - (lg_sl ([.ref r, .ref sb, .null])).length) Slot.unset).toArray = ls at hl ⊢
  have hl : lv_has ls 5 [(0, .ref r), (1, .ref sb), (2, .null)] := hl
  have l_hr0 := hW.lt hr0
  have l_h0 := hW.lt h0
  have l_h1 := hW.lt h1
  have d1 := ne_ci h0 hr0 (by decide)
  have d2 := ne_ab hr0 h1
  have hbs := ne_ab h0 h1
  refine lv_aload_n hx hb dJ0_init_db425_0 rfl (lv_at hl 0 rfl) ?_
  refine w_objInit hx hb hown (hts (.methodLink RJ0 1 objectInit) (by decide +kernel)) (hts (.instanceMethod objectInit) (by decide +kernel)) (hts (.code objectInit ⟨#[0xb1]⟩ 1 none) (by decide +kernel)) rfl (hl.1.trans hml.symm) rfl dJ0_init_db425_1 (Nat.le_of_ble_eq_true rfl) (Nat.le_of_ble_eq_true rfl) ?_
  refine lv_aload_n hx hb dJ0_init_db425_4 rfl (lv_at hl 1 rfl) ?_
  refine q_cq (va_runU (As := []) (rest := []) ⟨hx, hb, hml, hown, hts⟩ (kJ5_getValue_6d5f1 l E f n sb b (nI W.length) h0) (va_cwU 0 hts gJ0_init_db425_J5_getValue_6d5f1_u552J4 rfl rfl rfl rfl (by decide +kernel) ⟨(Nat.le_of_ble_eq_true rfl), (Nat.le_of_ble_eq_true rfl)⟩) (q_pV hA hW hS (ci := 1) rfl h0) rfl rfl hl.1 rfl (lv_room (Nat.le_of_ble_eq_true rfl)) dJ0_init_db425_5 ⟨(by show _ ≤ 1; omega), (by show _ ≤ C; omega)⟩) hS (fun r_5 f_5 n_5 H locs hp hW hS => ?_)
  obtain ⟨rfl, rfl, rfl⟩ := hp
  have hW : q_W E (f) n H := hW
  refine lv_astore_n (lv' := [(3, .ref b), (0, .ref r), (1, .ref sb), (2, .null)]) hx hb dJ0_init_db425_8 rfl hl (by decide) rfl (fun ls hl => ?_)
  refine lv_aload_n hx hb dJ0_init_db425_9 rfl (lv_at hl 2 rfl) ?_
  refine q_ci (va_runU (As := []) (rest := []) ⟨hx, hb, hml, hown, hts⟩ (kJ4_length_8abf5 l E f n sb b (nI W.length) h0) (va_cwO 0 hts gJ0_init_db425_J4_length_8abf5_u549J4 rfl rfl rfl (b0 := cJ5_length_8abf5) (m0 := 1) (r0 := (some .int)) (by decide +kernel) (by decide +kernel) ⟨(Nat.le_of_ble_eq_true rfl), (Nat.le_of_ble_eq_true rfl)⟩) (q_pV hA hW hS (ci := 1) rfl h0) rfl rfl hl.1 rfl (lv_room (Nat.le_of_ble_eq_true rfl)) dJ0_init_db425_10 ⟨(by show _ ≤ 1; omega), (by show _ ≤ C; omega)⟩) hS (fun r_10 f_10 n_10 H locs hp hW hS => ?_)
  obtain ⟨rfl, rfl, rfl⟩ := hp
  have hW : q_W E (f) n H := hW
  refine lv_istore (lv' := [(4, .int (nI W.length)), (3, .ref b), (0, .ref r), (1, .ref sb), (2, .null)]) hx hb dJ0_init_db425_13 hl (by decide) rfl (fun ls hl => ?_)
  refine lv_aload_n hx hb dJ0_init_db425_15 rfl (lv_at hl 3 rfl) ?_
  refine q_ci (va_runU (As := []) (rest := []) ⟨hx, hb, hml, hown, hts⟩ (kJ5_isLatin1_aae02 l E f n sb b (nI W.length) h0) (va_cwU 0 hts gJ0_init_db425_J5_isLatin1_aae02_u1047J4 rfl rfl rfl rfl (by decide +kernel) ⟨(Nat.le_of_ble_eq_true rfl), (Nat.le_of_ble_eq_true rfl)⟩) (q_pV hA hW hS (ci := 1) rfl h0) rfl rfl hl.1 rfl (lv_room (Nat.le_of_ble_eq_true rfl)) dJ0_init_db425_16 ⟨(by show _ ≤ 1; omega), (by show _ ≤ C; omega)⟩) hS (fun r_16 f_16 n_16 H locs hp hW hS => ?_)
  obtain ⟨rfl, rfl, rfl⟩ := hp
  have hW : q_W E (f) n H := hW
  refine lv_if_eq (tgt := 41) hx hb dJ0_init_db425_19 (by rfl) (fun c_19 => False.elim ((fun h9 => absurd h9 (by decide)) c_19)) (fun c_19 => ?_)
  refine lv_aload_n hx hb dJ0_init_db425_22 rfl (lv_at hl 2 rfl) ?_
  refine lv_iconst (v := 0) hx hb dJ0_init_db425_23 (by rfl) ?_
  refine q_putF hx hb hts hown hA hW hS iJ0 tyJ0 tyJ0_ok nmJ0 hr0 rfl 1 (by decide) (hts (.fieldLink RJ0 15 "java/lang/String" "coder" "B") (by decide +kernel)) (fun _ h9 => h9) rfl hin rfl rfl rfl (Nat.le_of_ble_eq_true rfl) dJ0_init_db425_24 (fun H locs hW hS => ?_)
  have hW : q_W E (va_up f r (some (rStr none 0))) n H := hW
  refine lv_aload_n hx hb dJ0_init_db425_27 rfl (lv_at hl 2 rfl) ?_
  refine lv_aload_n hx hb dJ0_init_db425_28 rfl (lv_at hl 1 rfl) ?_
  refine lv_iconst (v := 0) hx hb dJ0_init_db425_29 (by rfl) ?_
  refine lv_iload hx hb dJ0_init_db425_30 (lv_at hl 0 rfl) ?_
  refine q_cq (va_runS (As := [.ref b, .int 0, .int (nI W.length)]) (rest := [.ref r]) ⟨hx, hb, hml, hown, hts⟩ (kJ7_copyOfRange_39247 l E (va_up f r (some (rStr none 0))) n b m C W (q_ne (by omega) h1) hk hm hW2 hC ho) (va_cwS 3 hts gJ0_init_db425_J7_copyOfRange_39247 rfl rfl rfl (by decide +kernel) ⟨(Nat.le_of_ble_eq_true rfl), (Nat.le_of_ble_eq_true rfl)⟩) (q_pS hA hW hS) rfl rfl hl.1 rfl (lv_room (Nat.le_of_ble_eq_true rfl)) dJ0_init_db425_32 ⟨(by show _ ≤ 1; omega), (by show _ ≤ C; omega)⟩) hS (fun r_32 f_32 n_32 H locs hp hW hS => ?_)
  obtain ⟨rfl, rfl, rfl⟩ := hp
  have hW : q_W E (va_up (va_up f r (some (rStr none 0))) n (some (aB E W.length (tx W)))) (n + 1) H := hW
  refine q_putF hx hb hts hown hA hW hS iJ0 tyJ0 tyJ0_ok nmJ0 (q_ne (by omega) q_eq) rfl 0 (by decide) (hts (.fieldLink RJ0 9 "java/lang/String" "value" "[B") (by decide +kernel)) (fun _ h9 => h9) rfl hin rfl rfl rfl (Nat.le_of_ble_eq_true rfl) dJ0_init_db425_35 (fun H locs hW hS => ?_)
  have hW : q_W E (va_up (va_up (va_up f r (some (rStr none 0))) n (some (aB E W.length (tx W)))) r (some (rStr (some n) 0))) (n + 1) H := hW
  refine lv_goto (tgt := 97) hx hb dJ0_init_db425_38 (by rfl) ?_
  exact q_vret hx hb hr hlocks hW hS ⟨q_eq, (q_ne (by omega) q_eq), rfl, (fun q g0 g1 => (q_ne (by omega) (q_ne (by omega) (q_ne (by omega) rfl))))⟩ (by show _ ≤ 1; omega) (by show _ ≤ C; omega) dJ0_init_db425_97

set_option maxHeartbeats 4000000 in
set_option maxRecDepth 100000 in
theorem kJ0_init_81219 (l : Launch) (E : q_E) (f : q_H) (n : Nat) (r sb b m C : Nat) (W : List Int32) (hr0 : f r = some (rStr none 0)) (h0 : f sb = some (cSB b (nI W.length))) (h1 : f b = some (aB E m (tx W))) (hk : W.length ≤ m) (hm : m ≤ 4000) (hW2 : W.length ≤ C) (hC : C ≤ 2000) (ho : okb W) : Met l yJ0_init_81219 wsJ0_init_81219 ({ frames := 4, cells := 1, slots := C, locals := 110 }) (q_P E [.ref r, .ref sb] f n) (q_Qv E (fun f1 n1 => f1 r = some (cStr n) ∧ f1 n = some (aB E W.length (tx W)) ∧ n1 = n + 1 ∧ ∀ z9, z9 ≠ r → z9 < n → f1 z9 = f z9)) 1 C (q_ge E) := by
  refine Met.ofW (cc := cJ0_init_81219) (maxL := 2) (ret := none) (by decide) rfl ?_
  intro p0_ e0_ s0_ m0_ args0_ below0_ meth0_ c0_ s1_ B hml hv
  obtain ⟨rfl, hA, hW⟩ := hv
  have hx := B.exec
  have hb := B.bytes
  have hr := B.returns
  have hts := atoms_spec (ws := wsJ0_init_81219) B.pre
  have hown : s0_.vm.findClass RJ0 = some m0_.cls := findClass_of_methodNamed B.named
  have hlocks := B.notSynchronized
  have hin : meth0_.name = "<init>" := (name_of_methodNamed B.named B.method).1
  have hS : va_S (q_ge E) s0_.heap s0_.heap [] := va_S.rf
  have hl := lv_entry ([.ref r, .ref sb]) (n := 2) (Nat.le_of_ble_eq_true rfl)
  rw [lg_entry_eq]
  generalize (lg_sl ([.ref r, .ref sb]) ++ List.replicate (2 - (lg_sl ([.ref r, .ref sb])).length) Slot.unset).toArray = ls at hl ⊢
  have hl : lv_has ls 2 [(0, .ref r), (1, .ref sb)] := hl
  have l_hr0 := hW.lt hr0
  have l_h0 := hW.lt h0
  have l_h1 := hW.lt h1
  have d1 := ne_ci h0 hr0 (by decide)
  have d2 := ne_ab hr0 h1
  have hbs := ne_ab h0 h1
  refine lv_aload_n hx hb dJ0_init_81219_0 rfl (lv_at hl 0 rfl) ?_
  refine lv_aload_n hx hb dJ0_init_81219_1 rfl (lv_at hl 1 rfl) ?_
  refine lv_null hx hb dJ0_init_81219_2 ?_
  refine q_cv (va_runI (As := [.ref sb, .null]) (rest := []) ⟨hx, hb, hml, hown, hts⟩ (kJ0_init_db425 l E f n r sb b m C W hr0 h0 h1 (by assumption) (by assumption) (by assumption) (by assumption) (by assumption)) (cwI 2 hts gJ0_init_81219_J0_init_db425 rfl rfl rfl (hts (.initialized RJ0) (by decide +kernel)) (hts (.methodLink RJ0 489 yJ0_init_db425) (by decide +kernel)) (hts (.instanceMethod yJ0_init_db425) (by decide +kernel)) rfl (by decide +kernel) ⟨(Nat.le_of_ble_eq_true rfl), (Nat.le_of_ble_eq_true rfl)⟩) (q_pS hA hW hS) rfl rfl hl.1 rfl (lv_room (Nat.le_of_ble_eq_true rfl)) dJ0_init_81219_3 ⟨(by show _ ≤ 1; omega), (by show _ ≤ C; omega)⟩) hS (fun f_3 n_3 H locs hp hW hS => ?_)
  obtain ⟨e0_3, e1_3, en_3, hfr_3⟩ := hp
  have l_e0_3 := hW.lt e0_3
  have l_e1_3 := hW.lt e1_3
  have hsb_3 : f_3 sb = some (cSB b (nI W.length)) := (hfr_3 _ (by omega) (by omega)).trans h0
  have hb_3 : f_3 b = some (aB E m (tx W)) := (hfr_3 _ (by omega) (by omega)).trans h1
  exact q_vret hx hb hr hlocks hW hS ⟨e0_3, e1_3, en_3, (fun q g0 g1 => ((hfr_3 _ (by omega) (by omega)).trans rfl))⟩ (by show _ ≤ 1; omega) (by show _ ≤ C; omega) dJ0_init_81219_6

set_option maxHeartbeats 4000000 in
set_option maxRecDepth 100000 in
theorem kJ4_toString_0e30d (l : Launch) (E : q_E) (f : q_H) (n : Nat) (sb b m C : Nat) (W : List Int32) (h0 : f sb = some (cSB b (nI W.length))) (h1 : f b = some (aB E m (tx W))) (hk : W.length ≤ m) (hm : m ≤ 4000) (hW2 : W.length ≤ C) (hC : C ≤ 2000) (ho : okb W) : Met l yJ4_toString_0e30d wsJ4_toString_0e30d ({ frames := 5, cells := 2, slots := C + 4, locals := 131 }) (q_P E [.ref sb] f n) (q_Qq E (fun r0 f1 n1 => some n = r0 ∧ f1 n = some (cStr (n + 1)) ∧ f1 (n + 1) = some (aB E W.length (tx W)) ∧ n1 = n + 2 ∧ ∀ z9, z9 < n → f1 z9 = f z9)) 2 (C + 4) (q_ge E) := by
  refine Met.ofW (cc := cJ4_toString_0e30d) (maxL := 1) (ret := (some (.object "java/lang/String"))) (by decide) rfl ?_
  intro p0_ e0_ s0_ m0_ args0_ below0_ meth0_ c0_ s1_ B hml hv
  obtain ⟨rfl, hA, hW⟩ := hv
  have hx := B.exec
  have hb := B.bytes
  have hr := B.returns
  have hts := atoms_spec (ws := wsJ4_toString_0e30d) B.pre
  have hown : s0_.vm.findClass RJ4 = some m0_.cls := findClass_of_methodNamed B.named
  have hlocks := B.notSynchronized
  have hS : va_S (q_ge E) s0_.heap s0_.heap [] := va_S.rf
  have iJ0 : ∀ w ∈ wsJ00, w ∈ wsJ4_toString_0e30d := by decide +kernel
  have hl := lv_entry ([.ref sb]) (n := 1) (Nat.le_of_ble_eq_true rfl)
  rw [lg_entry_eq]
  generalize (lg_sl ([.ref sb]) ++ List.replicate (1 - (lg_sl ([.ref sb])).length) Slot.unset).toArray = ls at hl ⊢
  have hl : lv_has ls 1 [(0, .ref sb)] := hl
  have l_h0 := hW.lt h0
  have l_h1 := hW.lt h1
  refine q_new (ci := 0) hx hb hts hown hA hW hS iJ0 tyJ0 tyJ0_ok (hts (.classLink RJ4 18 RJ0) (by decide +kernel)) (hts (.instantiable RJ0 4) (by decide +kernel)) (hts (.initialized RJ0) (by decide +kernel)) rfl (fs := [.null, .int 0, .int 0, .int 0]) (by decide) (by show _ ≤ 2; omega) (by show _ ≤ C + 4; omega) dJ4_toString_0e30d_0 (fun H hW hS => ?_)
  have hW : q_W E (va_up f n (some (rStr none 0))) (n + 1) H := hW
  refine lv_dup hx hb dJ4_toString_0e30d_3 rfl ?_
  refine lv_aload_n hx hb dJ4_toString_0e30d_4 rfl (lv_at hl 0 rfl) ?_
  refine q_cv (va_runI (As := [.ref sb]) (rest := [.ref n]) ⟨hx, hb, hml, hown, hts⟩ (kJ0_init_81219 l E (va_up f n (some (rStr none 0))) (n + 1) n sb b m C W q_eq (q_ne (by omega) h0) (q_ne (by omega) h1) (by assumption) (by assumption) (by assumption) (by assumption) (by assumption)) (cwI 1 hts gJ4_toString_0e30d_J0_init_81219 rfl rfl rfl (hts (.initialized RJ0) (by decide +kernel)) (hts (.methodLink RJ4 137 yJ0_init_81219) (by decide +kernel)) (hts (.instanceMethod yJ0_init_81219) (by decide +kernel)) rfl (by decide +kernel) ⟨(Nat.le_of_ble_eq_true rfl), (Nat.le_of_ble_eq_true rfl)⟩) (q_pS hA hW hS) rfl rfl hl.1 rfl (lv_room (Nat.le_of_ble_eq_true rfl)) dJ4_toString_0e30d_5 ⟨(by show _ ≤ 2; omega), (by show _ ≤ C + 4; omega)⟩) hS (fun f_5 n_5 H locs hp hW hS => ?_)
  obtain ⟨e0_5, e1_5, en_5, hfr_5⟩ := hp
  have l_e0_5 := hW.lt e0_5
  have l_e1_5 := hW.lt e1_5
  have hsb_5 : f_5 sb = some (cSB b (nI W.length)) := (hfr_5 _ (by omega) (by omega)).trans (q_ne (by omega) h0)
  have hb_5 : f_5 b = some (aB E m (tx W)) := (hfr_5 _ (by omega) (by omega)).trans (q_ne (by omega) h1)
  exact q_aret (v := some n) hx hb hr (Or.inl ⟨_, rfl⟩) hlocks hW hS ⟨rfl, e0_5, e1_5, en_5, (fun q g0 => ((hfr_5 _ (by omega) (by omega)).trans (q_ne (by omega) rfl)))⟩ (by show _ ≤ 2; omega) (by show _ ≤ C + 4; omega) dJ4_toString_0e30d_8

set_option maxHeartbeats 4000000 in
set_option maxRecDepth 100000 in
theorem kJ5_init_d00df (l : Launch) (E : q_E) (f : q_H) (n : Nat) (a : Nat) (hr0 : f a = some (rSB none 0 0 0)) : Met l yJ5_init_d00df wsJ5_init_d00df ({ frames := 1, cells := 1, slots := 16, locals := 20 }) (q_P E [.ref a, .int 16] f n) (q_Qv E (fun f1 n1 => f1 a = some (cSB n (nI ([] : List Int32).length)) ∧ f1 n = some (aB E 16 (tx ([] : List Int32))) ∧ n1 = n + 1 ∧ ∀ z9, z9 ≠ a → z9 < n → f1 z9 = f z9)) 1 16 (q_ge E) := by
  refine Met.ofW (cc := cJ5_init_d00df) (maxL := 2) (ret := none) (by decide) rfl ?_
  intro p0_ e0_ s0_ m0_ args0_ below0_ meth0_ c0_ s1_ B hml hv
  obtain ⟨rfl, hA, hW⟩ := hv
  have hx := B.exec
  have hb := B.bytes
  have hr := B.returns
  have hts := atoms_spec (ws := wsJ5_init_d00df) B.pre
  have hown : s0_.vm.findClass RJ5 = some m0_.cls := findClass_of_methodNamed B.named
  have hlocks := B.notSynchronized
  have hin : meth0_.name = "<init>" := (name_of_methodNamed B.named B.method).1
  have hS : va_S (q_ge E) s0_.heap s0_.heap [] := va_S.rf
  have iJ4 : ∀ w ∈ wsJ40, w ∈ wsJ5_init_d00df := by decide +kernel
  have hl := lv_entry ([.ref a, .int 16]) (n := 2) (Nat.le_of_ble_eq_true rfl)
  rw [lg_entry_eq]
  generalize (lg_sl ([.ref a, .int 16]) ++ List.replicate (2 - (lg_sl ([.ref a, .int 16])).length) Slot.unset).toArray = ls at hl ⊢
  have hl : lv_has ls 2 [(0, .ref a), (1, .int 16)] := hl
  have l_hr0 := hW.lt hr0
  refine lv_aload_n hx hb dJ5_init_d00df_0 rfl (lv_at hl 0 rfl) ?_
  refine w_objInit hx hb hown (hts (.methodLink RJ5 3 objectInit) (by decide +kernel)) (hts (.instanceMethod objectInit) (by decide +kernel)) (hts (.code objectInit ⟨#[0xb1]⟩ 1 none) (by decide +kernel)) rfl (hl.1.trans hml.symm) rfl dJ5_init_d00df_1 (Nat.le_of_ble_eq_true rfl) (Nat.le_of_ble_eq_true rfl) ?_
  refine va_gets (n := "COMPACT_STRINGS") (v := .int 1) hx hb hA.2.2.1.2.2.2.2.2.2.2.1 hS hown (hts (.fieldLink RJ5 18 "java/lang/String" "COMPACT_STRINGS" "Z") (by decide +kernel)) (fun _ h9 => h9) dJ5_init_d00df_4 ?_
  refine lv_if_eq (tgt := 25) hx hb dJ5_init_d00df_7 (by rfl) (fun c_7 => False.elim ((fun h9 => absurd h9 (by decide)) c_7)) (fun c_7 => ?_)
  refine lv_aload_n hx hb dJ5_init_d00df_10 rfl (lv_at hl 0 rfl) ?_
  refine lv_iload_n hx hb dJ5_init_d00df_11 rfl (lv_at hl 1 rfl) ?_
  refine q_newa (atype := .byte) hx hb hA hW hS (hts (.arrayClass .byte) (by decide +kernel)) (ty := .byte) rfl 2 rfl (fun C h9 => by cases h9) (N' := 16) (a0 := (16, .inl (fun _ => 0))) (fun _ => rfl) (by decide) (by decide) (Nat.le_of_ble_eq_true rfl) (Nat.le_of_ble_eq_true rfl) (Nat.le_of_ble_eq_true rfl) dJ5_init_d00df_12 (fun H hW hS => ?_)
  have hW : q_W E (va_up f n (some (aB E 16 (fun _ => 0)))) (n + 1) H := hW
  refine q_put hx hb hts hown hA hW hS iJ4 tyJ4 tyJ4_ok nmJ4 (q_ne (by omega) hr0) rfl 0 (by decide) (hts (.fieldLink RJ5 15 "java/lang/AbstractStringBuilder" "value" "[B") (by decide +kernel)) (fun _ h9 => h9) rfl rfl rfl (Nat.le_of_ble_eq_true rfl) dJ5_init_d00df_14 (fun H locs hW hS => ?_)
  have hW : q_W E (va_up (va_up f n (some (aB E 16 (fun _ => 0)))) a (some (rSB (some n) 0 0 0))) (n + 1) H := hW
  refine lv_aload_n hx hb dJ5_init_d00df_17 rfl (lv_at hl 0 rfl) ?_
  refine lv_iconst (v := 0) hx hb dJ5_init_d00df_18 (by rfl) ?_
  refine q_put hx hb hts hown hA hW hS iJ4 tyJ4 tyJ4_ok nmJ4 q_eq rfl 1 (by decide) (hts (.fieldLink RJ5 22 "java/lang/AbstractStringBuilder" "coder" "B") (by decide +kernel)) (fun _ h9 => h9) rfl rfl rfl (Nat.le_of_ble_eq_true rfl) dJ5_init_d00df_19 (fun H locs hW hS => ?_)
  rw [q_upup] at hW
  have hW : q_W E (va_up (va_up f n (some (aB E 16 (fun _ => 0)))) a (some (rSB (some n) 0 0 0))) (n + 1) H := hW
  refine lv_goto (tgt := 38) hx hb dJ5_init_d00df_22 (by rfl) ?_
  exact q_vret hx hb hr hlocks hW hS ⟨q_eq, (show _ = some (aB E 16 (tx ([] : List Int32))) from (by rw [tx_nil]; exact (q_ne (by omega) q_eq))), rfl, (fun q g0 g1 => (q_ne (by omega) (q_ne (by omega) rfl)))⟩ (Nat.le_of_ble_eq_true rfl) (Nat.le_of_ble_eq_true rfl) dJ5_init_d00df_38

set_option maxHeartbeats 4000000 in
set_option maxRecDepth 100000 in
theorem kJ4_init_da8c8 (l : Launch) (E : q_E) (f : q_H) (n : Nat) (a : Nat) (hr0 : f a = some (rSB none 0 0 0)) : Met l yJ4_init_da8c8 wsJ4_init_da8c8 ({ frames := 2, cells := 1, slots := 16, locals := 41 }) (q_P E [.ref a] f n) (q_Qv E (fun f1 n1 => f1 a = some (cSB n (nI ([] : List Int32).length)) ∧ f1 n = some (aB E 16 (tx ([] : List Int32))) ∧ n1 = n + 1 ∧ ∀ z9, z9 ≠ a → z9 < n → f1 z9 = f z9)) 1 16 (q_ge E) := by
  refine Met.ofW (cc := cJ4_init_da8c8) (maxL := 1) (ret := none) (by decide) rfl ?_
  intro p0_ e0_ s0_ m0_ args0_ below0_ meth0_ c0_ s1_ B hml hv
  obtain ⟨rfl, hA, hW⟩ := hv
  have hx := B.exec
  have hb := B.bytes
  have hr := B.returns
  have hts := atoms_spec (ws := wsJ4_init_da8c8) B.pre
  have hown : s0_.vm.findClass RJ4 = some m0_.cls := findClass_of_methodNamed B.named
  have hlocks := B.notSynchronized
  have hin : meth0_.name = "<init>" := (name_of_methodNamed B.named B.method).1
  have hS : va_S (q_ge E) s0_.heap s0_.heap [] := va_S.rf
  have hl := lv_entry ([.ref a]) (n := 1) (Nat.le_of_ble_eq_true rfl)
  rw [lg_entry_eq]
  generalize (lg_sl ([.ref a]) ++ List.replicate (1 - (lg_sl ([.ref a])).length) Slot.unset).toArray = ls at hl ⊢
  have hl : lv_has ls 1 [(0, .ref a)] := hl
  have l_hr0 := hW.lt hr0
  refine lv_aload_n hx hb dJ4_init_da8c8_0 rfl (lv_at hl 0 rfl) ?_
  refine lv_bipush (v := 16) hx hb dJ4_init_da8c8_1 (by rfl) ?_
  refine q_cv (va_runI (As := [.int 16]) (rest := []) ⟨hx, hb, hml, hown, hts⟩ (kJ5_init_d00df l E f n a hr0) (cwI 1 hts gJ4_init_da8c8_J5_init_d00df rfl rfl rfl (hts (.initialized RJ5) (by decide +kernel)) (hts (.methodLink RJ4 1 yJ5_init_d00df) (by decide +kernel)) (hts (.instanceMethod yJ5_init_d00df) (by decide +kernel)) rfl (by decide +kernel) ⟨(Nat.le_of_ble_eq_true rfl), (Nat.le_of_ble_eq_true rfl)⟩) (q_pS hA hW hS) rfl rfl hl.1 rfl (lv_room (Nat.le_of_ble_eq_true rfl)) dJ4_init_da8c8_3 ⟨(Nat.le_of_ble_eq_true rfl), (Nat.le_of_ble_eq_true rfl)⟩) hS (fun f_3 n_3 H locs hp hW hS => ?_)
  obtain ⟨e0_3, e1_3, en_3, hfr_3⟩ := hp
  have l_e0_3 := hW.lt e0_3
  have l_e1_3 := hW.lt e1_3
  exact q_vret hx hb hr hlocks hW hS ⟨e0_3, e1_3, en_3, (fun q g0 g1 => ((hfr_3 _ (by omega) (by omega)).trans rfl))⟩ (Nat.le_of_ble_eq_true rfl) (Nat.le_of_ble_eq_true rfl) dJ4_init_da8c8_6

set_option maxHeartbeats 4000000 in
set_option maxRecDepth 100000 in
theorem kJ4_append_cf1ce (l : Launch) (E : q_E) (f : q_H) (n : Nat) (sb b m i C : Nat) (W : List Int32) (h0 : f sb = some (cSB b (nI W.length))) (h1 : f b = some (aB E m (tx W))) (hq2 : W.length + (kt i).length ≤ C) (hm : m ≤ 2 * C) (hC : C ≤ 2000) (hw : W.length ≤ m) (ho : okb W) (hi : i < 50) : Met l yJ4_append_cf1ce wsJ4_append_cf1ce ({ frames := 6, cells := 1, slots := 2 * C, locals := 400 }) (q_P E [.ref sb, .ref (E.2.2.2 (200 + i))] f n) (q_Qq E (fun r0 f1 n1 => ∃ (b1 : Nat) (m1 : Nat), some sb = r0 ∧ f1 sb = some (cSB b1 (nI (W ++ kt i).length)) ∧ f1 b1 = some (aB E m1 (tx (W ++ kt i))) ∧ (W ++ kt i).length ≤ m1 ∧ m1 ≤ 2 * C ∧ (b1 = b ∨ n ≤ b1) ∧ n ≤ n1 ∧ ∀ z9, z9 ≠ sb → z9 ≠ b → z9 < n → f1 z9 = f z9)) 1 (2 * C) (q_ge E) := by
  refine Met.ofW (cc := cJ4_append_cf1ce) (maxL := 2) (ret := (some (.object "java/lang/AbstractStringBuilder"))) (by decide) rfl ?_
  intro p0_ e0_ s0_ m0_ args0_ below0_ meth0_ c0_ s1_ B hml hv
  obtain ⟨rfl, hA, hW⟩ := hv
  have hx := B.exec
  have hb := B.bytes
  have hr := B.returns
  have hts := atoms_spec (ws := wsJ4_append_cf1ce) B.pre
  have hown : s0_.vm.findClass RJ4 = some m0_.cls := findClass_of_methodNamed B.named
  have hlocks := B.notSynchronized
  have hS : va_S (q_ge E) s0_.heap s0_.heap [] := va_S.rf
  have hl := lv_entry ([.ref sb, .ref (E.2.2.2 (200 + i))]) (n := 2) (Nat.le_of_ble_eq_true rfl)
  rw [lg_entry_eq]
  generalize (lg_sl ([.ref sb, .ref (E.2.2.2 (200 + i))]) ++ List.replicate (2 - (lg_sl ([.ref sb, .ref (E.2.2.2 (200 + i))])).length) Slot.unset).toArray = ls at hl ⊢
  have hl : lv_has ls 2 [(0, .ref sb), (1, .ref (E.2.2.2 (200 + i)))] := hl
  have l_h0 := hW.lt h0
  have l_h1 := hW.lt h1
  have hbs := ne_ab h0 h1
  refine lv_aload_n hx hb dJ4_append_cf1ce_0 rfl (lv_at hl 0 rfl) ?_
  refine lv_aload_n hx hb dJ4_append_cf1ce_1 rfl (lv_at hl 1 rfl) ?_
  refine q_cq (va_runV (As := [.ref (E.2.2.2 (200 + i))]) (rest := []) ⟨hx, hb, hml, hown, hts⟩ (kJ4_append_k l E f n sb b m i C W h0 h1 (by assumption) (by assumption) (by assumption) (by assumption) (by assumption) (by assumption)) (cwV 1 hts gJ4_append_cf1ce_J4_append_15ec4 rfl rfl rfl (by decide +kernel) ⟨(Nat.le_of_ble_eq_true rfl), (Nat.le_of_ble_eq_true rfl)⟩) (q_pV hA hW hS (ci := 1) rfl h0) rfl rfl hl.1 rfl (lv_room (Nat.le_of_ble_eq_true rfl)) dJ4_append_cf1ce_2 ⟨(by show _ ≤ 1; omega), (by show _ ≤ 2 * C; omega)⟩) hS (fun r_2 f_2 n_2 H locs hp hW hS => ?_)
  obtain ⟨b1_2, m1_2, rfl, e0_2, e1_2, el_2, em4_2, eb_2, en_2, hfr_2⟩ := hp
  have l_e0_2 := hW.lt e0_2
  have l_e1_2 := hW.lt e1_2
  exact q_aret (v := some sb) hx hb hr (Or.inl ⟨_, rfl⟩) hlocks hW hS ⟨b1_2, m1_2, rfl, e0_2, e1_2, el_2, em4_2, eb_2, en_2, (fun q g0 g1 g2 => ((hfr_2 _ (by omega) (by omega) (by omega)).trans rfl))⟩ (by show _ ≤ 1; omega) (by show _ ≤ 2 * C; omega) dJ4_append_cf1ce_5

set_option maxHeartbeats 4000000 in
set_option maxRecDepth 100000 in
theorem kJ5_init_a7421 (l : Launch) (E : q_E) (f : q_H) (n : Nat) (a i : Nat) (hr0 : f a = some (rSB none 0 0 0)) (hi : i < 50) : Met l yJ5_init_a7421 wsJ5_init_a7421 ({ frames := 7, cells := 2, slots := 136, locals := 500 }) (q_P E [.ref a, .ref (E.2.2.2 (200 + i))] f n) (q_Qv E (fun f1 n1 => ∃ (b1 : Nat) (m1 : Nat), f1 a = some (cSB b1 (nI (kt i).length)) ∧ f1 b1 = some (aB E m1 (tx (kt i))) ∧ (kt i).length ≤ m1 ∧ m1 ≤ 80 ∧ n ≤ b1 ∧ n ≤ n1 ∧ ∀ z9, z9 ≠ a → z9 < n → f1 z9 = f z9)) 2 136 (q_ge E) := by
  refine Met.ofW (cc := cJ5_init_a7421) (maxL := 5) (ret := none) (by decide) rfl ?_
  intro p0_ e0_ s0_ m0_ args0_ below0_ meth0_ c0_ s1_ B hml hv
  obtain ⟨rfl, hA, hW⟩ := hv
  have hx := B.exec
  have hb := B.bytes
  have hr := B.returns
  have hts := atoms_spec (ws := wsJ5_init_a7421) B.pre
  have hown : s0_.vm.findClass RJ5 = some m0_.cls := findClass_of_methodNamed B.named
  have hlocks := B.notSynchronized
  have hin : meth0_.name = "<init>" := (name_of_methodNamed B.named B.method).1
  have hS : va_S (q_ge E) s0_.heap s0_.heap [] := va_S.rf
  have iJ4 : ∀ w ∈ wsJ40, w ∈ wsJ5_init_a7421 := by decide +kernel
  have hl := lv_entry ([.ref a, .ref (E.2.2.2 (200 + i))]) (n := 5) (Nat.le_of_ble_eq_true rfl)
  rw [lg_entry_eq]
  generalize (lg_sl ([.ref a, .ref (E.2.2.2 (200 + i))]) ++ List.replicate (5 - (lg_sl ([.ref a, .ref (E.2.2.2 (200 + i))])).length) Slot.unset).toArray = ls at hl ⊢
  have hl : lv_has ls 5 [(0, .ref a), (1, .ref (E.2.2.2 (200 + i)))] := hl
  have l_hr0 := hW.lt hr0
  have hkl := kt_len i hi
  have hk40 := len_lt i hi
  rw [← hkl] at hk40
  refine lv_aload_n hx hb dJ5_init_a7421_0 rfl (lv_at hl 0 rfl) ?_
  refine w_objInit hx hb hown (hts (.methodLink RJ5 3 objectInit) (by decide +kernel)) (hts (.instanceMethod objectInit) (by decide +kernel)) (hts (.code objectInit ⟨#[0xb1]⟩ 1 none) (by decide +kernel)) rfl (hl.1.trans hml.symm) rfl dJ5_init_a7421_1 (Nat.le_of_ble_eq_true rfl) (Nat.le_of_ble_eq_true rfl) ?_
  refine lv_aload_n hx hb dJ5_init_a7421_4 rfl (lv_at hl 1 rfl) ?_
  refine q_ci (va_runV (As := []) (rest := []) ⟨hx, hb, hml, hown, hts⟩ (kJ0_length_k l E f n i hi) (cwV 0 hts gJ5_init_a7421_J0_length_8abf5 rfl rfl rfl (by decide +kernel) ⟨(Nat.le_of_ble_eq_true rfl), (Nat.le_of_ble_eq_true rfl)⟩) (q_pStr hA hW hS hi) rfl rfl hl.1 rfl (lv_room (Nat.le_of_ble_eq_true rfl)) dJ5_init_a7421_5 ⟨(Nat.le_of_ble_eq_true rfl), (Nat.le_of_ble_eq_true rfl)⟩) hS (fun r_5 f_5 n_5 H locs hp hW hS => ?_)
  obtain ⟨rfl, rfl, rfl⟩ := hp
  have hW : q_W E (f) n H := hW
  refine lv_istore_n (lv' := [(2, .int (nI (kt i).length)), (0, .ref a), (1, .ref (E.2.2.2 (200 + i)))]) hx hb dJ5_init_a7421_8 rfl hl (by decide) rfl (fun ls hl => ?_)
  refine lv_iload_n hx hb dJ5_init_a7421_9 rfl (lv_at hl 0 rfl) ?_
  refine lv_ldc hx hb hown (hts (.constant RJ5 38 (2147483631)) (by decide +kernel)) dJ5_init_a7421_10 ?_
  refine lv_icmp_ge (tgt := 22) hx hb dJ5_init_a7421_12 (by rfl) (fun c_12 => absurd c_12 (nI_ge (b := 2147483631) (by omega) (by decide))) (fun c_12 => ?_)
  refine lv_iload_n hx hb dJ5_init_a7421_15 rfl (lv_at hl 0 rfl) ?_
  refine lv_bipush (v := 16) hx hb dJ5_init_a7421_16 (by rfl) ?_
  refine lv_iadd hx hb dJ5_init_a7421_18 ?_
  rw [show nI (kt i).length + 16 = nI ((kt i).length + 16) from nI_add _ 16]
  refine lv_goto (tgt := 24) hx hb dJ5_init_a7421_19 (by rfl) ?_
  refine lv_istore_n (lv' := [(3, .int (nI ((kt i).length + 16))), (2, .int (nI (kt i).length)), (0, .ref a), (1, .ref (E.2.2.2 (200 + i)))]) hx hb dJ5_init_a7421_24 rfl hl (by decide) rfl (fun ls hl => ?_)
  refine lv_aload_n hx hb dJ5_init_a7421_25 rfl (lv_at hl 3 rfl) ?_
  refine q_ci (va_runV (As := []) (rest := []) ⟨hx, hb, hml, hown, hts⟩ (kJ0_coder_k l E f n i hi) (cwV 0 hts gJ5_init_a7421_J0_coder_7d493 rfl rfl rfl (by decide +kernel) ⟨(Nat.le_of_ble_eq_true rfl), (Nat.le_of_ble_eq_true rfl)⟩) (q_pStr hA hW hS hi) rfl rfl hl.1 rfl (lv_room (Nat.le_of_ble_eq_true rfl)) dJ5_init_a7421_26 ⟨(Nat.le_of_ble_eq_true rfl), (Nat.le_of_ble_eq_true rfl)⟩) hS (fun r_26 f_26 n_26 H locs hp hW hS => ?_)
  obtain ⟨rfl, rfl, rfl⟩ := hp
  have hW : q_W E (f) n H := hW
  refine lv_istore (lv' := [(4, .int 0), (3, .int (nI ((kt i).length + 16))), (2, .int (nI (kt i).length)), (0, .ref a), (1, .ref (E.2.2.2 (200 + i)))]) hx hb dJ5_init_a7421_29 hl (by decide) rfl (fun ls hl => ?_)
  refine lv_aload_n hx hb dJ5_init_a7421_31 rfl (lv_at hl 3 rfl) ?_
  refine lv_iload hx hb dJ5_init_a7421_32 (lv_at hl 0 rfl) ?_
  refine q_put hx hb hts hown hA hW hS iJ4 tyJ4 tyJ4_ok nmJ4 hr0 rfl 1 (by decide) (hts (.fieldLink RJ5 22 "java/lang/AbstractStringBuilder" "coder" "B") (by decide +kernel)) (fun _ h9 => h9) rfl rfl rfl (Nat.le_of_ble_eq_true rfl) dJ5_init_a7421_34 (fun H locs hW hS => ?_)
  have hW : q_W E (va_up f a (some (rSB none 0 0 0))) n H := hW
  refine lv_aload_n hx hb dJ5_init_a7421_37 rfl (lv_at hl 3 rfl) ?_
  refine lv_iload hx hb dJ5_init_a7421_38 (lv_at hl 0 rfl) ?_
  refine lv_if_ne (tgt := 49) hx hb dJ5_init_a7421_40 (by rfl) (fun c_40 => False.elim ((fun h9 => h9 rfl) c_40)) (fun c_40 => ?_)
  refine lv_iload_n hx hb dJ5_init_a7421_43 rfl (lv_at hl 1 rfl) ?_
  refine q_newa (atype := .byte) hx hb hA hW hS (hts (.arrayClass .byte) (by decide +kernel)) (ty := .byte) rfl 2 rfl (fun C h9 => by cases h9) (N' := ((kt i).length + 16)) (a0 := (((kt i).length + 16), .inl (fun _ => 0))) (fun _ => rfl) (nI_pos (by omega)) (nI_clamp (by omega)) (by show ((kt i).length + 16) * 1 ≤ 536870912; omega) (by show _ ≤ 2; omega) (by show _ ≤ 136; omega) dJ5_init_a7421_44 (fun H hW hS => ?_)
  have hW : q_W E (va_up (va_up f a (some (rSB none 0 0 0))) n (some (aB E ((kt i).length + 16) (fun _ => 0)))) (n + 1) H := hW
  refine lv_goto (tgt := 53) hx hb dJ5_init_a7421_46 (by rfl) ?_
  refine q_put hx hb hts hown hA hW hS iJ4 tyJ4 tyJ4_ok nmJ4 (q_ne (by omega) q_eq) rfl 0 (by decide) (hts (.fieldLink RJ5 15 "java/lang/AbstractStringBuilder" "value" "[B") (by decide +kernel)) (fun _ h9 => h9) rfl rfl rfl (Nat.le_of_ble_eq_true rfl) dJ5_init_a7421_53 (fun H locs hW hS => ?_)
  have hW : q_W E (va_up (va_up (va_up f a (some (rSB none 0 0 0))) n (some (aB E ((kt i).length + 16) (fun _ => 0)))) a (some (rSB (some n) 0 0 0))) (n + 1) H := hW
  refine lv_aload_n hx hb dJ5_init_a7421_56 rfl (lv_at hl 3 rfl) ?_
  refine lv_aload_n hx hb dJ5_init_a7421_57 rfl (lv_at hl 4 rfl) ?_
  refine q_cq (va_runU (As := [.ref (E.2.2.2 (200 + i))]) (rest := []) ⟨hx, hb, hml, hown, hts⟩ (kJ4_append_cf1ce l E (va_up (va_up (va_up f a (some (rSB none 0 0 0))) n (some (aB E ((kt i).length + 16) (fun _ => 0)))) a (some (rSB (some n) 0 0 0))) (n + 1) a n ((kt i).length + 16) i 40 ([] : List Int32) q_eq (show _ = some (aB E ((kt i).length + 16) (tx ([] : List Int32))) from (by rw [tx_nil]; exact (q_ne (by omega) q_eq))) (show 0 + (kt i).length ≤ 40 by omega) (by omega) (by omega) (Nat.zero_le _) okb_nil hi) (va_cwO 1 hts gJ5_init_a7421_J4_append_cf1ce_u43J4 rfl rfl rfl (b0 := cJ5_append_cf1ce) (m0 := 3) (r0 := (some (.object "java/lang/AbstractStringBuilder"))) (by decide +kernel) (by decide +kernel) ⟨(Nat.le_of_ble_eq_true rfl), (Nat.le_of_ble_eq_true rfl)⟩) (q_pV hA hW hS (ci := 1) rfl q_eq) rfl rfl hl.1 rfl (lv_room (Nat.le_of_ble_eq_true rfl)) dJ5_init_a7421_58 ⟨(by show _ ≤ 2; omega), (by show _ ≤ 136; omega)⟩) hS (fun r_58 f_58 n_58 H locs hp hW hS => ?_)
  obtain ⟨b1_58, m1_58, rfl, e0_58, e1_58, el_58, em4_58, eb_58, en_58, hfr_58⟩ := hp
  have l_e0_58 := hW.lt e0_58
  have l_e1_58 := hW.lt e1_58
  refine lv_pop hx hb dJ5_init_a7421_61 rfl ?_
  exact q_vret hx hb hr hlocks hW hS ⟨b1_58, m1_58, e0_58, e1_58, el_58, em4_58, (by omega), (by omega), (fun q g0 g1 => ((hfr_58 _ (by omega) (by omega) (by omega)).trans (q_ne (by omega) (q_ne (by omega) (q_ne (by omega) rfl)))))⟩ (by show _ ≤ 2; omega) (by show _ ≤ 136; omega) dJ5_init_a7421_62

set_option maxHeartbeats 4000000 in
set_option maxRecDepth 100000 in
theorem kJ4_init_a7421 (l : Launch) (E : q_E) (f : q_H) (n : Nat) (a i : Nat) (hr0 : f a = some (rSB none 0 0 0)) (hi : i < 50) : Met l yJ4_init_a7421 wsJ4_init_a7421 ({ frames := 8, cells := 2, slots := 136, locals := 600 }) (q_P E [.ref a, .ref (E.2.2.2 (200 + i))] f n) (q_Qv E (fun f1 n1 => ∃ (b1 : Nat) (m1 : Nat), f1 a = some (cSB b1 (nI (kt i).length)) ∧ f1 b1 = some (aB E m1 (tx (kt i))) ∧ (kt i).length ≤ m1 ∧ m1 ≤ 80 ∧ n ≤ b1 ∧ n ≤ n1 ∧ ∀ z9, z9 ≠ a → z9 < n → f1 z9 = f z9)) 2 136 (q_ge E) := by
  refine Met.ofW (cc := cJ4_init_a7421) (maxL := 2) (ret := none) (by decide) rfl ?_
  intro p0_ e0_ s0_ m0_ args0_ below0_ meth0_ c0_ s1_ B hml hv
  obtain ⟨rfl, hA, hW⟩ := hv
  have hx := B.exec
  have hb := B.bytes
  have hr := B.returns
  have hts := atoms_spec (ws := wsJ4_init_a7421) B.pre
  have hown : s0_.vm.findClass RJ4 = some m0_.cls := findClass_of_methodNamed B.named
  have hlocks := B.notSynchronized
  have hin : meth0_.name = "<init>" := (name_of_methodNamed B.named B.method).1
  have hS : va_S (q_ge E) s0_.heap s0_.heap [] := va_S.rf
  have hl := lv_entry ([.ref a, .ref (E.2.2.2 (200 + i))]) (n := 2) (Nat.le_of_ble_eq_true rfl)
  rw [lg_entry_eq]
  generalize (lg_sl ([.ref a, .ref (E.2.2.2 (200 + i))]) ++ List.replicate (2 - (lg_sl ([.ref a, .ref (E.2.2.2 (200 + i))])).length) Slot.unset).toArray = ls at hl ⊢
  have hl : lv_has ls 2 [(0, .ref a), (1, .ref (E.2.2.2 (200 + i)))] := hl
  have l_hr0 := hW.lt hr0
  refine lv_aload_n hx hb dJ4_init_a7421_0 rfl (lv_at hl 0 rfl) ?_
  refine lv_aload_n hx hb dJ4_init_a7421_1 rfl (lv_at hl 1 rfl) ?_
  refine q_cv (va_runI (As := [.ref (E.2.2.2 (200 + i))]) (rest := []) ⟨hx, hb, hml, hown, hts⟩ (kJ5_init_a7421 l E f n a i hr0 (by assumption)) (cwI 1 hts gJ4_init_a7421_J5_init_a7421 rfl rfl rfl (hts (.initialized RJ5) (by decide +kernel)) (hts (.methodLink RJ4 7 yJ5_init_a7421) (by decide +kernel)) (hts (.instanceMethod yJ5_init_a7421) (by decide +kernel)) rfl (by decide +kernel) ⟨(Nat.le_of_ble_eq_true rfl), (Nat.le_of_ble_eq_true rfl)⟩) (q_pS hA hW hS) rfl rfl hl.1 rfl (lv_room (Nat.le_of_ble_eq_true rfl)) dJ4_init_a7421_2 ⟨(Nat.le_of_ble_eq_true rfl), (Nat.le_of_ble_eq_true rfl)⟩) hS (fun f_2 n_2 H locs hp hW hS => ?_)
  obtain ⟨b1_2, m1_2, e0_2, e1_2, el_2, em4_2, eb_2, en_2, hfr_2⟩ := hp
  have l_e0_2 := hW.lt e0_2
  have l_e1_2 := hW.lt e1_2
  exact q_vret hx hb hr hlocks hW hS ⟨b1_2, m1_2, e0_2, e1_2, el_2, em4_2, eb_2, en_2, (fun q g0 g1 => ((hfr_2 _ (by omega) (by omega)).trans rfl))⟩ (by show _ ≤ 2; omega) (by show _ ≤ 136; omega) dJ4_init_a7421_5

/-- the object at r is the text V: one of the constants, or one of ours -/
def TXT (E : q_E) (f : q_H) (r : Nat) (V : List Int32) : Prop := (∃ i, i < 50 ∧ r = E.2.2.2 (200 + i) ∧ V = kt i) ∨ ∃ rb, f r = some (cStr rb) ∧ f rb = some (aB E V.length (tx V))

theorem kJ4_append_S (l : Launch) (E : q_E) (f : q_H) (n : Nat) (sb b m r C : Nat) (W V : List Int32) (h0 : f sb = some (cSB b (nI W.length))) (h1 : f b = some (aB E m (tx W)))  (hq2 : W.length + V.length ≤ C) (hm : m ≤ 2 * C) (hC : C ≤ 2000) (hw : W.length ≤ m) (ho : okb W) (hoV : okb V) (hT : TXT E f r V) (hrb : ∀ rb, f r = some (cStr rb) → rb ≠ b) : Met l yJ4_append_15ec4 wsJ4_append_15ec4 ({ frames := 5, cells := 1, slots := 2 * C, locals := 300 }) (q_P E [.ref sb, .ref r] f n) (q_Qq E (fun r0 f1 n1 => ∃ (b1 : Nat) (m1 : Nat), some sb = r0 ∧ f1 sb = some (cSB b1 (nI (W ++ V).length)) ∧ f1 b1 = some (aB E m1 (tx (W ++ V))) ∧ (W ++ V).length ≤ m1 ∧ m1 ≤ 2 * C ∧ (b1 = b ∨ n ≤ b1) ∧ n ≤ n1 ∧ ∀ z9, z9 ≠ sb → z9 ≠ b → z9 < n → f1 z9 = f z9)) 1 (2 * C) (q_ge E) := by
  rcases hT with ⟨i, hi, rfl, rfl⟩ | ⟨rb, h2, h3⟩
  · exact kJ4_append_k l E f n sb b m i C W h0 h1 hq2 hm hC hw ho hi
  · exact kJ4_append_15ec4 l E f n sb b m r rb C W V h0 h1 h2 h3 hq2 hm hC hw ho hoV (hrb rb h2)

theorem ktl_0 : (kt 0).length = 4 := rfl
theorem ktl_1 : (kt 1).length = 1 := rfl
theorem ktl_2 : (kt 2).length = 7 := rfl
theorem ktl_3 : (kt 3).length = 1 := rfl
theorem ktl_4 : (kt 4).length = 8 := rfl
theorem ktl_5 : (kt 5).length = 1 := rfl
theorem ktl_6 : (kt 6).length = 5 := rfl
theorem ktl_7 : (kt 7).length = 0 := rfl
theorem ktl_8 : (kt 8).length = 4 := rfl
theorem ktl_9 : (kt 9).length = 1 := rfl
theorem ktl_10 : (kt 10).length = 1 := rfl
theorem ktl_11 : (kt 11).length = 12 := rfl
theorem ktl_12 : (kt 12).length = 1 := rfl
theorem ktl_13 : (kt 13).length = 11 := rfl
theorem ktl_14 : (kt 14).length = 2 := rfl
theorem ktl_15 : (kt 15).length = 5 := rfl
theorem ktl_16 : (kt 16).length = 4 := rfl
theorem ktl_17 : (kt 17).length = 5 := rfl
theorem ktl_18 : (kt 18).length = 5 := rfl
theorem ktl_19 : (kt 19).length = 2 := rfl
theorem ktl_20 : (kt 20).length = 6 := rfl
theorem ktl_21 : (kt 21).length = 5 := rfl
theorem ktl_22 : (kt 22).length = 2 := rfl
theorem ktl_23 : (kt 23).length = 5 := rfl
theorem ktl_24 : (kt 24).length = 6 := rfl
theorem ktl_25 : (kt 25).length = 6 := rfl
theorem ktl_26 : (kt 26).length = 3 := rfl
theorem ktl_27 : (kt 27).length = 5 := rfl
theorem ktl_28 : (kt 28).length = 4 := rfl
theorem ktl_29 : (kt 29).length = 1 := rfl
theorem ktl_30 : (kt 30).length = 1 := rfl
theorem ktl_31 : (kt 31).length = 35 := rfl
theorem ktl_32 : (kt 32).length = 15 := rfl
theorem ktl_33 : (kt 33).length = 8 := rfl
theorem ktl_34 : (kt 34).length = 7 := rfl
theorem ktl_35 : (kt 35).length = 6 := rfl
theorem ktl_36 : (kt 36).length = 8 := rfl
theorem ktl_37 : (kt 37).length = 5 := rfl
theorem ktl_38 : (kt 38).length = 5 := rfl
theorem ktl_39 : (kt 39).length = 4 := rfl
theorem ktl_40 : (kt 40).length = 4 := rfl
theorem ktl_41 : (kt 41).length = 4 := rfl
theorem ktl_42 : (kt 42).length = 4 := rfl
theorem ktl_43 : (kt 43).length = 1 := rfl
theorem ktl_44 : (kt 44).length = 1 := rfl
theorem ktl_45 : (kt 45).length = 1 := rfl
theorem ktl_46 : (kt 46).length = 1 := rfl
theorem ktl_47 : (kt 47).length = 1 := rfl
theorem ktl_48 : (kt 48).length = 1 := rfl
theorem ktl_49 : (kt 49).length = 1 := rfl
theorem kt_le {i : Nat} (h : i < 50) : (kt i).length ≤ 40 := by rw [kt_len i h]; exact len_lt i h
/-- the name of a pan -/
def pT (p : Nat) : List Int32 := kt 1 ++ [nI (97 + p)]
theorem pT_len (p : Nat) : (pT p).length = 2 := rfl
theorem okb_pT {p : Nat} (h : p < 26) : okb (pT p) := okb_app (kt_okb (by decide)) (okb_one (by omega))

