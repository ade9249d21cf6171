/-! the tokens of a whole tape -/
def tkO (E : q_E) (f : q_H) (t : Nat) (kk : Nat → Option Nat) (po : Nat → Int32) (wo : Nat → Int64) (x : va_E) : q_H := fun q => if q = t then some x else if q = t + 1 then some (aQ E 5 401 kk) else if q = t + 2 then some (aI E 401 po) else if q = t + 3 then some (aJ E 401 wo) else f q
section TK
variable {E : q_E} {f : q_H} {t : Nat} {kk kk' : Nat → Option Nat} {po po' : Nat → Int32} {wo wo' : Nat → Int64} {x x' : va_E}
theorem tkO_0 : tkO E f t kk po wo x t = some x := if_pos rfl
theorem tkO_1 : tkO E f t kk po wo x (t + 1) = some (aQ E 5 401 kk) := by simp [tkO]
theorem tkO_2 : tkO E f t kk po wo x (t + 2) = some (aI E 401 po) := by simp [tkO]
theorem tkO_3 : tkO E f t kk po wo x (t + 3) = some (aJ E 401 wo) := by simp [tkO]
theorem tkO_out {q : Nat} (h : q < t ∨ t + 3 < q) : tkO E f t kk po wo x q = f q := by
  unfold tkO
  rw [if_neg (by omega), if_neg (by omega), if_neg (by omega), if_neg (by omega)]
theorem tkO_in (h0 : f t = some x) (h1 : f (t + 1) = some (aQ E 5 401 kk)) (h2 : f (t + 2) = some (aI E 401 po)) (h3 : f (t + 3) = some (aJ E 401 wo)) : f = tkO E f t kk po wo x := by
  funext q
  unfold tkO
  repeat' split
  · next h => rw [h]; exact h0
  · next h => rw [h]; exact h1
  · next h => rw [h]; exact h2
  · next h => rw [h]; exact h3
  · rfl
theorem tkO_all : va_up (va_up (va_up (va_up (tkO E f t kk po wo x) (t + 1) (some (aQ E 5 401 kk'))) (t + 2) (some (aI E 401 po'))) (t + 3) (some (aJ E 401 wo'))) t (some x') = tkO E f t kk' po' wo' x' := by
  funext q
  by_cases h0 : q = t
  · simp [va_up, tkO, h0]
  · by_cases h1 : q = t + 1
    · simp [va_up, tkO, h1]
    · by_cases h2 : q = t + 2
      · simp [va_up, tkO, h2]
      · by_cases h3 : q = t + 3
        · simp [va_up, tkO, h3]
        · simp [va_up, tkO, h0, h1, h2, h3]
theorem tkO_s0 : va_up (tkO E f t kk po wo x) t (some x') = tkO E f t kk po wo x' := by
  funext q
  by_cases h0 : q = t
  · simp [va_up, tkO, h0]
  · simp [va_up, tkO, h0]
end TK
/-- the arrays hold the tokens up to the last, T -/
def t_ok (E : q_E) (g : Nat → Int32) (L T : Nat) (kk : Nat → Option Nat) (po : Nat → Int32) (wo : Nat → Int64) : Prop := T ≤ 400 ∧ (t_K g L T = 39 ∨ t_K g L T = 40) ∧ (∀ j, j < T → t_K g L j ≠ 39 ∧ t_K g L j ≠ 40) ∧ ∀ j, j ≤ T → kk j = some (E.2.2.2 (t_K g L j)) ∧ po j = nI (t_P g L j) ∧ wo j = t_W g L j
theorem t_kind_39 {g : Nat → Int32} {L j len : Nat} {w : Int64} (h : j < L) : t_kind (t_at g L j) len w ≠ 39 := by
  unfold t_kind
  have hne : ¬ t_at g L j = -1 := by
    unfold t_at
    rw [if_pos h]
    obtain ⟨z, hz, e⟩ := and255 (g j)
    rw [e]
    have : nI z ≠ (-1 : Int32) := by
      intro h9
      have := congrArg Int32.toInt h9
      rw [nI_toInt (by omega)] at this
      have h2 : (-1 : Int32).toInt = -1 := by decide
      omega
    exact this
  repeat' split
  · rcases k_word_ne (w := w) with h1 | h1 <;> omega
  · decide
  · decide
  · decide
  · rcases k_sign_ne hne with h1 | h1 <;> omega
theorem t_K_39 {g : Nat → Int32} {L i : Nat} (h : t_ps g L i < L) : t_K g L i ≠ 39 := by
  unfold t_K
  rw [if_pos h]
  split
  · exact t_kind_39 h
  · decide
theorem t_K_end {g : Nat → Int32} {L i : Nat} (h : L ≤ t_ps g L i) : t_K g L i = 39 := if_neg (by omega)
theorem va_upE {α : Type} {f : Nat → α} {i j : Nat} {v : α} : va_up f i v j = if j = i then v else f j := rfl
theorem updE {f : Nat → Int32} {i j : Nat} {v : Int32} : upd f i v j = if j = i then v else f j := rfl
theorem updLE {f : Nat → Int64} {i j : Nat} {v : Int64} : vp_updL f i v j = if j = i then v else f j := rfl
/-- one token more -/
theorem t_more {E : q_E} {g : Nat → Int32} {L i : Nat} {kk : Nat → Option Nat} {po : Nat → Int32} {wo : Nat → Int64} (h : ∀ j, j < i → kk j = some (E.2.2.2 (t_K g L j)) ∧ po j = nI (t_P g L j) ∧ wo j = t_W g L j) {kd : Nat} {y : Int32} {w : Int64} (hk : kd = t_K g L i) (hy : y = nI (t_P g L i)) (hw : w = t_W g L i) (j : Nat) (hj : j < i + 1) : va_up kk i (some (E.2.2.2 kd)) j = some (E.2.2.2 (t_K g L j)) ∧ upd po i y j = nI (t_P g L j) ∧ vp_updL wo i w j = t_W g L j := by
  rw [va_upE, updE, updLE]
  by_cases e : j = i
  · subst e
    rw [if_pos rfl, if_pos rfl, if_pos rfl, hk, hy, hw]
    exact ⟨rfl, rfl, rfl⟩
  · rw [if_neg e, if_neg e, if_neg e]
    exact h j (by omega)

set_option maxHeartbeats 4000000 in
set_option maxRecDepth 100000 in
theorem kX10_split (l : Launch) (E : q_E) (f : q_H) (n : Nat) (x L : Nat) (g : Nat → Int32) (t : Nat) (kk0 : Nat → Option Nat) (po0 : Nat → Int32) (wo0 : Nat → Int64) (c0 here : Int32) (k0 : Nat) (h0 : f x = some (cTape x (nI L))) (h1 : f (x + 1) = some (aB E 1600 g)) (h4 : f t = some (cTok E t c0 here k0)) (h5 : f (t + 1) = some (aQ E 5 401 kk0)) (h6 : f (t + 2) = some (aI E 401 po0)) (h7 : f (t + 3) = some (aJ E 401 wo0)) (hL : L ≤ 1600) (hx0 : x < t ∨ t + 3 < x) (hx1 : x + 1 < t ∨ t + 3 < x + 1) : Met l yX10_split wsX10_split ({ frames := 3, cells := 0, slots := 0, locals := 64 }) (q_P E [.ref t, .ref x] f n) (q_Qv E (fun f1 n1 => ∃ (T : Nat) (kk : Nat → Option Nat) (po : Nat → Int32) (wo : Nat → Int64), t_ok E g L T kk po wo ∧ tkO E f t kk po wo (cTok E t (nI (T + 1)) (nI 0) (t_K g L 0)) = f1 ∧ n = n1)) 0 0 (q_ge E) := by
  refine Met.ofW (cc := cX10_split) (maxL := 8) (ret := none) (by decide) rfl ?_
  intro p e s m args below meth c s₁ B hml hv
  obtain ⟨rfl, hA, hW⟩ := hv
  have hx := B.exec
  have hb := B.bytes
  have hr := B.returns
  have hts := atoms_spec (ws := wsX10_split) B.pre
  have hown : s.vm.findClass RX10 = some m.cls := findClass_of_methodNamed B.named
  have hlocks := B.notSynchronized
  have hS : va_S (q_ge E) s.heap s.heap [] := va_S.rf
  have iX10 : ∀ w ∈ wsX100, w ∈ wsX10_split := by decide +kernel
  have iX9 : ∀ w ∈ wsX90, w ∈ wsX10_split := by decide +kernel
  have hl := lv_entry ([.ref t, .ref x]) (n := 8) (Nat.le_of_ble_eq_true rfl)
  rw [lg_entry_eq]
  generalize (lg_sl ([.ref t, .ref x]) ++ List.replicate (8 - (lg_sl ([.ref t, .ref x])).length) Slot.unset).toArray = ls at hl ⊢
  have hl : lv_has ls 8 [(0, .ref t), (1, .ref x)] := hl
  refine lv_aload_n hx hb dX10_split_0 rfl (lv_at hl 0 rfl) ?_
  refine lv_iconst (v := 0) hx hb dX10_split_1 (by decide) ?_
  refine q_put hx hb hts hown hA hW hS iX10 tyX10 tyX10_ok nmX10 h4 rfl 3 (by decide) (hts (.fieldLink RX10 30 "HighRecipes$Tokens" "count" "I") (by decide +kernel)) (fun _ h9 => h9) rfl rfl rfl (Nat.le_of_ble_eq_true rfl) dX10_split_2 (fun H locs hW hS => ?_)
  have hW : q_W E (va_up f t (some (cTok E t 0 here k0))) n H := hW
  refine va_gets (n := "END") (v := .ref (E.2.2.2 39)) hx hb (hA.2.2.1.1.1 39 (by decide)).1 hS hown (hts (.fieldLink RX10 23 "HighRecipes$Kind" "END" "LHighRecipes$Kind;") (by decide +kernel)) (fun _ h9 => h9) dX10_split_5 ?_
  refine lv_astore_n (lv' := [(2, .ref (E.2.2.2 39)), (0, .ref t), (1, .ref x)]) hx hb dX10_split_8 rfl hl (by decide) rfl (fun ls hl => ?_)
  refine lv_aload_n hx hb dX10_split_9 rfl (lv_at hl 2 rfl) ?_
  refine lv_iconst (v := 0) hx hb dX10_split_10 (by decide) ?_
  refine q_ci (va_runS (As := [.ref x, .int 0]) (rest := []) ⟨hx, hb, hml, hown, hts⟩ (kX10_behindBlanks l E (va_up f t (some (cTok E t 0 here k0))) n x L g 0 (q_ne (by omega) h0) (q_ne (by omega) h1) (by assumption) (Nat.zero_le _)) (va_cwS 2 hts gX10_split_X10_behindBlanks rfl rfl rfl (by decide +kernel) ⟨(Nat.le_of_ble_eq_true rfl), (Nat.le_of_ble_eq_true rfl)⟩) (q_pS hA hW hS) rfl rfl hl.1 rfl (lv_room (Nat.le_of_ble_eq_true rfl)) dX10_split_11 ⟨Nat.le_of_ble_eq_true rfl, Nat.le_of_ble_eq_true rfl⟩) hS (fun r_11 f_11 n_11 H locs hp hW hS => ?_)
  obtain ⟨rfl, rfl, rfl⟩ := hp
  have hW : q_W E (va_up f t (some (cTok E t 0 here k0))) n H := hW
  refine lv_istore_n (lv' := [(3, .int (nI (t_skip g L 0))), (2, .ref (E.2.2.2 39)), (0, .ref t), (1, .ref x)]) hx hb dX10_split_14 rfl hl (by decide) rfl (fun ls hl => ?_)
  refine lv_iconst (v := 0) hx hb dX10_split_15 (by decide) ?_
  refine lv_istore (lv' := [(4, .int 0), (3, .int (nI (t_skip g L 0))), (2, .ref (E.2.2.2 39)), (0, .ref t), (1, .ref x)]) hx hb dX10_split_16 hl (by decide) rfl (fun ls hl => ?_)
  have K18 : ∀ (fu : Nat) (i : Nat) (kk : Nat → Option Nat) (po : Nat → Int32) (wo : Nat → Int64) (hi : i ≤ 401) (hall : ∀ j, j < i → t_ps g L j < L) (hn40 : ∀ j, j + 1 < i → t_K g L j ≠ 40) (hkk : ∀ j, j < i → kk j = some (E.2.2.2 (t_K g L j)) ∧ po j = nI (t_P g L j) ∧ wo j = t_W g L j) (hlat : t_lat g L i < 41) (hm : 401 - i < fu) (H : Heap) (locs : List Loc) (ls : Array Slot), q_W E (tkO E f t kk po wo (cTok E t (nI i) here k0)) n H → va_S (q_ge E) s.heap H locs → lv_has ls 8 [(0, .ref t), (1, .ref x), (2, .ref (E.2.2.2 (t_lat g L i))), (3, .int (nI (t_ps g L i))), (4, .int (nI i))] → W p l e (headSpec wsX10_split ({ frames := 3, cells := 0, slots := 0, locals := 64 })).room s m ([.ref t, .ref x] : List Value).toArray below meth c H locs 0 0 (MQ below (q_Qv E (fun f1 n1 => ∃ (T : Nat) (kk : Nat → Option Nat) (po : Nat → Int32) (wo : Nat → Int64), t_ok E g L T kk po wo ∧ tkO E f t kk po wo (cTok E t (nI (T + 1)) (nI 0) (t_K g L 0)) = f1 ∧ n = n1)) ([.ref t, .ref x] : List Value).toArray s 0 0 (q_ge E)) (F0 m 18 ls []) := by
    intro fu
    induction fu with
    | zero =>
      intro i kk po wo hi hall hn40 hkk hlat hm
      exact absurd hm (Nat.not_lt_zero _)
    | succ fu ih =>
      intro i kk po wo hi hall hn40 hkk hlat hm H locs ls hW hS hl
      have hpsL : t_ps g L i ≤ L := t_ps_le i hall
      refine lv_iload hx hb dX10_split_18 (lv_at hl 4 rfl) ?_
      refine lv_sipush (v := 400) hx hb dX10_split_20 (by decide) ?_
      refine lv_icmp_gt (tgt := 107) hx hb dX10_split_23 (by decide) (fun c_23 => ?_) (fun c_23 => ?_)
      · have hi401 : i = 401 := by rcases Nat.lt_or_ge i 401 with h9 | h9; exact absurd (show nI 400 < nI i from c_23) (nI_nlt (by omega) (by decide)); omega
        have hex : ¬ t_lat g L i = 40 → i ≤ 400 ∧ L ≤ t_ps g L i := fun h9 => False.elim (h9 (by subst hi401; show t_K g L 400 = 40; unfold t_K; rw [if_pos (hall 400 (by omega)), if_neg (by decide)]))
        refine lv_aload_n hx hb dX10_split_107 rfl (lv_at hl 2 rfl) ?_
        refine va_gets (n := "BAD") (v := .ref (E.2.2.2 40)) hx hb (hA.2.2.1.1.1 40 (by decide)).1 hS hown (hts (.fieldLink RX10 43 "HighRecipes$Kind" "BAD" "LHighRecipes$Kind;") (by decide +kernel)) (fun _ h9 => h9) dX10_split_108 ?_
        refine lv_acmp_eq (rx := (some (E.2.2.2 (t_lat g L i)))) (ry := (some (E.2.2.2 40))) (tgt := 126) hx hb dX10_split_111 (by decide) (fun c_111 => ?_) (fun c_111 => ?_)
        · have h40 : t_lat g L i = 40 := q_kinj hA hlat (by decide) c_111
          have hi1 : 0 < i := by rcases Nat.eq_zero_or_pos i with h9 | h9; (subst h9; exact absurd h40 (show ¬ (39 : Nat) = 40 by decide)); exact h9
          refine lv_aload_n hx hb dX10_split_126 rfl (lv_at hl 0 rfl) ?_
          refine lv_iconst (v := (-1)) hx hb dX10_split_127 (by decide) ?_
          refine q_put hx hb hts hown hA hW hS iX10 tyX10 tyX10_ok nmX10 tkO_0 rfl 4 (by decide) (hts (.fieldLink RX10 65 "HighRecipes$Tokens" "here" "I") (by decide +kernel)) (fun _ h9 => h9) rfl rfl rfl (Nat.le_of_ble_eq_true rfl) dX10_split_128 (fun H locs hW hS => ?_)
          have hW : q_W E (va_up (tkO E f t kk po wo (cTok E t (nI i) here k0)) t (some (cTok E t (nI i) (-1) k0))) n H := hW
          refine lv_aload_n hx hb dX10_split_131 rfl (lv_at hl 0 rfl) ?_
          refine lv_iconst (v := 1) hx hb dX10_split_132 (by decide) ?_
          refine q_cv (va_runV (As := [.int 1]) (rest := []) ⟨hx, hb, hml, hown, hts⟩ (kX10_stepT l E (va_up (tkO E f t kk po wo (cTok E t (nI i) here k0)) t (some (cTok E t (nI i) (-1) k0))) n t i (-1) k0 0 (t_K g L 0) kk q_eq (q_ne (by omega) tkO_1) (by decide) (by rcases Nat.eq_zero_or_pos i with h9 | h9; (subst h9; exact absurd h40 (show ¬ (39 : Nat) = 40 by decide)); exact h9) (by omega) (hkk 0 (by rcases Nat.eq_zero_or_pos i with h9 | h9; (subst h9; exact absurd h40 (show ¬ (39 : Nat) = 40 by decide)); exact h9)).1) (cwV 1 hts gX10_split_X10_step rfl rfl rfl (by decide +kernel) ⟨(Nat.le_of_ble_eq_true rfl), (Nat.le_of_ble_eq_true rfl)⟩) (q_pV hA hW hS (ci := 10) rfl q_eq) rfl rfl hl.1 rfl (lv_room (Nat.le_of_ble_eq_true rfl)) dX10_split_133 ⟨Nat.le_of_ble_eq_true rfl, Nat.le_of_ble_eq_true rfl⟩) hS (fun f_133 n_133 H locs hp hW hS => ?_)
          obtain ⟨rfl, rfl⟩ := hp
          rw [q_upup] at hW
          have hW : q_W E (va_up (tkO E f t kk po wo (cTok E t (nI i) here k0)) t (some (cTok E t (nI i) (nI 0) (t_K g L 0)))) n H := hW
          exact q_vret hx hb hr hlocks hW hS ⟨i - 1, kk, po, wo, ⟨by omega, Or.inr (by cases i with | zero => exact absurd h40 (show ¬ (39 : Nat) = 40 by decide) | succ i1 => exact h40), fun j hj => ⟨t_K_39 (hall j (by omega)), hn40 j (by omega)⟩, fun j hj => hkk j (by omega)⟩, by rw [show i - 1 + 1 = i by omega, tkO_s0], rfl⟩ (Nat.le_of_ble_eq_true rfl) (Nat.le_of_ble_eq_true rfl) dX10_split_136
        · have h40 : ¬ t_lat g L i = 40 := fun h9 => c_111 (by rw [h9])
          have hex1 := hex h40
          refine lv_aload_n hx hb dX10_split_114 rfl (lv_at hl 0 rfl) ?_
          refine va_gets (n := "END") (v := .ref (E.2.2.2 39)) hx hb (hA.2.2.1.1.1 39 (by decide)).1 hS hown (hts (.fieldLink RX10 23 "HighRecipes$Kind" "END" "LHighRecipes$Kind;") (by decide +kernel)) (fun _ h9 => h9) dX10_split_115 ?_
          refine lv_aload_n hx hb dX10_split_118 rfl (lv_at hl 1 rfl) ?_
          refine q_getN hx hb hts hown hA hW iX9 ((tkO_out hx0).trans h0) rfl 1 (by decide) (va_Nw.use rfl (hA.2.2.2.1 ("HighRecipes$Tokens", 38, "HighRecipes$Tape", "length", "I", "HighRecipes") (by decide +kernel))) (fun _ h9 => h9) (v := .int (nI L)) rfl dX10_split_119 ?_
          refine lv_lconst (v := 0) hx hb dX10_split_122 (by decide) ?_
          refine q_cv (va_runV (As := [.ref (E.2.2.2 39), .int (nI L), .long 0]) (rest := []) ⟨hx, hb, hml, hown, hts⟩ (kX10_add l E (tkO E f t kk po wo (cTok E t (nI i) here k0)) n t kk po wo i here k0 39 (nI L) 0 tkO_0 tkO_1 tkO_2 tkO_3 (by omega) (by decide)) (cwV 3 hts gX10_split_X10_add rfl rfl rfl (by decide +kernel) ⟨(Nat.le_of_ble_eq_true rfl), (Nat.le_of_ble_eq_true rfl)⟩) (q_pV hA hW hS (ci := 10) rfl tkO_0) rfl rfl hl.1 rfl (lv_room (Nat.le_of_ble_eq_true rfl)) dX10_split_123 ⟨Nat.le_of_ble_eq_true rfl, Nat.le_of_ble_eq_true rfl⟩) hS (fun f_123 n_123 H locs hp hW hS => ?_)
          obtain ⟨rfl, rfl⟩ := hp
          have hW : q_W E (va_up (va_up (va_up (va_up (tkO E f t kk po wo (cTok E t (nI i) here k0)) (t + 1) (some (aQ E 5 401 (va_up kk i (some (E.2.2.2 39)))))) (t + 2) (some (aI E 401 (upd po i (nI L))))) (t + 3) (some (aJ E 401 (vp_updL wo i 0)))) t (some (cTok E t (nI (i + 1)) here k0))) n H := hW
          refine lv_aload_n hx hb dX10_split_126 rfl (lv_at hl 0 rfl) ?_
          refine lv_iconst (v := (-1)) hx hb dX10_split_127 (by decide) ?_
          refine q_put hx hb hts hown hA hW hS iX10 tyX10 tyX10_ok nmX10 q_eq rfl 4 (by decide) (hts (.fieldLink RX10 65 "HighRecipes$Tokens" "here" "I") (by decide +kernel)) (fun _ h9 => h9) rfl rfl rfl (Nat.le_of_ble_eq_true rfl) dX10_split_128 (fun H locs hW hS => ?_)
          rw [q_upup] at hW
          have hW : q_W E (va_up (va_up (va_up (va_up (tkO E f t kk po wo (cTok E t (nI i) here k0)) (t + 1) (some (aQ E 5 401 (va_up kk i (some (E.2.2.2 39)))))) (t + 2) (some (aI E 401 (upd po i (nI L))))) (t + 3) (some (aJ E 401 (vp_updL wo i 0)))) t (some (cTok E t (nI (i + 1)) (-1) k0))) n H := hW
          refine lv_aload_n hx hb dX10_split_131 rfl (lv_at hl 0 rfl) ?_
          refine lv_iconst (v := 1) hx hb dX10_split_132 (by decide) ?_
          refine q_cv (va_runV (As := [.int 1]) (rest := []) ⟨hx, hb, hml, hown, hts⟩ (kX10_stepT l E (va_up (va_up (va_up (va_up (tkO E f t kk po wo (cTok E t (nI i) here k0)) (t + 1) (some (aQ E 5 401 (va_up kk i (some (E.2.2.2 39)))))) (t + 2) (some (aI E 401 (upd po i (nI L))))) (t + 3) (some (aJ E 401 (vp_updL wo i 0)))) t (some (cTok E t (nI (i + 1)) (-1) k0))) n t (i + 1) (-1) k0 0 (t_K g L 0) (va_up kk i (some (E.2.2.2 39))) q_eq (q_ne (by omega) (q_ne (by omega) (q_ne (by omega) q_eq))) (by decide) (by omega) (by omega) (t_more hkk (t_K_end hex1.2).symm (by unfold t_P; rw [if_neg (by omega)]) (by unfold t_W; rw [if_neg (by omega)]) 0 (by omega)).1) (cwV 1 hts gX10_split_X10_step rfl rfl rfl (by decide +kernel) ⟨(Nat.le_of_ble_eq_true rfl), (Nat.le_of_ble_eq_true rfl)⟩) (q_pV hA hW hS (ci := 10) rfl q_eq) rfl rfl hl.1 rfl (lv_room (Nat.le_of_ble_eq_true rfl)) dX10_split_133 ⟨Nat.le_of_ble_eq_true rfl, Nat.le_of_ble_eq_true rfl⟩) hS (fun f_133 n_133 H locs hp hW hS => ?_)
          obtain ⟨rfl, rfl⟩ := hp
          rw [q_upup] at hW
          have hW : q_W E (va_up (va_up (va_up (va_up (tkO E f t kk po wo (cTok E t (nI i) here k0)) (t + 1) (some (aQ E 5 401 (va_up kk i (some (E.2.2.2 39)))))) (t + 2) (some (aI E 401 (upd po i (nI L))))) (t + 3) (some (aJ E 401 (vp_updL wo i 0)))) t (some (cTok E t (nI (i + 1)) (nI 0) (t_K g L 0)))) n H := hW
          exact q_vret hx hb hr hlocks hW hS ⟨i, va_up kk i (some (E.2.2.2 39)), upd po i (nI L), vp_updL wo i 0, ⟨hex1.1, Or.inl (t_K_end hex1.2), fun j hj => ⟨t_K_39 (hall j hj), fun h9 => by rcases Nat.lt_or_ge (j + 1) i with h8 | h8; exact hn40 j h8 h9; exact h40 (by rw [show i = j + 1 by omega]; exact h9)⟩, fun j hj => t_more hkk (t_K_end hex1.2).symm (by unfold t_P; rw [if_neg (by omega)]) (by unfold t_W; rw [if_neg (by omega)]) j (by omega)⟩, tkO_all.symm, rfl⟩ (Nat.le_of_ble_eq_true rfl) (Nat.le_of_ble_eq_true rfl) dX10_split_136
      · have hi4 : i ≤ 400 := by rcases Nat.lt_or_ge 400 i with h9 | h9; exact absurd (show nI 400 < nI i from nI_lt h9 (by omega)) c_23; exact h9
        refine lv_iload_n hx hb dX10_split_26 rfl (lv_at hl 3 rfl) ?_
        refine lv_aload_n hx hb dX10_split_27 rfl (lv_at hl 1 rfl) ?_
        refine q_getN hx hb hts hown hA hW iX9 ((tkO_out hx0).trans h0) rfl 1 (by decide) (va_Nw.use rfl (hA.2.2.2.1 ("HighRecipes$Tokens", 38, "HighRecipes$Tape", "length", "I", "HighRecipes") (by decide +kernel))) (fun _ h9 => h9) (v := .int (nI L)) rfl dX10_split_28 ?_
        refine lv_icmp_ge (tgt := 107) hx hb dX10_split_31 (by decide) (fun c_31 => ?_) (fun c_31 => ?_)
        · have hle : L ≤ t_ps g L i := by rcases Nat.lt_or_ge (t_ps g L i) L with h9 | h9; exact absurd c_31 (nI_ge h9 (by omega)); exact h9
          have hex : ¬ t_lat g L i = 40 → i ≤ 400 ∧ L ≤ t_ps g L i := fun _ => ⟨hi4, hle⟩
          refine lv_aload_n hx hb dX10_split_107 rfl (lv_at hl 2 rfl) ?_
          refine va_gets (n := "BAD") (v := .ref (E.2.2.2 40)) hx hb (hA.2.2.1.1.1 40 (by decide)).1 hS hown (hts (.fieldLink RX10 43 "HighRecipes$Kind" "BAD" "LHighRecipes$Kind;") (by decide +kernel)) (fun _ h9 => h9) dX10_split_108 ?_
          refine lv_acmp_eq (rx := (some (E.2.2.2 (t_lat g L i)))) (ry := (some (E.2.2.2 40))) (tgt := 126) hx hb dX10_split_111 (by decide) (fun c_111 => ?_) (fun c_111 => ?_)
          · have h40 : t_lat g L i = 40 := q_kinj hA hlat (by decide) c_111
            have hi1 : 0 < i := by rcases Nat.eq_zero_or_pos i with h9 | h9; (subst h9; exact absurd h40 (show ¬ (39 : Nat) = 40 by decide)); exact h9
            refine lv_aload_n hx hb dX10_split_126 rfl (lv_at hl 0 rfl) ?_
            refine lv_iconst (v := (-1)) hx hb dX10_split_127 (by decide) ?_
            refine q_put hx hb hts hown hA hW hS iX10 tyX10 tyX10_ok nmX10 tkO_0 rfl 4 (by decide) (hts (.fieldLink RX10 65 "HighRecipes$Tokens" "here" "I") (by decide +kernel)) (fun _ h9 => h9) rfl rfl rfl (Nat.le_of_ble_eq_true rfl) dX10_split_128 (fun H locs hW hS => ?_)
            have hW : q_W E (va_up (tkO E f t kk po wo (cTok E t (nI i) here k0)) t (some (cTok E t (nI i) (-1) k0))) n H := hW
            refine lv_aload_n hx hb dX10_split_131 rfl (lv_at hl 0 rfl) ?_
            refine lv_iconst (v := 1) hx hb dX10_split_132 (by decide) ?_
            refine q_cv (va_runV (As := [.int 1]) (rest := []) ⟨hx, hb, hml, hown, hts⟩ (kX10_stepT l E (va_up (tkO E f t kk po wo (cTok E t (nI i) here k0)) t (some (cTok E t (nI i) (-1) k0))) n t i (-1) k0 0 (t_K g L 0) kk q_eq (q_ne (by omega) tkO_1) (by decide) (by rcases Nat.eq_zero_or_pos i with h9 | h9; (subst h9; exact absurd h40 (show ¬ (39 : Nat) = 40 by decide)); exact h9) (by omega) (hkk 0 (by rcases Nat.eq_zero_or_pos i with h9 | h9; (subst h9; exact absurd h40 (show ¬ (39 : Nat) = 40 by decide)); exact h9)).1) (cwV 1 hts gX10_split_X10_step rfl rfl rfl (by decide +kernel) ⟨(Nat.le_of_ble_eq_true rfl), (Nat.le_of_ble_eq_true rfl)⟩) (q_pV hA hW hS (ci := 10) rfl q_eq) rfl rfl hl.1 rfl (lv_room (Nat.le_of_ble_eq_true rfl)) dX10_split_133 ⟨Nat.le_of_ble_eq_true rfl, Nat.le_of_ble_eq_true rfl⟩) hS (fun f_133 n_133 H locs hp hW hS => ?_)
            obtain ⟨rfl, rfl⟩ := hp
            rw [q_upup] at hW
            have hW : q_W E (va_up (tkO E f t kk po wo (cTok E t (nI i) here k0)) t (some (cTok E t (nI i) (nI 0) (t_K g L 0)))) n H := hW
            exact q_vret hx hb hr hlocks hW hS ⟨i - 1, kk, po, wo, ⟨by omega, Or.inr (by cases i with | zero => exact absurd h40 (show ¬ (39 : Nat) = 40 by decide) | succ i1 => exact h40), fun j hj => ⟨t_K_39 (hall j (by omega)), hn40 j (by omega)⟩, fun j hj => hkk j (by omega)⟩, by rw [show i - 1 + 1 = i by omega, tkO_s0], rfl⟩ (Nat.le_of_ble_eq_true rfl) (Nat.le_of_ble_eq_true rfl) dX10_split_136
          · have h40 : ¬ t_lat g L i = 40 := fun h9 => c_111 (by rw [h9])
            have hex1 := hex h40
            refine lv_aload_n hx hb dX10_split_114 rfl (lv_at hl 0 rfl) ?_
            refine va_gets (n := "END") (v := .ref (E.2.2.2 39)) hx hb (hA.2.2.1.1.1 39 (by decide)).1 hS hown (hts (.fieldLink RX10 23 "HighRecipes$Kind" "END" "LHighRecipes$Kind;") (by decide +kernel)) (fun _ h9 => h9) dX10_split_115 ?_
            refine lv_aload_n hx hb dX10_split_118 rfl (lv_at hl 1 rfl) ?_
            refine q_getN hx hb hts hown hA hW iX9 ((tkO_out hx0).trans h0) rfl 1 (by decide) (va_Nw.use rfl (hA.2.2.2.1 ("HighRecipes$Tokens", 38, "HighRecipes$Tape", "length", "I", "HighRecipes") (by decide +kernel))) (fun _ h9 => h9) (v := .int (nI L)) rfl dX10_split_119 ?_
            refine lv_lconst (v := 0) hx hb dX10_split_122 (by decide) ?_
            refine q_cv (va_runV (As := [.ref (E.2.2.2 39), .int (nI L), .long 0]) (rest := []) ⟨hx, hb, hml, hown, hts⟩ (kX10_add l E (tkO E f t kk po wo (cTok E t (nI i) here k0)) n t kk po wo i here k0 39 (nI L) 0 tkO_0 tkO_1 tkO_2 tkO_3 (by omega) (by decide)) (cwV 3 hts gX10_split_X10_add rfl rfl rfl (by decide +kernel) ⟨(Nat.le_of_ble_eq_true rfl), (Nat.le_of_ble_eq_true rfl)⟩) (q_pV hA hW hS (ci := 10) rfl tkO_0) rfl rfl hl.1 rfl (lv_room (Nat.le_of_ble_eq_true rfl)) dX10_split_123 ⟨Nat.le_of_ble_eq_true rfl, Nat.le_of_ble_eq_true rfl⟩) hS (fun f_123 n_123 H locs hp hW hS => ?_)
            obtain ⟨rfl, rfl⟩ := hp
            have hW : q_W E (va_up (va_up (va_up (va_up (tkO E f t kk po wo (cTok E t (nI i) here k0)) (t + 1) (some (aQ E 5 401 (va_up kk i (some (E.2.2.2 39)))))) (t + 2) (some (aI E 401 (upd po i (nI L))))) (t + 3) (some (aJ E 401 (vp_updL wo i 0)))) t (some (cTok E t (nI (i + 1)) here k0))) n H := hW
            refine lv_aload_n hx hb dX10_split_126 rfl (lv_at hl 0 rfl) ?_
            refine lv_iconst (v := (-1)) hx hb dX10_split_127 (by decide) ?_
            refine q_put hx hb hts hown hA hW hS iX10 tyX10 tyX10_ok nmX10 q_eq rfl 4 (by decide) (hts (.fieldLink RX10 65 "HighRecipes$Tokens" "here" "I") (by decide +kernel)) (fun _ h9 => h9) rfl rfl rfl (Nat.le_of_ble_eq_true rfl) dX10_split_128 (fun H locs hW hS => ?_)
            rw [q_upup] at hW
            have hW : q_W E (va_up (va_up (va_up (va_up (tkO E f t kk po wo (cTok E t (nI i) here k0)) (t + 1) (some (aQ E 5 401 (va_up kk i (some (E.2.2.2 39)))))) (t + 2) (some (aI E 401 (upd po i (nI L))))) (t + 3) (some (aJ E 401 (vp_updL wo i 0)))) t (some (cTok E t (nI (i + 1)) (-1) k0))) n H := hW
            refine lv_aload_n hx hb dX10_split_131 rfl (lv_at hl 0 rfl) ?_
            refine lv_iconst (v := 1) hx hb dX10_split_132 (by decide) ?_
            refine q_cv (va_runV (As := [.int 1]) (rest := []) ⟨hx, hb, hml, hown, hts⟩ (kX10_stepT l E (va_up (va_up (va_up (va_up (tkO E f t kk po wo (cTok E t (nI i) here k0)) (t + 1) (some (aQ E 5 401 (va_up kk i (some (E.2.2.2 39)))))) (t + 2) (some (aI E 401 (upd po i (nI L))))) (t + 3) (some (aJ E 401 (vp_updL wo i 0)))) t (some (cTok E t (nI (i + 1)) (-1) k0))) n t (i + 1) (-1) k0 0 (t_K g L 0) (va_up kk i (some (E.2.2.2 39))) q_eq (q_ne (by omega) (q_ne (by omega) (q_ne (by omega) q_eq))) (by decide) (by omega) (by omega) (t_more hkk (t_K_end hex1.2).symm (by unfold t_P; rw [if_neg (by omega)]) (by unfold t_W; rw [if_neg (by omega)]) 0 (by omega)).1) (cwV 1 hts gX10_split_X10_step rfl rfl rfl (by decide +kernel) ⟨(Nat.le_of_ble_eq_true rfl), (Nat.le_of_ble_eq_true rfl)⟩) (q_pV hA hW hS (ci := 10) rfl q_eq) rfl rfl hl.1 rfl (lv_room (Nat.le_of_ble_eq_true rfl)) dX10_split_133 ⟨Nat.le_of_ble_eq_true rfl, Nat.le_of_ble_eq_true rfl⟩) hS (fun f_133 n_133 H locs hp hW hS => ?_)
            obtain ⟨rfl, rfl⟩ := hp
            rw [q_upup] at hW
            have hW : q_W E (va_up (va_up (va_up (va_up (tkO E f t kk po wo (cTok E t (nI i) here k0)) (t + 1) (some (aQ E 5 401 (va_up kk i (some (E.2.2.2 39)))))) (t + 2) (some (aI E 401 (upd po i (nI L))))) (t + 3) (some (aJ E 401 (vp_updL wo i 0)))) t (some (cTok E t (nI (i + 1)) (nI 0) (t_K g L 0)))) n H := hW
            exact q_vret hx hb hr hlocks hW hS ⟨i, va_up kk i (some (E.2.2.2 39)), upd po i (nI L), vp_updL wo i 0, ⟨hex1.1, Or.inl (t_K_end hex1.2), fun j hj => ⟨t_K_39 (hall j hj), fun h9 => by rcases Nat.lt_or_ge (j + 1) i with h8 | h8; exact hn40 j h8 h9; exact h40 (by rw [show i = j + 1 by omega]; exact h9)⟩, fun j hj => t_more hkk (t_K_end hex1.2).symm (by unfold t_P; rw [if_neg (by omega)]) (by unfold t_W; rw [if_neg (by omega)]) j (by omega)⟩, tkO_all.symm, rfl⟩ (Nat.le_of_ble_eq_true rfl) (Nat.le_of_ble_eq_true rfl) dX10_split_136
        · have hlt : t_ps g L i < L := by rcases Nat.lt_or_ge (t_ps g L i) L with h9 | h9; exact h9; exact absurd (nI_le h9 (by omega)) c_31
          have hE1 := t_end_le (g := g) hlt
          have hE2 := t_end_gt (g := g) (L := L) (j := t_ps g L i)
          refine lv_aload_n hx hb dX10_split_34 rfl (lv_at hl 2 rfl) ?_
          refine va_gets (n := "BAD") (v := .ref (E.2.2.2 40)) hx hb (hA.2.2.1.1.1 40 (by decide)).1 hS hown (hts (.fieldLink RX10 43 "HighRecipes$Kind" "BAD" "LHighRecipes$Kind;") (by decide +kernel)) (fun _ h9 => h9) dX10_split_35 ?_
          refine lv_acmp_eq (rx := (some (E.2.2.2 (t_lat g L i)))) (ry := (some (E.2.2.2 40))) (tgt := 107) hx hb dX10_split_38 (by decide) (fun c_38 => ?_) (fun c_38 => ?_)
          · have h38 : t_lat g L i = 40 := q_kinj hA hlat (by decide) c_38
            have hex : ¬ t_lat g L i = 40 → i ≤ 400 ∧ L ≤ t_ps g L i := fun h9 => absurd h38 h9
            refine lv_aload_n hx hb dX10_split_107 rfl (lv_at hl 2 rfl) ?_
            refine va_gets (n := "BAD") (v := .ref (E.2.2.2 40)) hx hb (hA.2.2.1.1.1 40 (by decide)).1 hS hown (hts (.fieldLink RX10 43 "HighRecipes$Kind" "BAD" "LHighRecipes$Kind;") (by decide +kernel)) (fun _ h9 => h9) dX10_split_108 ?_
            refine lv_acmp_eq (rx := (some (E.2.2.2 (t_lat g L i)))) (ry := (some (E.2.2.2 40))) (tgt := 126) hx hb dX10_split_111 (by decide) (fun c_111 => ?_) (fun c_111 => ?_)
            · have h40 : t_lat g L i = 40 := q_kinj hA hlat (by decide) c_111
              have hi1 : 0 < i := by rcases Nat.eq_zero_or_pos i with h9 | h9; (subst h9; exact absurd h40 (show ¬ (39 : Nat) = 40 by decide)); exact h9
              refine lv_aload_n hx hb dX10_split_126 rfl (lv_at hl 0 rfl) ?_
              refine lv_iconst (v := (-1)) hx hb dX10_split_127 (by decide) ?_
              refine q_put hx hb hts hown hA hW hS iX10 tyX10 tyX10_ok nmX10 tkO_0 rfl 4 (by decide) (hts (.fieldLink RX10 65 "HighRecipes$Tokens" "here" "I") (by decide +kernel)) (fun _ h9 => h9) rfl rfl rfl (Nat.le_of_ble_eq_true rfl) dX10_split_128 (fun H locs hW hS => ?_)
              have hW : q_W E (va_up (tkO E f t kk po wo (cTok E t (nI i) here k0)) t (some (cTok E t (nI i) (-1) k0))) n H := hW
              refine lv_aload_n hx hb dX10_split_131 rfl (lv_at hl 0 rfl) ?_
              refine lv_iconst (v := 1) hx hb dX10_split_132 (by decide) ?_
              refine q_cv (va_runV (As := [.int 1]) (rest := []) ⟨hx, hb, hml, hown, hts⟩ (kX10_stepT l E (va_up (tkO E f t kk po wo (cTok E t (nI i) here k0)) t (some (cTok E t (nI i) (-1) k0))) n t i (-1) k0 0 (t_K g L 0) kk q_eq (q_ne (by omega) tkO_1) (by decide) (by rcases Nat.eq_zero_or_pos i with h9 | h9; (subst h9; exact absurd h40 (show ¬ (39 : Nat) = 40 by decide)); exact h9) (by omega) (hkk 0 (by rcases Nat.eq_zero_or_pos i with h9 | h9; (subst h9; exact absurd h40 (show ¬ (39 : Nat) = 40 by decide)); exact h9)).1) (cwV 1 hts gX10_split_X10_step rfl rfl rfl (by decide +kernel) ⟨(Nat.le_of_ble_eq_true rfl), (Nat.le_of_ble_eq_true rfl)⟩) (q_pV hA hW hS (ci := 10) rfl q_eq) rfl rfl hl.1 rfl (lv_room (Nat.le_of_ble_eq_true rfl)) dX10_split_133 ⟨Nat.le_of_ble_eq_true rfl, Nat.le_of_ble_eq_true rfl⟩) hS (fun f_133 n_133 H locs hp hW hS => ?_)
              obtain ⟨rfl, rfl⟩ := hp
              rw [q_upup] at hW
              have hW : q_W E (va_up (tkO E f t kk po wo (cTok E t (nI i) here k0)) t (some (cTok E t (nI i) (nI 0) (t_K g L 0)))) n H := hW
              exact q_vret hx hb hr hlocks hW hS ⟨i - 1, kk, po, wo, ⟨by omega, Or.inr (by cases i with | zero => exact absurd h40 (show ¬ (39 : Nat) = 40 by decide) | succ i1 => exact h40), fun j hj => ⟨t_K_39 (hall j (by omega)), hn40 j (by omega)⟩, fun j hj => hkk j (by omega)⟩, by rw [show i - 1 + 1 = i by omega, tkO_s0], rfl⟩ (Nat.le_of_ble_eq_true rfl) (Nat.le_of_ble_eq_true rfl) dX10_split_136
            · have h40 : ¬ t_lat g L i = 40 := fun h9 => c_111 (by rw [h9])
              have hex1 := hex h40
              refine lv_aload_n hx hb dX10_split_114 rfl (lv_at hl 0 rfl) ?_
              refine va_gets (n := "END") (v := .ref (E.2.2.2 39)) hx hb (hA.2.2.1.1.1 39 (by decide)).1 hS hown (hts (.fieldLink RX10 23 "HighRecipes$Kind" "END" "LHighRecipes$Kind;") (by decide +kernel)) (fun _ h9 => h9) dX10_split_115 ?_
              refine lv_aload_n hx hb dX10_split_118 rfl (lv_at hl 1 rfl) ?_
              refine q_getN hx hb hts hown hA hW iX9 ((tkO_out hx0).trans h0) rfl 1 (by decide) (va_Nw.use rfl (hA.2.2.2.1 ("HighRecipes$Tokens", 38, "HighRecipes$Tape", "length", "I", "HighRecipes") (by decide +kernel))) (fun _ h9 => h9) (v := .int (nI L)) rfl dX10_split_119 ?_
              refine lv_lconst (v := 0) hx hb dX10_split_122 (by decide) ?_
              refine q_cv (va_runV (As := [.ref (E.2.2.2 39), .int (nI L), .long 0]) (rest := []) ⟨hx, hb, hml, hown, hts⟩ (kX10_add l E (tkO E f t kk po wo (cTok E t (nI i) here k0)) n t kk po wo i here k0 39 (nI L) 0 tkO_0 tkO_1 tkO_2 tkO_3 (by omega) (by decide)) (cwV 3 hts gX10_split_X10_add rfl rfl rfl (by decide +kernel) ⟨(Nat.le_of_ble_eq_true rfl), (Nat.le_of_ble_eq_true rfl)⟩) (q_pV hA hW hS (ci := 10) rfl tkO_0) rfl rfl hl.1 rfl (lv_room (Nat.le_of_ble_eq_true rfl)) dX10_split_123 ⟨Nat.le_of_ble_eq_true rfl, Nat.le_of_ble_eq_true rfl⟩) hS (fun f_123 n_123 H locs hp hW hS => ?_)
              obtain ⟨rfl, rfl⟩ := hp
              have hW : q_W E (va_up (va_up (va_up (va_up (tkO E f t kk po wo (cTok E t (nI i) here k0)) (t + 1) (some (aQ E 5 401 (va_up kk i (some (E.2.2.2 39)))))) (t + 2) (some (aI E 401 (upd po i (nI L))))) (t + 3) (some (aJ E 401 (vp_updL wo i 0)))) t (some (cTok E t (nI (i + 1)) here k0))) n H := hW
              refine lv_aload_n hx hb dX10_split_126 rfl (lv_at hl 0 rfl) ?_
              refine lv_iconst (v := (-1)) hx hb dX10_split_127 (by decide) ?_
              refine q_put hx hb hts hown hA hW hS iX10 tyX10 tyX10_ok nmX10 q_eq rfl 4 (by decide) (hts (.fieldLink RX10 65 "HighRecipes$Tokens" "here" "I") (by decide +kernel)) (fun _ h9 => h9) rfl rfl rfl (Nat.le_of_ble_eq_true rfl) dX10_split_128 (fun H locs hW hS => ?_)
              rw [q_upup] at hW
              have hW : q_W E (va_up (va_up (va_up (va_up (tkO E f t kk po wo (cTok E t (nI i) here k0)) (t + 1) (some (aQ E 5 401 (va_up kk i (some (E.2.2.2 39)))))) (t + 2) (some (aI E 401 (upd po i (nI L))))) (t + 3) (some (aJ E 401 (vp_updL wo i 0)))) t (some (cTok E t (nI (i + 1)) (-1) k0))) n H := hW
              refine lv_aload_n hx hb dX10_split_131 rfl (lv_at hl 0 rfl) ?_
              refine lv_iconst (v := 1) hx hb dX10_split_132 (by decide) ?_
              refine q_cv (va_runV (As := [.int 1]) (rest := []) ⟨hx, hb, hml, hown, hts⟩ (kX10_stepT l E (va_up (va_up (va_up (va_up (tkO E f t kk po wo (cTok E t (nI i) here k0)) (t + 1) (some (aQ E 5 401 (va_up kk i (some (E.2.2.2 39)))))) (t + 2) (some (aI E 401 (upd po i (nI L))))) (t + 3) (some (aJ E 401 (vp_updL wo i 0)))) t (some (cTok E t (nI (i + 1)) (-1) k0))) n t (i + 1) (-1) k0 0 (t_K g L 0) (va_up kk i (some (E.2.2.2 39))) q_eq (q_ne (by omega) (q_ne (by omega) (q_ne (by omega) q_eq))) (by decide) (by omega) (by omega) (t_more hkk (t_K_end hex1.2).symm (by unfold t_P; rw [if_neg (by omega)]) (by unfold t_W; rw [if_neg (by omega)]) 0 (by omega)).1) (cwV 1 hts gX10_split_X10_step rfl rfl rfl (by decide +kernel) ⟨(Nat.le_of_ble_eq_true rfl), (Nat.le_of_ble_eq_true rfl)⟩) (q_pV hA hW hS (ci := 10) rfl q_eq) rfl rfl hl.1 rfl (lv_room (Nat.le_of_ble_eq_true rfl)) dX10_split_133 ⟨Nat.le_of_ble_eq_true rfl, Nat.le_of_ble_eq_true rfl⟩) hS (fun f_133 n_133 H locs hp hW hS => ?_)
              obtain ⟨rfl, rfl⟩ := hp
              rw [q_upup] at hW
              have hW : q_W E (va_up (va_up (va_up (va_up (tkO E f t kk po wo (cTok E t (nI i) here k0)) (t + 1) (some (aQ E 5 401 (va_up kk i (some (E.2.2.2 39)))))) (t + 2) (some (aI E 401 (upd po i (nI L))))) (t + 3) (some (aJ E 401 (vp_updL wo i 0)))) t (some (cTok E t (nI (i + 1)) (nI 0) (t_K g L 0)))) n H := hW
              exact q_vret hx hb hr hlocks hW hS ⟨i, va_up kk i (some (E.2.2.2 39)), upd po i (nI L), vp_updL wo i 0, ⟨hex1.1, Or.inl (t_K_end hex1.2), fun j hj => ⟨t_K_39 (hall j hj), fun h9 => by rcases Nat.lt_or_ge (j + 1) i with h8 | h8; exact hn40 j h8 h9; exact h40 (by rw [show i = j + 1 by omega]; exact h9)⟩, fun j hj => t_more hkk (t_K_end hex1.2).symm (by unfold t_P; rw [if_neg (by omega)]) (by unfold t_W; rw [if_neg (by omega)]) j (by omega)⟩, tkO_all.symm, rfl⟩ (Nat.le_of_ble_eq_true rfl) (Nat.le_of_ble_eq_true rfl) dX10_split_136
          · have h38 : ¬ t_lat g L i = 40 := fun h9 => c_38 (by rw [h9])
            refine lv_aload_n hx hb dX10_split_41 rfl (lv_at hl 1 rfl) ?_
            refine lv_iload_n hx hb dX10_split_42 rfl (lv_at hl 3 rfl) ?_
            refine q_ci (va_runS (As := [.ref x, .int (nI (t_ps g L i))]) (rest := []) ⟨hx, hb, hml, hown, hts⟩ (kX10_endOfToken l E (tkO E f t kk po wo (cTok E t (nI i) here k0)) n x L g (t_ps g L i) ((tkO_out hx0).trans h0) ((tkO_out hx1).trans h1) (by assumption) hlt) (va_cwS 2 hts gX10_split_X10_endOfToken rfl rfl rfl (by decide +kernel) ⟨(Nat.le_of_ble_eq_true rfl), (Nat.le_of_ble_eq_true rfl)⟩) (q_pS hA hW hS) rfl rfl hl.1 rfl (lv_room (Nat.le_of_ble_eq_true rfl)) dX10_split_43 ⟨Nat.le_of_ble_eq_true rfl, Nat.le_of_ble_eq_true rfl⟩) hS (fun r_43 f_43 n_43 H locs hp hW hS => ?_)
            obtain ⟨rfl, rfl, rfl⟩ := hp
            have hW : q_W E (tkO E f t kk po wo (cTok E t (nI i) here k0)) n H := hW
            refine lv_istore (lv' := [(5, .int (nI (t_end g L (t_ps g L i)))), (0, .ref t), (1, .ref x), (2, .ref (E.2.2.2 (t_lat g L i))), (3, .int (nI (t_ps g L i))), (4, .int (nI i))]) hx hb dX10_split_46 hl (by decide) rfl (fun ls hl => ?_)
            refine lv_aload_n hx hb dX10_split_48 rfl (lv_at hl 2 rfl) ?_
            refine lv_iload_n hx hb dX10_split_49 rfl (lv_at hl 4 rfl) ?_
            refine lv_iload hx hb dX10_split_50 (lv_at hl 0 rfl) ?_
            refine q_cl (va_runS (As := [.ref x, .int (nI (t_ps g L i)), .int (nI (t_end g L (t_ps g L i)))]) (rest := []) ⟨hx, hb, hml, hown, hts⟩ (kX10_worthOf l E (tkO E f t kk po wo (cTok E t (nI i) here k0)) n x L g (t_ps g L i) (t_end g L (t_ps g L i)) ((tkO_out hx0).trans h0) ((tkO_out hx1).trans h1) (by assumption) (by omega) hE1) (va_cwS 3 hts gX10_split_X10_worthOf rfl rfl rfl (by decide +kernel) ⟨(Nat.le_of_ble_eq_true rfl), (Nat.le_of_ble_eq_true rfl)⟩) (q_pS hA hW hS) rfl rfl hl.1 rfl (lv_room (Nat.le_of_ble_eq_true rfl)) dX10_split_52 ⟨Nat.le_of_ble_eq_true rfl, Nat.le_of_ble_eq_true rfl⟩) hS (fun r_52 f_52 n_52 H locs hp hW hS => ?_)
            obtain ⟨rfl, rfl, rfl⟩ := hp
            have hW : q_W E (tkO E f t kk po wo (cTok E t (nI i) here k0)) n H := hW
            refine lv_lstore (lv' := [(6, .long (t_wor g L (t_ps g L i) (t_end g L (t_ps g L i)))), (5, .int (nI (t_end g L (t_ps g L i)))), (0, .ref t), (1, .ref x), (2, .ref (E.2.2.2 (t_lat g L i))), (3, .int (nI (t_ps g L i))), (4, .int (nI i))]) hx hb dX10_split_55 hl (by decide) rfl (fun ls hl => ?_)
            refine lv_iload hx hb dX10_split_57 (lv_at hl 6 rfl) ?_
            refine lv_sipush (v := 400) hx hb dX10_split_59 (by decide) ?_
            refine lv_icmp_ge (tgt := 82) hx hb dX10_split_62 (by decide) (fun c_62 => ?_) (fun c_62 => ?_)
            · have hi3 : i = 400 := by rcases Nat.lt_or_ge i 400 with h9 | h9; exact absurd (show nI 400 ≤ nI i from c_62) (nI_ge h9 (by decide)); omega
              refine va_gets (n := "BAD") (v := .ref (E.2.2.2 40)) hx hb (hA.2.2.1.1.1 40 (by decide)).1 hS hown (hts (.fieldLink RX10 43 "HighRecipes$Kind" "BAD" "LHighRecipes$Kind;") (by decide +kernel)) (fun _ h9 => h9) dX10_split_82 ?_
              rw [show E.2.2.2 40 = E.2.2.2 (t_K g L i) from congrArg E.2.2.2 (by unfold t_K; rw [if_pos hlt, if_neg (by omega)])]
              refine lv_astore_n (lv' := [(2, .ref (E.2.2.2 (t_K g L i))), (6, .long (t_wor g L (t_ps g L i) (t_end g L (t_ps g L i)))), (5, .int (nI (t_end g L (t_ps g L i)))), (0, .ref t), (1, .ref x), (3, .int (nI (t_ps g L i))), (4, .int (nI i))]) hx hb dX10_split_85 rfl hl (by decide) rfl (fun ls hl => ?_)
              refine lv_aload_n hx hb dX10_split_86 rfl (lv_at hl 3 rfl) ?_
              refine lv_aload_n hx hb dX10_split_87 rfl (lv_at hl 0 rfl) ?_
              refine lv_iload_n hx hb dX10_split_88 rfl (lv_at hl 5 rfl) ?_
              refine lv_lload hx hb dX10_split_89 (lv_at hl 1 rfl) ?_
              refine q_cv (va_runV (As := [.ref (E.2.2.2 (t_K g L i)), .int (nI (t_ps g L i)), .long (t_wor g L (t_ps g L i) (t_end g L (t_ps g L i)))]) (rest := []) ⟨hx, hb, hml, hown, hts⟩ (kX10_add l E (tkO E f t kk po wo (cTok E t (nI i) here k0)) n t kk po wo i here k0 (t_K g L i) (nI (t_ps g L i)) (t_wor g L (t_ps g L i) (t_end g L (t_ps g L i))) tkO_0 tkO_1 tkO_2 tkO_3 (by omega) t_K_lt) (cwV 3 hts gX10_split_X10_add rfl rfl rfl (by decide +kernel) ⟨(Nat.le_of_ble_eq_true rfl), (Nat.le_of_ble_eq_true rfl)⟩) (q_pV hA hW hS (ci := 10) rfl tkO_0) rfl rfl hl.1 rfl (lv_room (Nat.le_of_ble_eq_true rfl)) dX10_split_91 ⟨Nat.le_of_ble_eq_true rfl, Nat.le_of_ble_eq_true rfl⟩) hS (fun f_91 n_91 H locs hp hW hS => ?_)
              obtain ⟨rfl, rfl⟩ := hp
              have hW : q_W E (va_up (va_up (va_up (va_up (tkO E f t kk po wo (cTok E t (nI i) here k0)) (t + 1) (some (aQ E 5 401 (va_up kk i (some (E.2.2.2 (t_K g L i))))))) (t + 2) (some (aI E 401 (upd po i (nI (t_ps g L i)))))) (t + 3) (some (aJ E 401 (vp_updL wo i (t_wor g L (t_ps g L i) (t_end g L (t_ps g L i))))))) t (some (cTok E t (nI (i + 1)) here k0))) n H := hW
              refine lv_aload_n hx hb dX10_split_94 rfl (lv_at hl 4 rfl) ?_
              refine lv_iload hx hb dX10_split_95 (lv_at hl 2 rfl) ?_
              refine q_ci (va_runS (As := [.ref x, .int (nI (t_end g L (t_ps g L i)))]) (rest := []) ⟨hx, hb, hml, hown, hts⟩ (kX10_behindBlanks l E (va_up (va_up (va_up (va_up (tkO E f t kk po wo (cTok E t (nI i) here k0)) (t + 1) (some (aQ E 5 401 (va_up kk i (some (E.2.2.2 (t_K g L i))))))) (t + 2) (some (aI E 401 (upd po i (nI (t_ps g L i)))))) (t + 3) (some (aJ E 401 (vp_updL wo i (t_wor g L (t_ps g L i) (t_end g L (t_ps g L i))))))) t (some (cTok E t (nI (i + 1)) here k0))) n x L g (t_end g L (t_ps g L i)) (q_ne (by omega) (q_ne (by omega) (q_ne (by omega) (q_ne (by omega) ((tkO_out hx0).trans h0))))) (q_ne (by omega) (q_ne (by omega) (q_ne (by omega) (q_ne (by omega) ((tkO_out hx1).trans h1))))) (by assumption) hE1) (va_cwS 2 hts gX10_split_X10_behindBlanks rfl rfl rfl (by decide +kernel) ⟨(Nat.le_of_ble_eq_true rfl), (Nat.le_of_ble_eq_true rfl)⟩) (q_pS hA hW hS) rfl rfl hl.1 rfl (lv_room (Nat.le_of_ble_eq_true rfl)) dX10_split_97 ⟨Nat.le_of_ble_eq_true rfl, Nat.le_of_ble_eq_true rfl⟩) hS (fun r_97 f_97 n_97 H locs hp hW hS => ?_)
              obtain ⟨rfl, rfl, rfl⟩ := hp
              have hW : q_W E (va_up (va_up (va_up (va_up (tkO E f t kk po wo (cTok E t (nI i) here k0)) (t + 1) (some (aQ E 5 401 (va_up kk i (some (E.2.2.2 (t_K g L i))))))) (t + 2) (some (aI E 401 (upd po i (nI (t_ps g L i)))))) (t + 3) (some (aJ E 401 (vp_updL wo i (t_wor g L (t_ps g L i) (t_end g L (t_ps g L i))))))) t (some (cTok E t (nI (i + 1)) here k0))) n H := hW
              rw [show t_skip g L (t_end g L (t_ps g L i)) = t_ps g L (i + 1) from rfl]
              refine lv_istore_n (lv' := [(3, .int (nI (t_ps g L (i + 1)))), (2, .ref (E.2.2.2 (t_K g L i))), (6, .long (t_wor g L (t_ps g L i) (t_end g L (t_ps g L i)))), (5, .int (nI (t_end g L (t_ps g L i)))), (0, .ref t), (1, .ref x), (4, .int (nI i))]) hx hb dX10_split_100 rfl hl (by decide) rfl (fun ls hl => ?_)
              refine lv_iinc (v := nI (i + 1)) (lv' := [(4, .int (nI (i + 1))), (3, .int (nI (t_ps g L (i + 1)))), (2, .ref (E.2.2.2 (t_K g L i))), (6, .long (t_wor g L (t_ps g L i) (t_end g L (t_ps g L i)))), (5, .int (nI (t_end g L (t_ps g L i)))), (0, .ref t), (1, .ref x)]) hx hb dX10_split_101 hl (k := 6) rfl (nI_1 i) (by decide) rfl (fun ls hl => ?_)
              refine lv_goto (tgt := 18) hx hb dX10_split_104 (by decide) ?_
              rw [tkO_all] at hW
              exact ih (i + 1) (va_up kk i (some (E.2.2.2 (t_K g L i)))) (upd po i (nI (t_ps g L i))) (vp_updL wo i (t_wor g L (t_ps g L i) (t_end g L (t_ps g L i)))) (by omega) (fun j hj => by rcases Nat.lt_or_ge j i with h9 | h9; exact hall j h9; rw [show j = i by omega]; exact hlt) (fun j hj h9 => by rcases Nat.lt_or_ge (j + 1) i with h8 | h8; exact hn40 j h8 h9; exact h38 (by rw [show i = j + 1 by omega]; exact h9)) (t_more hkk rfl (by unfold t_P; rw [if_pos hlt]) (by unfold t_W; rw [if_pos hlt])) t_K_lt (by omega) _ _ _ hW hS (lv_sub hl [5, 6, 2, 1, 0] rfl)
            · have hi3 : i < 400 := by rcases Nat.lt_or_ge i 400 with h9 | h9; exact h9; exact absurd (show nI 400 ≤ nI i from nI_le h9 (by omega)) c_62
              refine lv_aload_n hx hb dX10_split_65 rfl (lv_at hl 3 rfl) ?_
              refine lv_iload_n hx hb dX10_split_66 rfl (lv_at hl 5 rfl) ?_
              refine q_ci (va_runV (As := [.int (nI (t_ps g L i))]) (rest := []) ⟨hx, hb, hml, hown, hts⟩ (kX9_byteAt l E (tkO E f t kk po wo (cTok E t (nI i) here k0)) n x L g (t_ps g L i) ((tkO_out hx0).trans h0) ((tkO_out hx1).trans h1) (by assumption) (by omega)) (cwV 1 hts gX10_split_X9_byteAt rfl rfl rfl (by decide +kernel) ⟨(Nat.le_of_ble_eq_true rfl), (Nat.le_of_ble_eq_true rfl)⟩) (q_pV hA hW hS (ci := 9) rfl ((tkO_out hx0).trans h0)) rfl rfl hl.1 rfl (lv_room (Nat.le_of_ble_eq_true rfl)) dX10_split_67 ⟨Nat.le_of_ble_eq_true rfl, Nat.le_of_ble_eq_true rfl⟩) hS (fun r_67 f_67 n_67 H locs hp hW hS => ?_)
              obtain ⟨rfl, rfl, rfl⟩ := hp
              have hW : q_W E (tkO E f t kk po wo (cTok E t (nI i) here k0)) n H := hW
              refine lv_iload hx hb dX10_split_70 (lv_at hl 1 rfl) ?_
              refine lv_iload_n hx hb dX10_split_72 rfl (lv_at hl 5 rfl) ?_
              refine lv_isub hx hb dX10_split_73 ?_
              rw [nI_sub (Nat.le_of_lt hE2)]
              refine lv_lload hx hb dX10_split_74 (lv_at hl 0 rfl) ?_
              refine q_cq (va_runS (As := [.int (t_at g L (t_ps g L i)), .int (nI ((t_end g L (t_ps g L i)) - (t_ps g L i))), .long (t_wor g L (t_ps g L i) (t_end g L (t_ps g L i)))]) (rest := []) ⟨hx, hb, hml, hown, hts⟩ (kX10_kindOf l E (tkO E f t kk po wo (cTok E t (nI i) here k0)) n (t_at g L (t_ps g L i)) ((t_end g L (t_ps g L i)) - (t_ps g L i)) (t_wor g L (t_ps g L i) (t_end g L (t_ps g L i))) (by omega)) (va_cwS 3 hts gX10_split_X10_kindOf rfl rfl rfl (by decide +kernel) ⟨(Nat.le_of_ble_eq_true rfl), (Nat.le_of_ble_eq_true rfl)⟩) (q_pS hA hW hS) rfl rfl hl.1 rfl (lv_room (Nat.le_of_ble_eq_true rfl)) dX10_split_76 ⟨Nat.le_of_ble_eq_true rfl, Nat.le_of_ble_eq_true rfl⟩) hS (fun r_76 f_76 n_76 H locs hp hW hS => ?_)
              obtain ⟨rfl, rfl, rfl⟩ := hp
              have hW : q_W E (tkO E f t kk po wo (cTok E t (nI i) here k0)) n H := hW
              have eK : t_kind (t_at g L (t_ps g L i)) (t_end g L (t_ps g L i) - t_ps g L i) (t_wor g L (t_ps g L i) (t_end g L (t_ps g L i))) = t_K g L i := by unfold t_K; rw [if_pos hlt, if_pos hi3]
              rw [eK]
              refine lv_goto (tgt := 85) hx hb dX10_split_79 (by decide) ?_
              refine lv_astore_n (lv' := [(2, .ref (E.2.2.2 (t_K g L i))), (6, .long (t_wor g L (t_ps g L i) (t_end g L (t_ps g L i)))), (5, .int (nI (t_end g L (t_ps g L i)))), (0, .ref t), (1, .ref x), (3, .int (nI (t_ps g L i))), (4, .int (nI i))]) hx hb dX10_split_85 rfl hl (by decide) rfl (fun ls hl => ?_)
              refine lv_aload_n hx hb dX10_split_86 rfl (lv_at hl 3 rfl) ?_
              refine lv_aload_n hx hb dX10_split_87 rfl (lv_at hl 0 rfl) ?_
              refine lv_iload_n hx hb dX10_split_88 rfl (lv_at hl 5 rfl) ?_
              refine lv_lload hx hb dX10_split_89 (lv_at hl 1 rfl) ?_
              refine q_cv (va_runV (As := [.ref (E.2.2.2 (t_K g L i)), .int (nI (t_ps g L i)), .long (t_wor g L (t_ps g L i) (t_end g L (t_ps g L i)))]) (rest := []) ⟨hx, hb, hml, hown, hts⟩ (kX10_add l E (tkO E f t kk po wo (cTok E t (nI i) here k0)) n t kk po wo i here k0 (t_K g L i) (nI (t_ps g L i)) (t_wor g L (t_ps g L i) (t_end g L (t_ps g L i))) tkO_0 tkO_1 tkO_2 tkO_3 (by omega) t_K_lt) (cwV 3 hts gX10_split_X10_add rfl rfl rfl (by decide +kernel) ⟨(Nat.le_of_ble_eq_true rfl), (Nat.le_of_ble_eq_true rfl)⟩) (q_pV hA hW hS (ci := 10) rfl tkO_0) rfl rfl hl.1 rfl (lv_room (Nat.le_of_ble_eq_true rfl)) dX10_split_91 ⟨Nat.le_of_ble_eq_true rfl, Nat.le_of_ble_eq_true rfl⟩) hS (fun f_91 n_91 H locs hp hW hS => ?_)
              obtain ⟨rfl, rfl⟩ := hp
              have hW : q_W E (va_up (va_up (va_up (va_up (tkO E f t kk po wo (cTok E t (nI i) here k0)) (t + 1) (some (aQ E 5 401 (va_up kk i (some (E.2.2.2 (t_K g L i))))))) (t + 2) (some (aI E 401 (upd po i (nI (t_ps g L i)))))) (t + 3) (some (aJ E 401 (vp_updL wo i (t_wor g L (t_ps g L i) (t_end g L (t_ps g L i))))))) t (some (cTok E t (nI (i + 1)) here k0))) n H := hW
              refine lv_aload_n hx hb dX10_split_94 rfl (lv_at hl 4 rfl) ?_
              refine lv_iload hx hb dX10_split_95 (lv_at hl 2 rfl) ?_
              refine q_ci (va_runS (As := [.ref x, .int (nI (t_end g L (t_ps g L i)))]) (rest := []) ⟨hx, hb, hml, hown, hts⟩ (kX10_behindBlanks l E (va_up (va_up (va_up (va_up (tkO E f t kk po wo (cTok E t (nI i) here k0)) (t + 1) (some (aQ E 5 401 (va_up kk i (some (E.2.2.2 (t_K g L i))))))) (t + 2) (some (aI E 401 (upd po i (nI (t_ps g L i)))))) (t + 3) (some (aJ E 401 (vp_updL wo i (t_wor g L (t_ps g L i) (t_end g L (t_ps g L i))))))) t (some (cTok E t (nI (i + 1)) here k0))) n x L g (t_end g L (t_ps g L i)) (q_ne (by omega) (q_ne (by omega) (q_ne (by omega) (q_ne (by omega) ((tkO_out hx0).trans h0))))) (q_ne (by omega) (q_ne (by omega) (q_ne (by omega) (q_ne (by omega) ((tkO_out hx1).trans h1))))) (by assumption) hE1) (va_cwS 2 hts gX10_split_X10_behindBlanks rfl rfl rfl (by decide +kernel) ⟨(Nat.le_of_ble_eq_true rfl), (Nat.le_of_ble_eq_true rfl)⟩) (q_pS hA hW hS) rfl rfl hl.1 rfl (lv_room (Nat.le_of_ble_eq_true rfl)) dX10_split_97 ⟨Nat.le_of_ble_eq_true rfl, Nat.le_of_ble_eq_true rfl⟩) hS (fun r_97 f_97 n_97 H locs hp hW hS => ?_)
              obtain ⟨rfl, rfl, rfl⟩ := hp
              have hW : q_W E (va_up (va_up (va_up (va_up (tkO E f t kk po wo (cTok E t (nI i) here k0)) (t + 1) (some (aQ E 5 401 (va_up kk i (some (E.2.2.2 (t_K g L i))))))) (t + 2) (some (aI E 401 (upd po i (nI (t_ps g L i)))))) (t + 3) (some (aJ E 401 (vp_updL wo i (t_wor g L (t_ps g L i) (t_end g L (t_ps g L i))))))) t (some (cTok E t (nI (i + 1)) here k0))) n H := hW
              rw [show t_skip g L (t_end g L (t_ps g L i)) = t_ps g L (i + 1) from rfl]
              refine lv_istore_n (lv' := [(3, .int (nI (t_ps g L (i + 1)))), (2, .ref (E.2.2.2 (t_K g L i))), (6, .long (t_wor g L (t_ps g L i) (t_end g L (t_ps g L i)))), (5, .int (nI (t_end g L (t_ps g L i)))), (0, .ref t), (1, .ref x), (4, .int (nI i))]) hx hb dX10_split_100 rfl hl (by decide) rfl (fun ls hl => ?_)
              refine lv_iinc (v := nI (i + 1)) (lv' := [(4, .int (nI (i + 1))), (3, .int (nI (t_ps g L (i + 1)))), (2, .ref (E.2.2.2 (t_K g L i))), (6, .long (t_wor g L (t_ps g L i) (t_end g L (t_ps g L i)))), (5, .int (nI (t_end g L (t_ps g L i)))), (0, .ref t), (1, .ref x)]) hx hb dX10_split_101 hl (k := 6) rfl (nI_1 i) (by decide) rfl (fun ls hl => ?_)
              refine lv_goto (tgt := 18) hx hb dX10_split_104 (by decide) ?_
              rw [tkO_all] at hW
              exact ih (i + 1) (va_up kk i (some (E.2.2.2 (t_K g L i)))) (upd po i (nI (t_ps g L i))) (vp_updL wo i (t_wor g L (t_ps g L i) (t_end g L (t_ps g L i)))) (by omega) (fun j hj => by rcases Nat.lt_or_ge j i with h9 | h9; exact hall j h9; rw [show j = i by omega]; exact hlt) (fun j hj h9 => by rcases Nat.lt_or_ge (j + 1) i with h8 | h8; exact hn40 j h8 h9; exact h38 (by rw [show i = j + 1 by omega]; exact h9)) (t_more hkk rfl (by unfold t_P; rw [if_pos hlt]) (by unfold t_W; rw [if_pos hlt])) t_K_lt (by omega) _ _ _ hW hS (lv_sub hl [5, 6, 2, 1, 0] rfl)
  rw [tkO_in (f := va_up f t (some (cTok E t 0 here k0))) q_eq (q_ne (by omega) h5) (q_ne (by omega) h6) (q_ne (by omega) h7)] at hW
  rw [show tkO E (va_up f t (some (cTok E t 0 here k0))) t kk0 po0 wo0 (cTok E t 0 here k0) = tkO E f t kk0 po0 wo0 (cTok E t (nI 0) here k0) from by funext q; unfold tkO; split; rfl; next h9 => rw [va_up_ne _ _ h9]] at hW
  exact K18 _ 0 kk0 po0 wo0 (Nat.zero_le _) (fun j hj => absurd hj (Nat.not_lt_zero _)) (fun j hj => absurd hj (Nat.not_lt_zero _)) (fun j hj => absurd hj (Nat.not_lt_zero _)) (by show 39 < 41; decide) (Nat.lt_succ_self _) _ _ _ hW hS (lv_sub hl [3, 4, 2, 1, 0] rfl)

