/-! tokens -/
theorem asg_self (vm : Vm) (c : ClassId) : vm.assignable c c = true := by
  show vm.assignableAux (255 + 1) c c = true
  unfold Vm.assignableAux
  simp
section QK
variable {p : Program} {l : Launch} {e : Env} {R : Room} {s : State} {m : MethodId} {args : Array Value} {below : List Frame} {meth : Method} {c : Code} {H : Heap} {locs : List Loc} {cells slots : Nat} {Q : State → Prop}
variable {own : String} {cc : ByteArray} {pc : Nat} {ls : Array Slot} {rest : List Value} {E : q_E} {f : q_H} {n a : Nat} {Ts : List Cond}
theorem q_aastK (hx : p.tables.exec = Jvm.exec) (hb : c.code = cc) (hA : q_A E s) (hW : q_W E f n H) (hS : va_S (q_ge E) s.heap H locs) {N : Nat} {g : Nat → Option Nat} (he : f a = some (aQ E 5 N g)) {kd : Nat} (hkd : kd < 41) {i : Int32} (hin : vp_in i N) (hdg : decode cc pc = .ok (.aastore, 1))
    (kk : ∀ (H1 : Heap) (locs1 : List Loc), q_W E (va_up f a (some (aQ E 5 N (va_up g i.toNatClampNeg (some (E.2.2.2 kd)))))) n H1 → va_S (q_ge E) s.heap H1 locs1 → W p l e R s m args below meth c H1 locs1 cells slots Q (F0 m (pc + 1) ls rest)) : W p l e R s m args below meth c H locs cells slots Q (F0 m pc ls (.ref (E.2.2.2 kd) :: .int i :: .ref a :: rest)) := by
  have hlt : i.toNatClampNeg < N := Nat.not_le.mp fun q => hin (Or.inr q)
  have h0 : ¬ i < 0 := fun q => hin (Or.inl q)
  obtain ⟨cellV, g1, g3, g2⟩ := va_recvE hA.2.2.1.1 hkd hS
  obtain ⟨kA, comp, k1, k2, k3, -⟩ := (hA.1.2 5 (E.2.1 5, .object "HighRecipes$Kind") rfl).2
  obtain ⟨kE, hkE, -⟩ := Vm.findClass_spec k3
  obtain ⟨kC, hkC, -⟩ := Vm.findClass_spec g2
  have hcomp : comp = cellV.cls := Option.some.inj (k3.symm.trans g2)
  subst hcomp
  refine W.aast hx hb (hW.2.2 a _ he).2 (fun q h => by cases h) (fun h => by cases h) k1 k2 rfl hkE ⟨h0, by show _ < (arrV _ _ _).slots.size; rw [arrV_size]; exact hlt⟩ g1 (fun q h => by rw [h] at g3; cases g3) hkC (asg_self _ _) rfl rfl hdg fun H1 e z oq => ?_
  refine kk H1 _ (hW.set he ?_ z oq) (hS.put z oq (hW.ge he))
  show H1[a]? = some (vp_cell _ _)
  rw [e]
  rw [vp_cell_q, vp_cell_q, arrV_store]
  congr 2
  funext q
  by_cases hq : q = i.toNatClampNeg
  · subst hq
    simp [updV, va_up, va_rf]
  · simp [updV, va_up, hq]
end QK
theorem b01_0 {r : Bool} (h : b01 r = 0) : r = false := by
  cases r
  · rfl
  · exact absurd h (by decide)
theorem b01_1 {r : Bool} (h : ¬ b01 r = 0) : r = true := by
  cases r
  · exact absurd rfl h
  · rfl
def b_let (x : Int32) : Bool := !decide (x < 97) && !decide (122 < x)
def b_dig (x : Int32) : Bool := !decide (x < 48) && !decide (57 < x)
def b_goes (a b : Int32) : Bool := (b_let a && b_let b) || (b_dig a && b_dig b)
def t_skipF (g : Nat → Int32) (L : Nat) : Nat → Nat → Nat
  | 0, j => j
  | m + 1, j => if j < L ∧ (t_at g L j = 32 ∨ t_at g L j = 10) then t_skipF g L m (j + 1) else j
def t_skip (g : Nat → Int32) (L j : Nat) : Nat := t_skipF g L (L - j) j
def t_endF (g : Nat → Int32) (L : Nat) (c : Int32) : Nat → Nat → Nat
  | 0, j => j
  | m + 1, j => if j < L ∧ b_goes c (t_at g L j) = true then t_endF g L c m (j + 1) else j
def t_end (g : Nat → Int32) (L j : Nat) : Nat := t_endF g L (t_at g L j) (L - (j + 1)) (j + 1)
def t_w1 (w : Int64) (c : Int32) : Int64 := if b_dig c = true then w * 10 + (c - 48).toInt64 else w * 32 + (c - 97 + 1).toInt64
def t_worF (g : Nat → Int32) (L : Nat) : Nat → Nat → Int64 → Int64
  | 0, _, w => w
  | m + 1, j, w => t_worF g L m (j + 1) (t_w1 w (t_at g L j))
def t_wor (g : Nat → Int32) (L j e : Nat) : Int64 := t_worF g L (e - j) j 0
def t_kind (c : Int32) (len : Nat) (w : Int64) : Nat := if b_let c = true then (if len ≤ 8 then k_word w else 40) else if b_dig c = true then (if len ≤ 3 then 38 else 40) else k_sign c
def t_ps (g : Nat → Int32) (L : Nat) : Nat → Nat
  | 0 => t_skip g L 0
  | i + 1 => t_skip g L (t_end g L (t_ps g L i))
def t_K (g : Nat → Int32) (L i : Nat) : Nat := if t_ps g L i < L then (if i < 400 then t_kind (t_at g L (t_ps g L i)) (t_end g L (t_ps g L i) - t_ps g L i) (t_wor g L (t_ps g L i) (t_end g L (t_ps g L i))) else 40) else 39
def t_W (g : Nat → Int32) (L i : Nat) : Int64 := if t_ps g L i < L then t_wor g L (t_ps g L i) (t_end g L (t_ps g L i)) else 0
def t_P (g : Nat → Int32) (L i : Nat) : Nat := if t_ps g L i < L then t_ps g L i else L
def t_lat (g : Nat → Int32) (L : Nat) : Nat → Nat
  | 0 => 39
  | i + 1 => t_K g L i
theorem t_skipF_le {g : Nat → Int32} {L : Nat} : ∀ (m j : Nat), j ≤ L → t_skipF g L m j ≤ L
  | 0, _, h => h
  | m + 1, j, h => by
    unfold t_skipF
    split
    · next h1 => exact t_skipF_le m (j + 1) h1.1
    · exact h
theorem t_skip_le {g : Nat → Int32} {L j : Nat} (h : j ≤ L) : t_skip g L j ≤ L := t_skipF_le _ _ h
theorem t_skipF_ge {g : Nat → Int32} {L : Nat} : ∀ (m j : Nat), j ≤ t_skipF g L m j
  | 0, _ => Nat.le_refl _
  | m + 1, j => by
    unfold t_skipF
    split
    · exact Nat.le_trans (Nat.le_succ j) (t_skipF_ge m (j + 1))
    · exact Nat.le_refl _
theorem t_endF_le {g : Nat → Int32} {L : Nat} {c : Int32} : ∀ (m j : Nat), j ≤ L → t_endF g L c m j ≤ L
  | 0, _, h => h
  | m + 1, j, h => by
    unfold t_endF
    split
    · next h1 => exact t_endF_le m (j + 1) h1.1
    · exact h
theorem t_endF_ge {g : Nat → Int32} {L : Nat} {c : Int32} : ∀ (m j : Nat), j ≤ t_endF g L c m j
  | 0, _ => Nat.le_refl _
  | m + 1, j => by
    unfold t_endF
    split
    · exact Nat.le_trans (Nat.le_succ j) (t_endF_ge m (j + 1))
    · exact Nat.le_refl _
theorem t_end_le {g : Nat → Int32} {L j : Nat} (h : j < L) : t_end g L j ≤ L := t_endF_le _ _ h
theorem t_end_gt {g : Nat → Int32} {L j : Nat} : j < t_end g L j := t_endF_ge _ _
theorem t_ps_le {g : Nat → Int32} {L : Nat} : ∀ i, (∀ j, j < i → t_ps g L j < L) → t_ps g L i ≤ L
  | 0, _ => t_skip_le (Nat.zero_le _)
  | i + 1, h => t_skip_le (t_end_le (h i (Nat.lt_succ_self i)))
theorem k_wordF_39 {w : Int64} : ∀ (m j : Nat), 28 ≤ j → ¬ w = -1 → k_wordF w m j = 37 ∨ 41 ≤ k_wordF w m j
  | 0, _, _, _ => Or.inl rfl
  | m + 1, j, hj, hw => by
    unfold k_wordF
    split
    · next h =>
      rcases Nat.lt_or_ge j 41 with h1 | h1
      · exfalso
        apply hw
        rw [← h]
        have : ∀ j, j < 41 → 28 ≤ j → q_wrd.getD j 0 = -1 := by decide
        exact this j h1 hj
      · exact Or.inr h1
    · exact k_wordF_39 m (j + 1) (by omega) hw
theorem k_wordF_lt {w : Int64} : ∀ (m j : Nat), j + m ≤ 41 → k_wordF w m j < 41
  | 0, _, _ => by show 37 < 41; decide
  | m + 1, j, h => by
    unfold k_wordF
    split
    · omega
    · exact k_wordF_lt m (j + 1) (by omega)
theorem k_word_lt {w : Int64} : k_word w < 41 := k_wordF_lt 41 0 (by decide)
theorem k_signF_lt {w : Int32} : ∀ (m j : Nat), j + m ≤ 41 → k_signF w m j < 41
  | 0, _, _ => by show 40 < 41; decide
  | m + 1, j, h => by
    unfold k_signF
    split
    · omega
    · exact k_signF_lt m (j + 1) (by omega)
theorem k_sign_lt {w : Int32} : k_sign w < 41 := k_signF_lt 41 0 (by decide)
theorem t_kind_lt {c : Int32} {len : Nat} {w : Int64} : t_kind c len w < 41 := by
  unfold t_kind
  repeat' split
  · exact k_word_lt
  · decide
  · decide
  · decide
  · exact k_sign_lt
theorem t_K_lt {g : Nat → Int32} {L i : Nat} : t_K g L i < 41 := by
  unfold t_K
  repeat' split
  · exact t_kind_lt
  · decide
  · decide
theorem k_word_ne {w : Int64} : k_word w < 28 ∨ k_word w = 37 := by
  unfold k_word
  by_cases hw : w = -1
  · subst hw; exact Or.inl (by decide)
  · have : ∀ (m j : Nat), j + m ≤ 41 → k_wordF w m j < 28 ∨ k_wordF w m j = 37 := by
      intro m
      induction m with
      | zero => exact fun _ _ => Or.inr rfl
      | succ m ih =>
        intro j h
        unfold k_wordF
        split
        · next h1 =>
          rcases Nat.lt_or_ge j 28 with h2 | h2
          · exact Or.inl h2
          · exfalso
            apply hw
            rw [← h1]
            have : ∀ j, j < 41 → 28 ≤ j → q_wrd.getD j 0 = -1 := by decide
            exact this j (by omega) h2
        · exact ih (j + 1) (by omega)
    exact this 41 0 (by decide)
theorem k_sign_ne {w : Int32} (hw : ¬ w = -1) : (27 ≤ k_sign w ∧ k_sign w < 37) ∨ k_sign w = 40 := by
  have : ∀ (m j : Nat), j + m ≤ 41 → (27 ≤ k_signF w m j ∧ k_signF w m j < 37) ∨ k_signF w m j = 40 := by
    intro m
    induction m with
    | zero => exact fun _ _ => Or.inr rfl
    | succ m ih =>
      intro j h
      unfold k_signF
      split
      · next h1 =>
        have : ∀ j, j < 41 → q_sig.getD j 0 = -1 ∨ (27 ≤ j ∧ j < 37) := by decide
        rcases this j (by omega) with h2 | h2
        · exact absurd (h1.symm.trans h2) hw
        · exact Or.inl h2
      · exact ih (j + 1) (by omega)
  exact this 41 0 (by decide)
theorem and255 (x : Int32) : ∃ j : Nat, j < 256 ∧ x &&& 255 = nI j := by
  refine ⟨(x.toBitVec &&& 255#32).toNat, ?_, ?_⟩
  · rw [BitVec.toNat_and]
    exact Nat.lt_of_le_of_lt Nat.and_le_right (by decide)
  · apply Int32.toBitVec_inj.1
    show x.toBitVec &&& 255#32 = BitVec.ofNat 32 (x.toBitVec &&& 255#32).toNat
    simp

set_option maxHeartbeats 4000000 in
set_option maxRecDepth 100000 in
theorem kX10_isLetter (l : Launch) (E : q_E) (f : q_H) (n : Nat) (x : Int32)  : Met l yX10_isLetter wsX10_isLetter ({ frames := 0, cells := 0, slots := 0, locals := 0 }) (q_P E [.int x] f n) (q_Qi E (fun r f1 n1 => b01 (b_let x) = r ∧ f = f1 ∧ n = n1)) 0 0 (q_ge E) := by
  refine Met.ofW (cc := cX10_isLetter) (maxL := 1) (ret := (some .boolean)) (by decide) rfl ?_
  intro p e s m args below meth c s₁ B hml hv
  obtain ⟨rfl, hA, hW⟩ := hv
  have hx := B.exec
  have hb := B.bytes
  have hr := B.returns
  have hts := atoms_spec (ws := wsX10_isLetter) B.pre
  have hown : s.vm.findClass RX10 = some m.cls := findClass_of_methodNamed B.named
  have hlocks := B.notSynchronized
  have hS : va_S (q_ge E) s.heap s.heap [] := va_S.rf
  have hl := lv_entry ([.int x]) (n := 1) (Nat.le_of_ble_eq_true rfl)
  rw [lg_entry_eq]
  generalize (lg_sl ([.int x]) ++ List.replicate (1 - (lg_sl ([.int x])).length) Slot.unset).toArray = ls at hl ⊢
  have hl : lv_has ls 1 [(0, .int x)] := hl
  refine lv_iload_n hx hb dX10_isLetter_0 rfl (lv_at hl 0 rfl) ?_
  refine lv_bipush (v := 97) hx hb dX10_isLetter_1 (by decide) ?_
  refine lv_icmp_lt (tgt := 16) hx hb dX10_isLetter_3 (by decide) (fun c_3 => ?_) (fun c_3 => ?_)
  · refine lv_iconst (v := 0) hx hb dX10_isLetter_16 (by decide) ?_
    exact q_zret hx hb hr hlocks hW hS rfl ⟨by simp [b01, b_let, c_3], rfl, rfl⟩ (Nat.le_of_ble_eq_true rfl) (Nat.le_of_ble_eq_true rfl) dX10_isLetter_17
  · refine lv_iload_n hx hb dX10_isLetter_6 rfl (lv_at hl 0 rfl) ?_
    refine lv_bipush (v := 122) hx hb dX10_isLetter_7 (by decide) ?_
    refine lv_icmp_gt (tgt := 16) hx hb dX10_isLetter_9 (by decide) (fun c_9 => ?_) (fun c_9 => ?_)
    · refine lv_iconst (v := 0) hx hb dX10_isLetter_16 (by decide) ?_
      exact q_zret hx hb hr hlocks hW hS rfl ⟨by simp [b01, b_let, c_3, c_9], rfl, rfl⟩ (Nat.le_of_ble_eq_true rfl) (Nat.le_of_ble_eq_true rfl) dX10_isLetter_17
    · refine lv_iconst (v := 1) hx hb dX10_isLetter_12 (by decide) ?_
      refine lv_goto (tgt := 17) hx hb dX10_isLetter_13 (by decide) ?_
      exact q_zret hx hb hr hlocks hW hS rfl ⟨by simp [b01, b_let, c_3, c_9], rfl, rfl⟩ (Nat.le_of_ble_eq_true rfl) (Nat.le_of_ble_eq_true rfl) dX10_isLetter_17

set_option maxHeartbeats 4000000 in
set_option maxRecDepth 100000 in
theorem kX10_isDigit (l : Launch) (E : q_E) (f : q_H) (n : Nat) (x : Int32)  : Met l yX10_isDigit wsX10_isDigit ({ frames := 0, cells := 0, slots := 0, locals := 0 }) (q_P E [.int x] f n) (q_Qi E (fun r f1 n1 => b01 (b_dig x) = r ∧ f = f1 ∧ n = n1)) 0 0 (q_ge E) := by
  refine Met.ofW (cc := cX10_isDigit) (maxL := 1) (ret := (some .boolean)) (by decide) rfl ?_
  intro p e s m args below meth c s₁ B hml hv
  obtain ⟨rfl, hA, hW⟩ := hv
  have hx := B.exec
  have hb := B.bytes
  have hr := B.returns
  have hts := atoms_spec (ws := wsX10_isDigit) B.pre
  have hown : s.vm.findClass RX10 = some m.cls := findClass_of_methodNamed B.named
  have hlocks := B.notSynchronized
  have hS : va_S (q_ge E) s.heap s.heap [] := va_S.rf
  have hl := lv_entry ([.int x]) (n := 1) (Nat.le_of_ble_eq_true rfl)
  rw [lg_entry_eq]
  generalize (lg_sl ([.int x]) ++ List.replicate (1 - (lg_sl ([.int x])).length) Slot.unset).toArray = ls at hl ⊢
  have hl : lv_has ls 1 [(0, .int x)] := hl
  refine lv_iload_n hx hb dX10_isDigit_0 rfl (lv_at hl 0 rfl) ?_
  refine lv_bipush (v := 48) hx hb dX10_isDigit_1 (by decide) ?_
  refine lv_icmp_lt (tgt := 16) hx hb dX10_isDigit_3 (by decide) (fun c_3 => ?_) (fun c_3 => ?_)
  · refine lv_iconst (v := 0) hx hb dX10_isDigit_16 (by decide) ?_
    exact q_zret hx hb hr hlocks hW hS rfl ⟨by simp [b01, b_dig, c_3], rfl, rfl⟩ (Nat.le_of_ble_eq_true rfl) (Nat.le_of_ble_eq_true rfl) dX10_isDigit_17
  · refine lv_iload_n hx hb dX10_isDigit_6 rfl (lv_at hl 0 rfl) ?_
    refine lv_bipush (v := 57) hx hb dX10_isDigit_7 (by decide) ?_
    refine lv_icmp_gt (tgt := 16) hx hb dX10_isDigit_9 (by decide) (fun c_9 => ?_) (fun c_9 => ?_)
    · refine lv_iconst (v := 0) hx hb dX10_isDigit_16 (by decide) ?_
      exact q_zret hx hb hr hlocks hW hS rfl ⟨by simp [b01, b_dig, c_3, c_9], rfl, rfl⟩ (Nat.le_of_ble_eq_true rfl) (Nat.le_of_ble_eq_true rfl) dX10_isDigit_17
    · refine lv_iconst (v := 1) hx hb dX10_isDigit_12 (by decide) ?_
      refine lv_goto (tgt := 17) hx hb dX10_isDigit_13 (by decide) ?_
      exact q_zret hx hb hr hlocks hW hS rfl ⟨by simp [b01, b_dig, c_3, c_9], rfl, rfl⟩ (Nat.le_of_ble_eq_true rfl) (Nat.le_of_ble_eq_true rfl) dX10_isDigit_17

set_option maxHeartbeats 4000000 in
set_option maxRecDepth 100000 in
theorem kX10_goesOn (l : Launch) (E : q_E) (f : q_H) (n : Nat) (a b : Int32)  : Met l yX10_goesOn wsX10_goesOn ({ frames := 1, cells := 0, slots := 0, locals := 20 }) (q_P E [.int a, .int b] f n) (q_Qi E (fun r f1 n1 => b01 (b_goes a b) = r ∧ f = f1 ∧ n = n1)) 0 0 (q_ge E) := by
  refine Met.ofW (cc := cX10_goesOn) (maxL := 2) (ret := (some .boolean)) (by decide) rfl ?_
  intro p e s m args below meth c s₁ B hml hv
  obtain ⟨rfl, hA, hW⟩ := hv
  have hx := B.exec
  have hb := B.bytes
  have hr := B.returns
  have hts := atoms_spec (ws := wsX10_goesOn) B.pre
  have hown : s.vm.findClass RX10 = some m.cls := findClass_of_methodNamed B.named
  have hlocks := B.notSynchronized
  have hS : va_S (q_ge E) s.heap s.heap [] := va_S.rf
  have hl := lv_entry ([.int a, .int b]) (n := 2) (Nat.le_of_ble_eq_true rfl)
  rw [lg_entry_eq]
  generalize (lg_sl ([.int a, .int b]) ++ List.replicate (2 - (lg_sl ([.int a, .int b])).length) Slot.unset).toArray = ls at hl ⊢
  have hl : lv_has ls 2 [(0, .int a), (1, .int b)] := hl
  refine lv_iload_n hx hb dX10_goesOn_0 rfl (lv_at hl 0 rfl) ?_
  refine q_ci (va_runS (As := [.int a]) (rest := []) ⟨hx, hb, hml, hown, hts⟩ (kX10_isLetter l E f n a) (va_cwS 1 hts gX10_goesOn_X10_isLetter rfl rfl rfl (by decide +kernel) ⟨(Nat.le_of_ble_eq_true rfl), (Nat.le_of_ble_eq_true rfl)⟩) (q_pS hA hW hS) rfl rfl hl.1 rfl (lv_room (Nat.le_of_ble_eq_true rfl)) dX10_goesOn_1 ⟨Nat.le_of_ble_eq_true rfl, Nat.le_of_ble_eq_true rfl⟩) hS (fun r_1 f_1 n_1 H locs hp hW hS => ?_)
  obtain ⟨rfl, rfl, rfl⟩ := hp
  have hW : q_W E (f) n H := hW
  refine lv_if_eq (tgt := 14) hx hb dX10_goesOn_4 (by decide) (fun c_4 => ?_) (fun c_4 => ?_)
  · have e_4 := b01_0 c_4
    refine lv_iload_n hx hb dX10_goesOn_14 rfl (lv_at hl 0 rfl) ?_
    refine q_ci (va_runS (As := [.int a]) (rest := []) ⟨hx, hb, hml, hown, hts⟩ (kX10_isDigit l E f n a) (va_cwS 1 hts gX10_goesOn_X10_isDigit rfl rfl rfl (by decide +kernel) ⟨(Nat.le_of_ble_eq_true rfl), (Nat.le_of_ble_eq_true rfl)⟩) (q_pS hA hW hS) rfl rfl hl.1 rfl (lv_room (Nat.le_of_ble_eq_true rfl)) dX10_goesOn_15 ⟨Nat.le_of_ble_eq_true rfl, Nat.le_of_ble_eq_true rfl⟩) hS (fun r_15 f_15 n_15 H locs hp hW hS => ?_)
    obtain ⟨rfl, rfl, rfl⟩ := hp
    have hW : q_W E (f) n H := hW
    refine lv_if_eq (tgt := 32) hx hb dX10_goesOn_18 (by decide) (fun c_18 => ?_) (fun c_18 => ?_)
    · have e_18 := b01_0 c_18
      refine lv_iconst (v := 0) hx hb dX10_goesOn_32 (by decide) ?_
      exact q_zret hx hb hr hlocks hW hS rfl ⟨by simp [b01, b_goes, e_4, e_18], rfl, rfl⟩ (Nat.le_of_ble_eq_true rfl) (Nat.le_of_ble_eq_true rfl) dX10_goesOn_33
    · have e_18 := b01_1 c_18
      refine lv_iload_n hx hb dX10_goesOn_21 rfl (lv_at hl 1 rfl) ?_
      refine q_ci (va_runS (As := [.int b]) (rest := []) ⟨hx, hb, hml, hown, hts⟩ (kX10_isDigit l E f n b) (va_cwS 1 hts gX10_goesOn_X10_isDigit rfl rfl rfl (by decide +kernel) ⟨(Nat.le_of_ble_eq_true rfl), (Nat.le_of_ble_eq_true rfl)⟩) (q_pS hA hW hS) rfl rfl hl.1 rfl (lv_room (Nat.le_of_ble_eq_true rfl)) dX10_goesOn_22 ⟨Nat.le_of_ble_eq_true rfl, Nat.le_of_ble_eq_true rfl⟩) hS (fun r_22 f_22 n_22 H locs hp hW hS => ?_)
      obtain ⟨rfl, rfl, rfl⟩ := hp
      have hW : q_W E (f) n H := hW
      refine lv_if_eq (tgt := 32) hx hb dX10_goesOn_25 (by decide) (fun c_25 => ?_) (fun c_25 => ?_)
      · have e_25 := b01_0 c_25
        refine lv_iconst (v := 0) hx hb dX10_goesOn_32 (by decide) ?_
        exact q_zret hx hb hr hlocks hW hS rfl ⟨by simp [b01, b_goes, e_4, e_18, e_25], rfl, rfl⟩ (Nat.le_of_ble_eq_true rfl) (Nat.le_of_ble_eq_true rfl) dX10_goesOn_33
      · have e_25 := b01_1 c_25
        refine lv_iconst (v := 1) hx hb dX10_goesOn_28 (by decide) ?_
        refine lv_goto (tgt := 33) hx hb dX10_goesOn_29 (by decide) ?_
        exact q_zret hx hb hr hlocks hW hS rfl ⟨by simp [b01, b_goes, e_4, e_18, e_25], rfl, rfl⟩ (Nat.le_of_ble_eq_true rfl) (Nat.le_of_ble_eq_true rfl) dX10_goesOn_33
  · have e_4 := b01_1 c_4
    refine lv_iload_n hx hb dX10_goesOn_7 rfl (lv_at hl 1 rfl) ?_
    refine q_ci (va_runS (As := [.int b]) (rest := []) ⟨hx, hb, hml, hown, hts⟩ (kX10_isLetter l E f n b) (va_cwS 1 hts gX10_goesOn_X10_isLetter rfl rfl rfl (by decide +kernel) ⟨(Nat.le_of_ble_eq_true rfl), (Nat.le_of_ble_eq_true rfl)⟩) (q_pS hA hW hS) rfl rfl hl.1 rfl (lv_room (Nat.le_of_ble_eq_true rfl)) dX10_goesOn_8 ⟨Nat.le_of_ble_eq_true rfl, Nat.le_of_ble_eq_true rfl⟩) hS (fun r_8 f_8 n_8 H locs hp hW hS => ?_)
    obtain ⟨rfl, rfl, rfl⟩ := hp
    have hW : q_W E (f) n H := hW
    refine lv_if_ne (tgt := 28) hx hb dX10_goesOn_11 (by decide) (fun c_11 => ?_) (fun c_11 => ?_)
    · have e_11 := b01_1 c_11
      refine lv_iconst (v := 1) hx hb dX10_goesOn_28 (by decide) ?_
      refine lv_goto (tgt := 33) hx hb dX10_goesOn_29 (by decide) ?_
      exact q_zret hx hb hr hlocks hW hS rfl ⟨by simp [b01, b_goes, e_4, e_11], rfl, rfl⟩ (Nat.le_of_ble_eq_true rfl) (Nat.le_of_ble_eq_true rfl) dX10_goesOn_33
    · have e_11 := b01_0 c_11
      refine lv_iload_n hx hb dX10_goesOn_14 rfl (lv_at hl 0 rfl) ?_
      refine q_ci (va_runS (As := [.int a]) (rest := []) ⟨hx, hb, hml, hown, hts⟩ (kX10_isDigit l E f n a) (va_cwS 1 hts gX10_goesOn_X10_isDigit rfl rfl rfl (by decide +kernel) ⟨(Nat.le_of_ble_eq_true rfl), (Nat.le_of_ble_eq_true rfl)⟩) (q_pS hA hW hS) rfl rfl hl.1 rfl (lv_room (Nat.le_of_ble_eq_true rfl)) dX10_goesOn_15 ⟨Nat.le_of_ble_eq_true rfl, Nat.le_of_ble_eq_true rfl⟩) hS (fun r_15 f_15 n_15 H locs hp hW hS => ?_)
      obtain ⟨rfl, rfl, rfl⟩ := hp
      have hW : q_W E (f) n H := hW
      refine lv_if_eq (tgt := 32) hx hb dX10_goesOn_18 (by decide) (fun c_18 => ?_) (fun c_18 => ?_)
      · have e_18 := b01_0 c_18
        refine lv_iconst (v := 0) hx hb dX10_goesOn_32 (by decide) ?_
        exact q_zret hx hb hr hlocks hW hS rfl ⟨by simp [b01, b_goes, e_4, e_11, e_18], rfl, rfl⟩ (Nat.le_of_ble_eq_true rfl) (Nat.le_of_ble_eq_true rfl) dX10_goesOn_33
      · have e_18 := b01_1 c_18
        refine lv_iload_n hx hb dX10_goesOn_21 rfl (lv_at hl 1 rfl) ?_
        refine q_ci (va_runS (As := [.int b]) (rest := []) ⟨hx, hb, hml, hown, hts⟩ (kX10_isDigit l E f n b) (va_cwS 1 hts gX10_goesOn_X10_isDigit rfl rfl rfl (by decide +kernel) ⟨(Nat.le_of_ble_eq_true rfl), (Nat.le_of_ble_eq_true rfl)⟩) (q_pS hA hW hS) rfl rfl hl.1 rfl (lv_room (Nat.le_of_ble_eq_true rfl)) dX10_goesOn_22 ⟨Nat.le_of_ble_eq_true rfl, Nat.le_of_ble_eq_true rfl⟩) hS (fun r_22 f_22 n_22 H locs hp hW hS => ?_)
        obtain ⟨rfl, rfl, rfl⟩ := hp
        have hW : q_W E (f) n H := hW
        refine lv_if_eq (tgt := 32) hx hb dX10_goesOn_25 (by decide) (fun c_25 => ?_) (fun c_25 => ?_)
        · have e_25 := b01_0 c_25
          refine lv_iconst (v := 0) hx hb dX10_goesOn_32 (by decide) ?_
          exact q_zret hx hb hr hlocks hW hS rfl ⟨by simp [b01, b_goes, e_4, e_11, e_18, e_25], rfl, rfl⟩ (Nat.le_of_ble_eq_true rfl) (Nat.le_of_ble_eq_true rfl) dX10_goesOn_33
        · have e_25 := b01_1 c_25
          refine lv_iconst (v := 1) hx hb dX10_goesOn_28 (by decide) ?_
          refine lv_goto (tgt := 33) hx hb dX10_goesOn_29 (by decide) ?_
          exact q_zret hx hb hr hlocks hW hS rfl ⟨by simp [b01, b_goes, e_4, e_11, e_18, e_25], rfl, rfl⟩ (Nat.le_of_ble_eq_true rfl) (Nat.le_of_ble_eq_true rfl) dX10_goesOn_33

