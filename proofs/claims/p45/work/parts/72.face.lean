/-! the class's own methods, as they are called: what throws, what is asked -/
section QT
variable {p : Program} {l : Launch} {e : Env} {R : Room} {s : State} {m : MethodId} {args : Array Value} {below : List Frame} {meth : Method} {c : Code} {H : Heap} {locs : List Loc} {cells slots : Nat}
variable {cc : ByteArray} {pc : Nat} {ls : Array Slot} {rest : List Value} {E : q_E} {f : q_H} {n mc ms : Nat}
def q_dq : List Cond := q_dc.map Cond.declares ++ q_ca.map (fun q => Cond.castable q.1 q.2)
theorem q_dcs (hA : q_A E s) : ∀ w ∈ q_dq, w.before args s = true := by
  intro w hw
  rcases List.mem_append.mp hw with hw | hw
  · obtain ⟨q, hq, rfl⟩ := List.mem_map.mp hw
    exact va_Nw.use rfl (hA.2.2.2.2.2.1 q hq)
  · obtain ⟨q, hq, rfl⟩ := List.mem_map.mp hw
    exact va_Nw.use rfl (hA.2.2.2.2.2.2.1 q hq)
end QT

theorem b_in_t {x lo hi : Int32} (h : b_in x lo hi = true) : ¬ x < lo ∧ ¬ hi < x := by
  unfold b_in at h
  rw [Bool.and_eq_true] at h
  exact ⟨fun h9 => by rw [decide_eq_true h9] at h; exact absurd h.1 (by decide), fun h9 => by rw [decide_eq_true h9] at h; exact absurd h.2 (by decide)⟩
theorem b_in_f {x lo hi : Int32} (h : b_in x lo hi = false) (h1 : ¬ x < lo) : hi < x := by
  by_cases h2 : hi < x
  · exact h2
  · unfold b_in at h
    rw [decide_eq_false h1, decide_eq_false h2] at h
    exact absurd h (by decide)
theorem b_in_n {x : Int32} {a b : Nat} (hb : b < 2 ^ 31) (hab : a ≤ b) (h : b_in x (nI a) (nI b) = true) : ∃ i, x = nI i ∧ a ≤ i ∧ i ≤ b := by
  obtain ⟨h1, h2⟩ := b_in_t h
  have h0 : ¬ x < 0 := fun h9 => h1 (by
    have z : (0 : Int32) ≤ nI a := nI_pos' (by omega)
    exact Int32.lt_of_lt_of_le h9 z)
  obtain ⟨t, ht, rfl⟩ := nI_of h0
  refine ⟨t, rfl, ?_, ?_⟩
  · rcases Nat.lt_or_ge t a with h9 | h9
    · exact absurd (nI_lt h9 (by omega)) h1
    · exact h9
  · rcases Nat.lt_or_ge b t with h9 | h9
    · exact absurd (nI_lt h9 ht) h2
    · exact h9
theorem q_lne {x y : Int32} (h : x ≤ y) : ¬ y < x := q_nlt2 h
theorem idx_no {x : Int32} {m : Nat} (h : ¬ ∃ i, i < m ∧ x = nI i) : x < 0 ∨ nI m ≤ x := by
  by_cases h0 : x < 0
  · exact Or.inl h0
  · obtain ⟨t, ht, rfl⟩ := nI_of h0
    refine Or.inr ?_
    rcases Nat.lt_or_ge t m with h9 | h9
    · exact absurd ⟨t, h9, rfl⟩ h
    · exact nI_le h9 ht

set_option maxHeartbeats 4000000 in
set_option maxRecDepth 100000 in
theorem kX12_requireWithin (l : Launch) (E : q_E) (f : q_H) (n : Nat) (x lo hi : Int32)  (hin : b_in x lo hi = true) : Met l yX12_requireWithin wsX12_requireWithin ({ frames := 0, cells := 0, slots := 0, locals := 0 }) (q_P E [.int x, .int lo, .int hi] f n) (q_Qv E (fun f1 n1 => f = f1 ∧ n = n1)) 0 0 (q_ge E) := by
  refine Met.ofW (cc := cX12_requireWithin) (maxL := 3) (ret := none) (by decide) rfl ?_
  intro p e s m args below meth c s₁ B hml hv
  obtain ⟨rfl, hA, hW⟩ := hv
  have hx := B.exec
  have hb := B.bytes
  have hr := B.returns
  have hts := atoms_spec (ws := wsX12_requireWithin) B.pre
  have hown : s.vm.findClass RX12 = some m.cls := findClass_of_methodNamed B.named
  have hlocks := B.notSynchronized
  have hS : va_S (q_ge E) s.heap s.heap [] := va_S.rf
  have hl := lv_entry ([.int x, .int lo, .int hi]) (n := 3) (Nat.le_of_ble_eq_true rfl)
  rw [lg_entry_eq]
  generalize (lg_sl ([.int x, .int lo, .int hi]) ++ List.replicate (3 - (lg_sl ([.int x, .int lo, .int hi])).length) Slot.unset).toArray = ls at hl ⊢
  have hl : lv_has ls 3 [(0, .int x), (1, .int lo), (2, .int hi)] := hl
  refine lv_iload_n hx hb dX12_requireWithin_0 rfl (lv_at hl 0 rfl) ?_
  refine lv_iload_n hx hb dX12_requireWithin_1 rfl (lv_at hl 1 rfl) ?_
  refine lv_icmp_lt (tgt := 10) hx hb dX12_requireWithin_2 (by decide) (fun c_2 => absurd c_2 (b_in_t hin).1) (fun c_2 => ?_)
  refine lv_iload_n hx hb dX12_requireWithin_5 rfl (lv_at hl 0 rfl) ?_
  refine lv_iload_n hx hb dX12_requireWithin_6 rfl (lv_at hl 2 rfl) ?_
  refine lv_icmp_le (tgt := 20) hx hb dX12_requireWithin_7 (by decide) (fun c_7 => ?_) (fun c_7 => False.elim ((fun h9 => h9 (Int32.not_lt.mp (b_in_t hin).2)) c_7))
  exact q_vret hx hb hr hlocks hW hS ⟨rfl, rfl⟩ (Nat.le_of_ble_eq_true rfl) (Nat.le_of_ble_eq_true rfl) dX12_requireWithin_20

set_option maxHeartbeats 4000000 in
set_option maxRecDepth 100000 in
theorem kX12_requireIndex (l : Launch) (E : q_E) (f : q_H) (n : Nat) (i m9 : Nat)  (hi : i < m9) (hm : m9 < 2 ^ 31) : Met l yX12_requireIndex wsX12_requireIndex ({ frames := 0, cells := 0, slots := 0, locals := 0 }) (q_P E [.int (nI i), .int (nI m9)] f n) (q_Qv E (fun f1 n1 => f = f1 ∧ n = n1)) 0 0 (q_ge E) := by
  refine Met.ofW (cc := cX12_requireIndex) (maxL := 2) (ret := none) (by decide) rfl ?_
  intro p e s m args below meth c s₁ B hml hv
  obtain ⟨rfl, hA, hW⟩ := hv
  have hx := B.exec
  have hb := B.bytes
  have hr := B.returns
  have hts := atoms_spec (ws := wsX12_requireIndex) B.pre
  have hown : s.vm.findClass RX12 = some m.cls := findClass_of_methodNamed B.named
  have hlocks := B.notSynchronized
  have hS : va_S (q_ge E) s.heap s.heap [] := va_S.rf
  have hl := lv_entry ([.int (nI i), .int (nI m9)]) (n := 2) (Nat.le_of_ble_eq_true rfl)
  rw [lg_entry_eq]
  generalize (lg_sl ([.int (nI i), .int (nI m9)]) ++ List.replicate (2 - (lg_sl ([.int (nI i), .int (nI m9)])).length) Slot.unset).toArray = ls at hl ⊢
  have hl : lv_has ls 2 [(0, .int (nI i)), (1, .int (nI m9))] := hl
  refine lv_iload_n hx hb dX12_requireIndex_0 rfl (lv_at hl 0 rfl) ?_
  refine lv_if_lt (tgt := 9) hx hb dX12_requireIndex_1 (by decide) (fun c_1 => absurd c_1 (nI_pos (by omega))) (fun c_1 => ?_)
  refine lv_iload_n hx hb dX12_requireIndex_4 rfl (lv_at hl 0 rfl) ?_
  refine lv_iload_n hx hb dX12_requireIndex_5 rfl (lv_at hl 1 rfl) ?_
  refine lv_icmp_lt (tgt := 19) hx hb dX12_requireIndex_6 (by decide) (fun c_6 => ?_) (fun c_6 => False.elim ((fun h9 => h9 (nI_lt hi hm)) c_6))
  exact q_vret hx hb hr hlocks hW hS ⟨rfl, rfl⟩ (Nat.le_of_ble_eq_true rfl) (Nat.le_of_ble_eq_true rfl) dX12_requireIndex_19

set_option maxHeartbeats 4000000 in
set_option maxRecDepth 100000 in
theorem kX12_pans (l : Launch) (E : q_E) (f : q_H) (n : Nat) (x tp pr k ck tr tk : Nat) (ep : Int32) (bk : Nat) (hd v : Nat → Int32) (pn rc : Nat) (ac : Int32) (hX : f x = some (rX12 (some tp) (some pr) (some k) (some ck) (some tr) (some tk) ep)) (hB : f bk = some (cBook bk (nI pn) (nI rc) ac)) (hk : KIT E f k bk hd v) (hbo : kOut k bk) (hxo : kOut k x) (hpn : pn ≤ 8) (hrc : rc ≤ 6) : Met l yX12_pans wsX12_pans ({ frames := 0, cells := 0, slots := 0, locals := 0 }) (q_P E [.ref x] f n) (q_Qi E (fun r f1 n1 => nI pn = r ∧ f = f1 ∧ n = n1)) 0 0 (q_ge E) := by
  refine Met.ofW (cc := cX12_pans) (maxL := 1) (ret := (some .int)) (by decide) rfl ?_
  intro p e s m args below meth c s₁ B hml hv
  obtain ⟨rfl, hA, hW⟩ := hv
  have hx := B.exec
  have hb := B.bytes
  have hr := B.returns
  have hts := atoms_spec (ws := wsX12_pans) B.pre
  have hown : s.vm.findClass RX12 = some m.cls := findClass_of_methodNamed B.named
  have hlocks := B.notSynchronized
  have hS : va_S (q_ge E) s.heap s.heap [] := va_S.rf
  have iX12 : ∀ w ∈ wsX120, w ∈ wsX12_pans := by decide +kernel
  have iX2 : ∀ w ∈ wsX20, w ∈ wsX12_pans := by decide +kernel
  have iX6 : ∀ w ∈ wsX60, w ∈ wsX12_pans := by decide +kernel
  have hl := lv_entry ([.ref x]) (n := 1) (Nat.le_of_ble_eq_true rfl)
  rw [lg_entry_eq]
  generalize (lg_sl ([.ref x]) ++ List.replicate (1 - (lg_sl ([.ref x])).length) Slot.unset).toArray = ls at hl ⊢
  have hl : lv_has ls 1 [(0, .ref x)] := hl
  rw [hk.eq] at hW
  refine lv_aload_n hx hb dX12_pans_0 rfl (lv_at hl 0 rfl) ?_
  refine q_get hx hb hts hown hA hW iX12 ((kO_out hxo).trans hX) rfl 2 (by decide) (hts (.fieldLink RX12 26 "HighRecipes" "kitchen" "LHighRecipes$Kitchen;") (by decide +kernel)) (fun _ h9 => h9) (v := .ref k) rfl dX12_pans_1 ?_
  refine q_getN hx hb hts hown hA hW iX6 kO_0 rfl 4 (by decide) (va_Nw.use rfl (hA.2.2.2.1 ("HighRecipes", 82, "HighRecipes$Kitchen", "book", "LHighRecipes$Book;", "HighRecipes") (by decide +kernel))) (fun _ h9 => h9) (v := .ref bk) rfl dX12_pans_4 ?_
  refine q_getN hx hb hts hown hA hW iX2 ((kO_out hbo).trans hB) rfl 4 (by decide) (va_Nw.use rfl (hA.2.2.2.1 ("HighRecipes", 83, "HighRecipes$Book", "panCount", "I", "HighRecipes") (by decide +kernel))) (fun _ h9 => h9) (v := .int (nI pn)) rfl dX12_pans_7 ?_
  exact q_iret hx hb hr hlocks hW hS ⟨rfl, hk.eq, rfl⟩ (Nat.le_of_ble_eq_true rfl) (Nat.le_of_ble_eq_true rfl) dX12_pans_10

set_option maxHeartbeats 4000000 in
set_option maxRecDepth 100000 in
theorem kX12_recipes (l : Launch) (E : q_E) (f : q_H) (n : Nat) (x tp pr k ck tr tk : Nat) (ep : Int32) (bk : Nat) (hd v : Nat → Int32) (pn rc : Nat) (ac : Int32) (hX : f x = some (rX12 (some tp) (some pr) (some k) (some ck) (some tr) (some tk) ep)) (hB : f bk = some (cBook bk (nI pn) (nI rc) ac)) (hk : KIT E f k bk hd v) (hbo : kOut k bk) (hxo : kOut k x) (hpn : pn ≤ 8) (hrc : rc ≤ 6) : Met l yX12_recipes wsX12_recipes ({ frames := 0, cells := 0, slots := 0, locals := 0 }) (q_P E [.ref x] f n) (q_Qi E (fun r f1 n1 => nI rc = r ∧ f = f1 ∧ n = n1)) 0 0 (q_ge E) := by
  refine Met.ofW (cc := cX12_recipes) (maxL := 1) (ret := (some .int)) (by decide) rfl ?_
  intro p e s m args below meth c s₁ B hml hv
  obtain ⟨rfl, hA, hW⟩ := hv
  have hx := B.exec
  have hb := B.bytes
  have hr := B.returns
  have hts := atoms_spec (ws := wsX12_recipes) B.pre
  have hown : s.vm.findClass RX12 = some m.cls := findClass_of_methodNamed B.named
  have hlocks := B.notSynchronized
  have hS : va_S (q_ge E) s.heap s.heap [] := va_S.rf
  have iX12 : ∀ w ∈ wsX120, w ∈ wsX12_recipes := by decide +kernel
  have iX2 : ∀ w ∈ wsX20, w ∈ wsX12_recipes := by decide +kernel
  have iX6 : ∀ w ∈ wsX60, w ∈ wsX12_recipes := by decide +kernel
  have hl := lv_entry ([.ref x]) (n := 1) (Nat.le_of_ble_eq_true rfl)
  rw [lg_entry_eq]
  generalize (lg_sl ([.ref x]) ++ List.replicate (1 - (lg_sl ([.ref x])).length) Slot.unset).toArray = ls at hl ⊢
  have hl : lv_has ls 1 [(0, .ref x)] := hl
  rw [hk.eq] at hW
  refine lv_aload_n hx hb dX12_recipes_0 rfl (lv_at hl 0 rfl) ?_
  refine q_get hx hb hts hown hA hW iX12 ((kO_out hxo).trans hX) rfl 2 (by decide) (hts (.fieldLink RX12 26 "HighRecipes" "kitchen" "LHighRecipes$Kitchen;") (by decide +kernel)) (fun _ h9 => h9) (v := .ref k) rfl dX12_recipes_1 ?_
  refine q_getN hx hb hts hown hA hW iX6 kO_0 rfl 4 (by decide) (va_Nw.use rfl (hA.2.2.2.1 ("HighRecipes", 82, "HighRecipes$Kitchen", "book", "LHighRecipes$Book;", "HighRecipes") (by decide +kernel))) (fun _ h9 => h9) (v := .ref bk) rfl dX12_recipes_4 ?_
  refine q_getN hx hb hts hown hA hW iX2 ((kO_out hbo).trans hB) rfl 5 (by decide) (va_Nw.use rfl (hA.2.2.2.1 ("HighRecipes", 88, "HighRecipes$Book", "recipeCount", "I", "HighRecipes") (by decide +kernel))) (fun _ h9 => h9) (v := .int (nI rc)) rfl dX12_recipes_7 ?_
  exact q_iret hx hb hr hlocks hW hS ⟨rfl, hk.eq, rfl⟩ (Nat.le_of_ble_eq_true rfl) (Nat.le_of_ble_eq_true rfl) dX12_recipes_10

set_option maxHeartbeats 4000000 in
set_option maxRecDepth 100000 in
theorem kX12_acts (l : Launch) (E : q_E) (f : q_H) (n : Nat) (x tp pr k ck tr tk : Nat) (ep : Int32) (bk : Nat) (hd v : Nat → Int32) (pn rc : Nat) (ac : Int32) (hX : f x = some (rX12 (some tp) (some pr) (some k) (some ck) (some tr) (some tk) ep)) (hB : f bk = some (cBook bk (nI pn) (nI rc) ac)) (hk : KIT E f k bk hd v) (hbo : kOut k bk) (hxo : kOut k x) (hpn : pn ≤ 8) (hrc : rc ≤ 6) : Met l yX12_acts wsX12_acts ({ frames := 0, cells := 0, slots := 0, locals := 0 }) (q_P E [.ref x] f n) (q_Qi E (fun r f1 n1 => ac = r ∧ f = f1 ∧ n = n1)) 0 0 (q_ge E) := by
  refine Met.ofW (cc := cX12_acts) (maxL := 1) (ret := (some .int)) (by decide) rfl ?_
  intro p e s m args below meth c s₁ B hml hv
  obtain ⟨rfl, hA, hW⟩ := hv
  have hx := B.exec
  have hb := B.bytes
  have hr := B.returns
  have hts := atoms_spec (ws := wsX12_acts) B.pre
  have hown : s.vm.findClass RX12 = some m.cls := findClass_of_methodNamed B.named
  have hlocks := B.notSynchronized
  have hS : va_S (q_ge E) s.heap s.heap [] := va_S.rf
  have iX12 : ∀ w ∈ wsX120, w ∈ wsX12_acts := by decide +kernel
  have iX2 : ∀ w ∈ wsX20, w ∈ wsX12_acts := by decide +kernel
  have iX6 : ∀ w ∈ wsX60, w ∈ wsX12_acts := by decide +kernel
  have hl := lv_entry ([.ref x]) (n := 1) (Nat.le_of_ble_eq_true rfl)
  rw [lg_entry_eq]
  generalize (lg_sl ([.ref x]) ++ List.replicate (1 - (lg_sl ([.ref x])).length) Slot.unset).toArray = ls at hl ⊢
  have hl : lv_has ls 1 [(0, .ref x)] := hl
  rw [hk.eq] at hW
  refine lv_aload_n hx hb dX12_acts_0 rfl (lv_at hl 0 rfl) ?_
  refine q_get hx hb hts hown hA hW iX12 ((kO_out hxo).trans hX) rfl 2 (by decide) (hts (.fieldLink RX12 26 "HighRecipes" "kitchen" "LHighRecipes$Kitchen;") (by decide +kernel)) (fun _ h9 => h9) (v := .ref k) rfl dX12_acts_1 ?_
  refine q_getN hx hb hts hown hA hW iX6 kO_0 rfl 4 (by decide) (va_Nw.use rfl (hA.2.2.2.1 ("HighRecipes", 82, "HighRecipes$Kitchen", "book", "LHighRecipes$Book;", "HighRecipes") (by decide +kernel))) (fun _ h9 => h9) (v := .ref bk) rfl dX12_acts_4 ?_
  refine q_getN hx hb hts hown hA hW iX2 ((kO_out hbo).trans hB) rfl 6 (by decide) (va_Nw.use rfl (hA.2.2.2.1 ("HighRecipes", 91, "HighRecipes$Book", "actCount", "I", "HighRecipes") (by decide +kernel))) (fun _ h9 => h9) (v := .int ac) rfl dX12_acts_7 ?_
  exact q_iret hx hb hr hlocks hW hS ⟨rfl, hk.eq, rfl⟩ (Nat.le_of_ble_eq_true rfl) (Nat.le_of_ble_eq_true rfl) dX12_acts_10

set_option maxHeartbeats 4000000 in
set_option maxRecDepth 100000 in
theorem kX12_altitude (l : Launch) (E : q_E) (f : q_H) (n : Nat) (x tp pr k ck tr tk : Nat) (ep : Int32) (bk : Nat) (hd v : Nat → Int32) (pn rc : Nat) (ac : Int32) (hX : f x = some (rX12 (some tp) (some pr) (some k) (some ck) (some tr) (some tk) ep)) (hB : f bk = some (cBook bk (nI pn) (nI rc) ac)) (hk : KIT E f k bk hd v) (hbo : kOut k bk) (hxo : kOut k x) (hpn : pn ≤ 8) (hrc : rc ≤ 6) : Met l yX12_altitude wsX12_altitude ({ frames := 0, cells := 0, slots := 0, locals := 0 }) (q_P E [.ref x] f n) (q_Qi E (fun r f1 n1 => v 0 = r ∧ f = f1 ∧ n = n1)) 0 0 (q_ge E) := by
  refine Met.ofW (cc := cX12_altitude) (maxL := 1) (ret := (some .int)) (by decide) rfl ?_
  intro p e s m args below meth c s₁ B hml hv
  obtain ⟨rfl, hA, hW⟩ := hv
  have hx := B.exec
  have hb := B.bytes
  have hr := B.returns
  have hts := atoms_spec (ws := wsX12_altitude) B.pre
  have hown : s.vm.findClass RX12 = some m.cls := findClass_of_methodNamed B.named
  have hlocks := B.notSynchronized
  have hS : va_S (q_ge E) s.heap s.heap [] := va_S.rf
  have iX12 : ∀ w ∈ wsX120, w ∈ wsX12_altitude := by decide +kernel
  have iX6 : ∀ w ∈ wsX60, w ∈ wsX12_altitude := by decide +kernel
  have hl := lv_entry ([.ref x]) (n := 1) (Nat.le_of_ble_eq_true rfl)
  rw [lg_entry_eq]
  generalize (lg_sl ([.ref x]) ++ List.replicate (1 - (lg_sl ([.ref x])).length) Slot.unset).toArray = ls at hl ⊢
  have hl : lv_has ls 1 [(0, .ref x)] := hl
  rw [hk.eq] at hW
  refine lv_aload_n hx hb dX12_altitude_0 rfl (lv_at hl 0 rfl) ?_
  refine q_get hx hb hts hown hA hW iX12 ((kO_out hxo).trans hX) rfl 2 (by decide) (hts (.fieldLink RX12 26 "HighRecipes" "kitchen" "LHighRecipes$Kitchen;") (by decide +kernel)) (fun _ h9 => h9) (v := .ref k) rfl dX12_altitude_1 ?_
  refine q_getN hx hb hts hown hA hW iX6 kO_0 rfl 5 (by decide) (va_Nw.use rfl (hA.2.2.2.1 ("HighRecipes", 94, "HighRecipes$Kitchen", "altitude", "I", "HighRecipes") (by decide +kernel))) (fun _ h9 => h9) (v := .int (v 0)) rfl dX12_altitude_4 ?_
  exact q_iret hx hb hr hlocks hW hS ⟨rfl, hk.eq, rfl⟩ (Nat.le_of_ble_eq_true rfl) (Nat.le_of_ble_eq_true rfl) dX12_altitude_7

set_option maxHeartbeats 4000000 in
set_option maxRecDepth 100000 in
theorem kX12_boilingPoint (l : Launch) (E : q_E) (f : q_H) (n : Nat) (x tp pr k ck tr tk : Nat) (ep : Int32) (bk : Nat) (hd v : Nat → Int32) (pn rc : Nat) (ac : Int32) (hX : f x = some (rX12 (some tp) (some pr) (some k) (some ck) (some tr) (some tk) ep)) (hB : f bk = some (cBook bk (nI pn) (nI rc) ac)) (hk : KIT E f k bk hd v) (hbo : kOut k bk) (hxo : kOut k x) (hpn : pn ≤ 8) (hrc : rc ≤ 6) : Met l yX12_boilingPoint wsX12_boilingPoint ({ frames := 2, cells := 0, slots := 0, locals := 40 }) (q_P E [.ref x] f n) (q_Qi E (fun r f1 n1 => z_boil (v 0) = r ∧ f = f1 ∧ n = n1)) 0 0 (q_ge E) := by
  refine Met.ofW (cc := cX12_boilingPoint) (maxL := 1) (ret := (some .int)) (by decide) rfl ?_
  intro p e s m args below meth c s₁ B hml hv
  obtain ⟨rfl, hA, hW⟩ := hv
  have hx := B.exec
  have hb := B.bytes
  have hr := B.returns
  have hts := atoms_spec (ws := wsX12_boilingPoint) B.pre
  have hown : s.vm.findClass RX12 = some m.cls := findClass_of_methodNamed B.named
  have hlocks := B.notSynchronized
  have hS : va_S (q_ge E) s.heap s.heap [] := va_S.rf
  have iX12 : ∀ w ∈ wsX120, w ∈ wsX12_boilingPoint := by decide +kernel
  have hl := lv_entry ([.ref x]) (n := 1) (Nat.le_of_ble_eq_true rfl)
  rw [lg_entry_eq]
  generalize (lg_sl ([.ref x]) ++ List.replicate (1 - (lg_sl ([.ref x])).length) Slot.unset).toArray = ls at hl ⊢
  have hl : lv_has ls 1 [(0, .ref x)] := hl
  rw [hk.eq] at hW
  refine lv_aload_n hx hb dX12_boilingPoint_0 rfl (lv_at hl 0 rfl) ?_
  refine q_get hx hb hts hown hA hW iX12 ((kO_out hxo).trans hX) rfl 2 (by decide) (hts (.fieldLink RX12 26 "HighRecipes" "kitchen" "LHighRecipes$Kitchen;") (by decide +kernel)) (fun _ h9 => h9) (v := .ref k) rfl dX12_boilingPoint_1 ?_
  refine q_ci (va_runV (As := []) (rest := []) ⟨hx, hb, hml, hown, hts⟩ (kX6_boilingHeat l E (kO E f k bk hd v) n k bk hd v kO_K) (cwV 0 hts gX12_boilingPoint_X6_boilingHeat rfl rfl rfl (by decide +kernel) ⟨(Nat.le_of_ble_eq_true rfl), (Nat.le_of_ble_eq_true rfl)⟩) (q_pV hA hW hS (ci := 6) rfl kO_0) rfl rfl hl.1 rfl (lv_room (Nat.le_of_ble_eq_true rfl)) dX12_boilingPoint_4 ⟨Nat.le_of_ble_eq_true rfl, Nat.le_of_ble_eq_true rfl⟩) hS (fun r_4 f_4 n_4 H locs hp hW hS => ?_)
  obtain ⟨rfl, rfl, rfl⟩ := hp
  have hW : q_W E (kO E f k bk hd v) n H := hW
  exact q_iret hx hb hr hlocks hW hS ⟨rfl, hk.eq, rfl⟩ (Nat.le_of_ble_eq_true rfl) (Nat.le_of_ble_eq_true rfl) dX12_boilingPoint_7

set_option maxHeartbeats 4000000 in
set_option maxRecDepth 100000 in
theorem kX12_servings (l : Launch) (E : q_E) (f : q_H) (n : Nat) (x tp pr k ck tr tk : Nat) (ep : Int32) (bk : Nat) (hd v : Nat → Int32) (pn rc : Nat) (ac : Int32) (hX : f x = some (rX12 (some tp) (some pr) (some k) (some ck) (some tr) (some tk) ep)) (hB : f bk = some (cBook bk (nI pn) (nI rc) ac)) (hk : KIT E f k bk hd v) (hbo : kOut k bk) (hxo : kOut k x) (hpn : pn ≤ 8) (hrc : rc ≤ 6) : Met l yX12_servings wsX12_servings ({ frames := 0, cells := 0, slots := 0, locals := 0 }) (q_P E [.ref x] f n) (q_Qi E (fun r f1 n1 => v 1 = r ∧ f = f1 ∧ n = n1)) 0 0 (q_ge E) := by
  refine Met.ofW (cc := cX12_servings) (maxL := 1) (ret := (some .int)) (by decide) rfl ?_
  intro p e s m args below meth c s₁ B hml hv
  obtain ⟨rfl, hA, hW⟩ := hv
  have hx := B.exec
  have hb := B.bytes
  have hr := B.returns
  have hts := atoms_spec (ws := wsX12_servings) B.pre
  have hown : s.vm.findClass RX12 = some m.cls := findClass_of_methodNamed B.named
  have hlocks := B.notSynchronized
  have hS : va_S (q_ge E) s.heap s.heap [] := va_S.rf
  have iX12 : ∀ w ∈ wsX120, w ∈ wsX12_servings := by decide +kernel
  have iX6 : ∀ w ∈ wsX60, w ∈ wsX12_servings := by decide +kernel
  have hl := lv_entry ([.ref x]) (n := 1) (Nat.le_of_ble_eq_true rfl)
  rw [lg_entry_eq]
  generalize (lg_sl ([.ref x]) ++ List.replicate (1 - (lg_sl ([.ref x])).length) Slot.unset).toArray = ls at hl ⊢
  have hl : lv_has ls 1 [(0, .ref x)] := hl
  rw [hk.eq] at hW
  refine lv_aload_n hx hb dX12_servings_0 rfl (lv_at hl 0 rfl) ?_
  refine q_get hx hb hts hown hA hW iX12 ((kO_out hxo).trans hX) rfl 2 (by decide) (hts (.fieldLink RX12 26 "HighRecipes" "kitchen" "LHighRecipes$Kitchen;") (by decide +kernel)) (fun _ h9 => h9) (v := .ref k) rfl dX12_servings_1 ?_
  refine q_getN hx hb hts hown hA hW iX6 kO_0 rfl 6 (by decide) (va_Nw.use rfl (hA.2.2.2.1 ("HighRecipes", 100, "HighRecipes$Kitchen", "servings", "I", "HighRecipes") (by decide +kernel))) (fun _ h9 => h9) (v := .int (v 1)) rfl dX12_servings_4 ?_
  exact q_iret hx hb hr hlocks hW hS ⟨rfl, hk.eq, rfl⟩ (Nat.le_of_ble_eq_true rfl) (Nat.le_of_ble_eq_true rfl) dX12_servings_7

set_option maxHeartbeats 4000000 in
set_option maxRecDepth 100000 in
theorem kX12_spoon (l : Launch) (E : q_E) (f : q_H) (n : Nat) (x tp pr k ck tr tk : Nat) (ep : Int32) (bk : Nat) (hd v : Nat → Int32) (pn rc : Nat) (ac : Int32) (hX : f x = some (rX12 (some tp) (some pr) (some k) (some ck) (some tr) (some tk) ep)) (hB : f bk = some (cBook bk (nI pn) (nI rc) ac)) (hk : KIT E f k bk hd v) (hbo : kOut k bk) (hxo : kOut k x) (hpn : pn ≤ 8) (hrc : rc ≤ 6) : Met l yX12_spoon wsX12_spoon ({ frames := 0, cells := 0, slots := 0, locals := 0 }) (q_P E [.ref x] f n) (q_Qi E (fun r f1 n1 => v 2 = r ∧ f = f1 ∧ n = n1)) 0 0 (q_ge E) := by
  refine Met.ofW (cc := cX12_spoon) (maxL := 1) (ret := (some .int)) (by decide) rfl ?_
  intro p e s m args below meth c s₁ B hml hv
  obtain ⟨rfl, hA, hW⟩ := hv
  have hx := B.exec
  have hb := B.bytes
  have hr := B.returns
  have hts := atoms_spec (ws := wsX12_spoon) B.pre
  have hown : s.vm.findClass RX12 = some m.cls := findClass_of_methodNamed B.named
  have hlocks := B.notSynchronized
  have hS : va_S (q_ge E) s.heap s.heap [] := va_S.rf
  have iX12 : ∀ w ∈ wsX120, w ∈ wsX12_spoon := by decide +kernel
  have iX6 : ∀ w ∈ wsX60, w ∈ wsX12_spoon := by decide +kernel
  have hl := lv_entry ([.ref x]) (n := 1) (Nat.le_of_ble_eq_true rfl)
  rw [lg_entry_eq]
  generalize (lg_sl ([.ref x]) ++ List.replicate (1 - (lg_sl ([.ref x])).length) Slot.unset).toArray = ls at hl ⊢
  have hl : lv_has ls 1 [(0, .ref x)] := hl
  rw [hk.eq] at hW
  refine lv_aload_n hx hb dX12_spoon_0 rfl (lv_at hl 0 rfl) ?_
  refine q_get hx hb hts hown hA hW iX12 ((kO_out hxo).trans hX) rfl 2 (by decide) (hts (.fieldLink RX12 26 "HighRecipes" "kitchen" "LHighRecipes$Kitchen;") (by decide +kernel)) (fun _ h9 => h9) (v := .ref k) rfl dX12_spoon_1 ?_
  refine q_getN hx hb hts hown hA hW iX6 kO_0 rfl 7 (by decide) (va_Nw.use rfl (hA.2.2.2.1 ("HighRecipes", 103, "HighRecipes$Kitchen", "spoon", "I", "HighRecipes") (by decide +kernel))) (fun _ h9 => h9) (v := .int (v 2)) rfl dX12_spoon_4 ?_
  exact q_iret hx hb hr hlocks hW hS ⟨rfl, hk.eq, rfl⟩ (Nat.le_of_ble_eq_true rfl) (Nat.le_of_ble_eq_true rfl) dX12_spoon_7

set_option maxHeartbeats 4000000 in
set_option maxRecDepth 100000 in
theorem kX12_minute (l : Launch) (E : q_E) (f : q_H) (n : Nat) (x tp pr k ck tr tk : Nat) (ep : Int32) (bk : Nat) (hd v : Nat → Int32) (pn rc : Nat) (ac : Int32) (hX : f x = some (rX12 (some tp) (some pr) (some k) (some ck) (some tr) (some tk) ep)) (hB : f bk = some (cBook bk (nI pn) (nI rc) ac)) (hk : KIT E f k bk hd v) (hbo : kOut k bk) (hxo : kOut k x) (hpn : pn ≤ 8) (hrc : rc ≤ 6) : Met l yX12_minute wsX12_minute ({ frames := 0, cells := 0, slots := 0, locals := 0 }) (q_P E [.ref x] f n) (q_Qi E (fun r f1 n1 => v 3 = r ∧ f = f1 ∧ n = n1)) 0 0 (q_ge E) := by
  refine Met.ofW (cc := cX12_minute) (maxL := 1) (ret := (some .int)) (by decide) rfl ?_
  intro p e s m args below meth c s₁ B hml hv
  obtain ⟨rfl, hA, hW⟩ := hv
  have hx := B.exec
  have hb := B.bytes
  have hr := B.returns
  have hts := atoms_spec (ws := wsX12_minute) B.pre
  have hown : s.vm.findClass RX12 = some m.cls := findClass_of_methodNamed B.named
  have hlocks := B.notSynchronized
  have hS : va_S (q_ge E) s.heap s.heap [] := va_S.rf
  have iX12 : ∀ w ∈ wsX120, w ∈ wsX12_minute := by decide +kernel
  have iX6 : ∀ w ∈ wsX60, w ∈ wsX12_minute := by decide +kernel
  have hl := lv_entry ([.ref x]) (n := 1) (Nat.le_of_ble_eq_true rfl)
  rw [lg_entry_eq]
  generalize (lg_sl ([.ref x]) ++ List.replicate (1 - (lg_sl ([.ref x])).length) Slot.unset).toArray = ls at hl ⊢
  have hl : lv_has ls 1 [(0, .ref x)] := hl
  rw [hk.eq] at hW
  refine lv_aload_n hx hb dX12_minute_0 rfl (lv_at hl 0 rfl) ?_
  refine q_get hx hb hts hown hA hW iX12 ((kO_out hxo).trans hX) rfl 2 (by decide) (hts (.fieldLink RX12 26 "HighRecipes" "kitchen" "LHighRecipes$Kitchen;") (by decide +kernel)) (fun _ h9 => h9) (v := .ref k) rfl dX12_minute_1 ?_
  refine q_getN hx hb hts hown hA hW iX6 kO_0 rfl 8 (by decide) (va_Nw.use rfl (hA.2.2.2.1 ("HighRecipes", 106, "HighRecipes$Kitchen", "minute", "I", "HighRecipes") (by decide +kernel))) (fun _ h9 => h9) (v := .int (v 3)) rfl dX12_minute_4 ?_
  exact q_iret hx hb hr hlocks hW hS ⟨rfl, hk.eq, rfl⟩ (Nat.le_of_ble_eq_true rfl) (Nat.le_of_ble_eq_true rfl) dX12_minute_7

set_option maxHeartbeats 4000000 in
set_option maxRecDepth 100000 in
theorem kX12_warnings (l : Launch) (E : q_E) (f : q_H) (n : Nat) (x tp pr k ck tr tk : Nat) (ep : Int32) (bk : Nat) (hd v : Nat → Int32) (pn rc : Nat) (ac : Int32) (hX : f x = some (rX12 (some tp) (some pr) (some k) (some ck) (some tr) (some tk) ep)) (hB : f bk = some (cBook bk (nI pn) (nI rc) ac)) (hk : KIT E f k bk hd v) (hbo : kOut k bk) (hxo : kOut k x) (hpn : pn ≤ 8) (hrc : rc ≤ 6) : Met l yX12_warnings wsX12_warnings ({ frames := 0, cells := 0, slots := 0, locals := 0 }) (q_P E [.ref x] f n) (q_Qi E (fun r f1 n1 => v 4 = r ∧ f = f1 ∧ n = n1)) 0 0 (q_ge E) := by
  refine Met.ofW (cc := cX12_warnings) (maxL := 1) (ret := (some .int)) (by decide) rfl ?_
  intro p e s m args below meth c s₁ B hml hv
  obtain ⟨rfl, hA, hW⟩ := hv
  have hx := B.exec
  have hb := B.bytes
  have hr := B.returns
  have hts := atoms_spec (ws := wsX12_warnings) B.pre
  have hown : s.vm.findClass RX12 = some m.cls := findClass_of_methodNamed B.named
  have hlocks := B.notSynchronized
  have hS : va_S (q_ge E) s.heap s.heap [] := va_S.rf
  have iX12 : ∀ w ∈ wsX120, w ∈ wsX12_warnings := by decide +kernel
  have iX4 : ∀ w ∈ wsX40, w ∈ wsX12_warnings := by decide +kernel
  have iX6 : ∀ w ∈ wsX60, w ∈ wsX12_warnings := by decide +kernel
  have hl := lv_entry ([.ref x]) (n := 1) (Nat.le_of_ble_eq_true rfl)
  rw [lg_entry_eq]
  generalize (lg_sl ([.ref x]) ++ List.replicate (1 - (lg_sl ([.ref x])).length) Slot.unset).toArray = ls at hl ⊢
  have hl : lv_has ls 1 [(0, .ref x)] := hl
  rw [hk.eq] at hW
  refine lv_aload_n hx hb dX12_warnings_0 rfl (lv_at hl 0 rfl) ?_
  refine q_get hx hb hts hown hA hW iX12 ((kO_out hxo).trans hX) rfl 2 (by decide) (hts (.fieldLink RX12 26 "HighRecipes" "kitchen" "LHighRecipes$Kitchen;") (by decide +kernel)) (fun _ h9 => h9) (v := .ref k) rfl dX12_warnings_1 ?_
  refine q_getN hx hb hts hown hA hW iX6 kO_0 rfl 1 (by decide) (va_Nw.use rfl (hA.2.2.2.1 ("HighRecipes", 144, "HighRecipes$Kitchen", "warnings", "LHighRecipes$History;", "HighRecipes") (by decide +kernel))) (fun _ h9 => h9) (v := .ref (k + 2)) rfl dX12_warnings_4 ?_
  refine q_getN hx hb hts hown hA hW iX4 kO_2 rfl 1 (by decide) (va_Nw.use rfl (hA.2.2.2.1 ("HighRecipes", 148, "HighRecipes$History", "total", "I", "HighRecipes") (by decide +kernel))) (fun _ h9 => h9) (v := .int (v 4)) rfl dX12_warnings_7 ?_
  exact q_iret hx hb hr hlocks hW hS ⟨rfl, hk.eq, rfl⟩ (Nat.le_of_ble_eq_true rfl) (Nat.le_of_ble_eq_true rfl) dX12_warnings_10

set_option maxHeartbeats 4000000 in
set_option maxRecDepth 100000 in
theorem kX12_notes (l : Launch) (E : q_E) (f : q_H) (n : Nat) (x tp pr k ck tr tk : Nat) (ep : Int32) (bk : Nat) (hd v : Nat → Int32) (pn rc : Nat) (ac : Int32) (hX : f x = some (rX12 (some tp) (some pr) (some k) (some ck) (some tr) (some tk) ep)) (hB : f bk = some (cBook bk (nI pn) (nI rc) ac)) (hk : KIT E f k bk hd v) (hbo : kOut k bk) (hxo : kOut k x) (hpn : pn ≤ 8) (hrc : rc ≤ 6) : Met l yX12_notes wsX12_notes ({ frames := 0, cells := 0, slots := 0, locals := 0 }) (q_P E [.ref x] f n) (q_Qi E (fun r f1 n1 => v 5 = r ∧ f = f1 ∧ n = n1)) 0 0 (q_ge E) := by
  refine Met.ofW (cc := cX12_notes) (maxL := 1) (ret := (some .int)) (by decide) rfl ?_
  intro p e s m args below meth c s₁ B hml hv
  obtain ⟨rfl, hA, hW⟩ := hv
  have hx := B.exec
  have hb := B.bytes
  have hr := B.returns
  have hts := atoms_spec (ws := wsX12_notes) B.pre
  have hown : s.vm.findClass RX12 = some m.cls := findClass_of_methodNamed B.named
  have hlocks := B.notSynchronized
  have hS : va_S (q_ge E) s.heap s.heap [] := va_S.rf
  have iX12 : ∀ w ∈ wsX120, w ∈ wsX12_notes := by decide +kernel
  have iX4 : ∀ w ∈ wsX40, w ∈ wsX12_notes := by decide +kernel
  have iX6 : ∀ w ∈ wsX60, w ∈ wsX12_notes := by decide +kernel
  have hl := lv_entry ([.ref x]) (n := 1) (Nat.le_of_ble_eq_true rfl)
  rw [lg_entry_eq]
  generalize (lg_sl ([.ref x]) ++ List.replicate (1 - (lg_sl ([.ref x])).length) Slot.unset).toArray = ls at hl ⊢
  have hl : lv_has ls 1 [(0, .ref x)] := hl
  rw [hk.eq] at hW
  refine lv_aload_n hx hb dX12_notes_0 rfl (lv_at hl 0 rfl) ?_
  refine q_get hx hb hts hown hA hW iX12 ((kO_out hxo).trans hX) rfl 2 (by decide) (hts (.fieldLink RX12 26 "HighRecipes" "kitchen" "LHighRecipes$Kitchen;") (by decide +kernel)) (fun _ h9 => h9) (v := .ref k) rfl dX12_notes_1 ?_
  refine q_getN hx hb hts hown hA hW iX6 kO_0 rfl 2 (by decide) (va_Nw.use rfl (hA.2.2.2.1 ("HighRecipes", 166, "HighRecipes$Kitchen", "notes", "LHighRecipes$History;", "HighRecipes") (by decide +kernel))) (fun _ h9 => h9) (v := .ref (k + 4)) rfl dX12_notes_4 ?_
  refine q_getN hx hb hts hown hA hW iX4 kO_4 rfl 1 (by decide) (va_Nw.use rfl (hA.2.2.2.1 ("HighRecipes", 148, "HighRecipes$History", "total", "I", "HighRecipes") (by decide +kernel))) (fun _ h9 => h9) (v := .int (v 5)) rfl dX12_notes_7 ?_
  exact q_iret hx hb hr hlocks hW hS ⟨rfl, hk.eq, rfl⟩ (Nat.le_of_ble_eq_true rfl) (Nat.le_of_ble_eq_true rfl) dX12_notes_10

set_option maxHeartbeats 4000000 in
set_option maxRecDepth 100000 in
theorem kX12_requirePan (l : Launch) (E : q_E) (f : q_H) (n : Nat) (x tp pr k ck tr tk : Nat) (ep : Int32) (bk : Nat) (hd v : Nat → Int32) (pn rc : Nat) (ac : Int32) (i : Nat) (hX : f x = some (rX12 (some tp) (some pr) (some k) (some ck) (some tr) (some tk) ep)) (hB : f bk = some (cBook bk (nI pn) (nI rc) ac)) (hk : KIT E f k bk hd v) (hbo : kOut k bk) (hxo : kOut k x) (hpn : pn ≤ 8) (hrc : rc ≤ 6) (hi : i < pn) : Met l yX12_requirePan wsX12_requirePan ({ frames := 1, cells := 0, slots := 0, locals := 21 }) (q_P E [.ref x, .int (nI i)] f n) (q_Qq E (fun r f1 n1 => some (k + 12 + i) = r ∧ f = f1 ∧ n = n1)) 0 0 (q_ge E) := by
  refine Met.ofW (cc := cX12_requirePan) (maxL := 3) (ret := (some (.object "HighRecipes$Pan"))) (by decide) rfl ?_
  intro p e s m args below meth c s₁ B hml hv
  obtain ⟨rfl, hA, hW⟩ := hv
  have hx := B.exec
  have hb := B.bytes
  have hr := B.returns
  have hts := atoms_spec (ws := wsX12_requirePan) B.pre
  have hown : s.vm.findClass RX12 = some m.cls := findClass_of_methodNamed B.named
  have hlocks := B.notSynchronized
  have hS : va_S (q_ge E) s.heap s.heap [] := va_S.rf
  have iX12 : ∀ w ∈ wsX120, w ∈ wsX12_requirePan := by decide +kernel
  have hl := lv_entry ([.ref x, .int (nI i)]) (n := 3) (Nat.le_of_ble_eq_true rfl)
  rw [lg_entry_eq]
  generalize (lg_sl ([.ref x, .int (nI i)]) ++ List.replicate (3 - (lg_sl ([.ref x, .int (nI i)])).length) Slot.unset).toArray = ls at hl ⊢
  have hl : lv_has ls 3 [(0, .ref x), (1, .int (nI i))] := hl
  rw [hk.eq] at hW
  refine lv_aload_n hx hb dX12_requirePan_0 rfl (lv_at hl 0 rfl) ?_
  refine q_get hx hb hts hown hA hW iX12 ((kO_out hxo).trans hX) rfl 2 (by decide) (hts (.fieldLink RX12 26 "HighRecipes" "kitchen" "LHighRecipes$Kitchen;") (by decide +kernel)) (fun _ h9 => h9) (v := .ref k) rfl dX12_requirePan_1 ?_
  refine lv_iload_n hx hb dX12_requirePan_4 rfl (lv_at hl 1 rfl) ?_
  refine q_cq (va_runV (As := [.int (nI i)]) (rest := []) ⟨hx, hb, hml, hown, hts⟩ (kX6_panAt l E (kO E f k bk hd v) n k bk hd v pn (nI rc) ac i ((kO_out hbo).trans hB) kO_K (by assumption) (by assumption) (by assumption)) (cwV 1 hts gX12_requirePan_X6_panAt rfl rfl rfl (by decide +kernel) ⟨(Nat.le_of_ble_eq_true rfl), (Nat.le_of_ble_eq_true rfl)⟩) (q_pV hA hW hS (ci := 6) rfl kO_0) rfl rfl hl.1 rfl (lv_room (Nat.le_of_ble_eq_true rfl)) dX12_requirePan_5 ⟨Nat.le_of_ble_eq_true rfl, Nat.le_of_ble_eq_true rfl⟩) hS (fun r_5 f_5 n_5 H locs hp hW hS => ?_)
  obtain ⟨rfl, rfl, rfl⟩ := hp
  have hW : q_W E (kO E f k bk hd v) n H := hW
  refine lv_astore_n (lv' := [(2, .ref (k + 12 + i)), (0, .ref x), (1, .int (nI i))]) hx hb dX12_requirePan_8 rfl hl (by decide) rfl (fun ls hl => ?_)
  refine lv_aload_n hx hb dX12_requirePan_9 rfl (lv_at hl 0 rfl) ?_
  refine lv_ifnonnull (tgt := 23) hx hb dX12_requirePan_10 (by decide) ?_
  refine lv_aload_n hx hb dX12_requirePan_23 rfl (lv_at hl 0 rfl) ?_
  exact q_aret (v := some (k + 12 + i)) hx hb hr (Or.inl ⟨_, rfl⟩) hlocks hW hS ⟨rfl, hk.eq, rfl⟩ (Nat.le_of_ble_eq_true rfl) (Nat.le_of_ble_eq_true rfl) dX12_requirePan_24

set_option maxHeartbeats 4000000 in
set_option maxRecDepth 100000 in
theorem kX12_requireRecipe (l : Launch) (E : q_E) (f : q_H) (n : Nat) (x tp pr k ck tr tk : Nat) (ep : Int32) (bk : Nat) (hd v : Nat → Int32) (pn rc : Nat) (ac : Int32) (i : Nat) (hX : f x = some (rX12 (some tp) (some pr) (some k) (some ck) (some tr) (some tk) ep)) (hB : f bk = some (cBook bk (nI pn) (nI rc) ac)) (hk : KIT E f k bk hd v) (hbo : kOut k bk) (hxo : kOut k x) (hpn : pn ≤ 8) (hrc : rc ≤ 6) (hi : i < rc) : Met l yX12_requireRecipe wsX12_requireRecipe ({ frames := 1, cells := 0, slots := 0, locals := 21 }) (q_P E [.ref x, .int (nI i)] f n) (q_Qv E (fun f1 n1 => f = f1 ∧ n = n1)) 0 0 (q_ge E) := by
  refine Met.ofW (cc := cX12_requireRecipe) (maxL := 2) (ret := none) (by decide) rfl ?_
  intro p e s m args below meth c s₁ B hml hv
  obtain ⟨rfl, hA, hW⟩ := hv
  have hx := B.exec
  have hb := B.bytes
  have hr := B.returns
  have hts := atoms_spec (ws := wsX12_requireRecipe) B.pre
  have hown : s.vm.findClass RX12 = some m.cls := findClass_of_methodNamed B.named
  have hlocks := B.notSynchronized
  have hS : va_S (q_ge E) s.heap s.heap [] := va_S.rf
  have iX12 : ∀ w ∈ wsX120, w ∈ wsX12_requireRecipe := by decide +kernel
  have iX2 : ∀ w ∈ wsX20, w ∈ wsX12_requireRecipe := by decide +kernel
  have iX6 : ∀ w ∈ wsX60, w ∈ wsX12_requireRecipe := by decide +kernel
  have hl := lv_entry ([.ref x, .int (nI i)]) (n := 2) (Nat.le_of_ble_eq_true rfl)
  rw [lg_entry_eq]
  generalize (lg_sl ([.ref x, .int (nI i)]) ++ List.replicate (2 - (lg_sl ([.ref x, .int (nI i)])).length) Slot.unset).toArray = ls at hl ⊢
  have hl : lv_has ls 2 [(0, .ref x), (1, .int (nI i))] := hl
  rw [hk.eq] at hW
  refine lv_iload_n hx hb dX12_requireRecipe_0 rfl (lv_at hl 1 rfl) ?_
  refine lv_aload_n hx hb dX12_requireRecipe_1 rfl (lv_at hl 0 rfl) ?_
  refine q_get hx hb hts hown hA hW iX12 ((kO_out hxo).trans hX) rfl 2 (by decide) (hts (.fieldLink RX12 26 "HighRecipes" "kitchen" "LHighRecipes$Kitchen;") (by decide +kernel)) (fun _ h9 => h9) (v := .ref k) rfl dX12_requireRecipe_2 ?_
  refine q_getN hx hb hts hown hA hW iX6 kO_0 rfl 4 (by decide) (va_Nw.use rfl (hA.2.2.2.1 ("HighRecipes", 82, "HighRecipes$Kitchen", "book", "LHighRecipes$Book;", "HighRecipes") (by decide +kernel))) (fun _ h9 => h9) (v := .ref bk) rfl dX12_requireRecipe_5 ?_
  refine q_getN hx hb hts hown hA hW iX2 ((kO_out hbo).trans hB) rfl 5 (by decide) (va_Nw.use rfl (hA.2.2.2.1 ("HighRecipes", 88, "HighRecipes$Book", "recipeCount", "I", "HighRecipes") (by decide +kernel))) (fun _ h9 => h9) (v := .int (nI rc)) rfl dX12_requireRecipe_8 ?_
  refine q_cv (va_runS (As := [.int (nI i), .int (nI rc)]) (rest := []) ⟨hx, hb, hml, hown, hts⟩ (kX12_requireIndex l E (kO E f k bk hd v) n i rc (by assumption) (by omega)) (va_cwS 2 hts gX12_requireRecipe_X12_requireIndex rfl rfl rfl (by decide +kernel) ⟨(Nat.le_of_ble_eq_true rfl), (Nat.le_of_ble_eq_true rfl)⟩) (q_pS hA hW hS) rfl rfl hl.1 rfl (lv_room (Nat.le_of_ble_eq_true rfl)) dX12_requireRecipe_11 ⟨Nat.le_of_ble_eq_true rfl, Nat.le_of_ble_eq_true rfl⟩) hS (fun f_11 n_11 H locs hp hW hS => ?_)
  obtain ⟨rfl, rfl⟩ := hp
  have hW : q_W E (kO E f k bk hd v) n H := hW
  exact q_vret hx hb hr hlocks hW hS ⟨hk.eq, rfl⟩ (Nat.le_of_ble_eq_true rfl) (Nat.le_of_ble_eq_true rfl) dX12_requireRecipe_14

set_option maxHeartbeats 4000000 in
set_option maxRecDepth 100000 in
theorem kX12_holdsOf (l : Launch) (E : q_E) (f : q_H) (n : Nat) (x tp pr k ck tr tk : Nat) (ep : Int32) (bk : Nat) (hd v : Nat → Int32) (pn rc : Nat) (ac : Int32) (i : Nat) (hX : f x = some (rX12 (some tp) (some pr) (some k) (some ck) (some tr) (some tk) ep)) (hB : f bk = some (cBook bk (nI pn) (nI rc) ac)) (hk : KIT E f k bk hd v) (hbo : kOut k bk) (hxo : kOut k x) (hpn : pn ≤ 8) (hrc : rc ≤ 6) (hi : i < pn) : Met l yX12_holdsOf wsX12_holdsOf ({ frames := 2, cells := 0, slots := 0, locals := 43 }) (q_P E [.ref x, .int (nI i)] f n) (q_Qi E (fun r f1 n1 => hd i = r ∧ f = f1 ∧ n = n1)) 0 0 (q_ge E) := by
  refine Met.ofW (cc := cX12_holdsOf) (maxL := 2) (ret := (some .int)) (by decide) rfl ?_
  intro p e s m args below meth c s₁ B hml hv
  obtain ⟨rfl, hA, hW⟩ := hv
  have hx := B.exec
  have hb := B.bytes
  have hr := B.returns
  have hts := atoms_spec (ws := wsX12_holdsOf) B.pre
  have hown : s.vm.findClass RX12 = some m.cls := findClass_of_methodNamed B.named
  have hlocks := B.notSynchronized
  have hS : va_S (q_ge E) s.heap s.heap [] := va_S.rf
  have iX7 : ∀ w ∈ wsX70, w ∈ wsX12_holdsOf := by decide +kernel
  have hl := lv_entry ([.ref x, .int (nI i)]) (n := 2) (Nat.le_of_ble_eq_true rfl)
  rw [lg_entry_eq]
  generalize (lg_sl ([.ref x, .int (nI i)]) ++ List.replicate (2 - (lg_sl ([.ref x, .int (nI i)])).length) Slot.unset).toArray = ls at hl ⊢
  have hl : lv_has ls 2 [(0, .ref x), (1, .int (nI i))] := hl
  rw [hk.eq] at hW
  refine lv_aload_n hx hb dX12_holdsOf_0 rfl (lv_at hl 0 rfl) ?_
  refine lv_iload_n hx hb dX12_holdsOf_1 rfl (lv_at hl 1 rfl) ?_
  refine q_cq (va_runV (As := [.int (nI i)]) (rest := []) ⟨hx, hb, hml, hown, hts⟩ (kX12_requirePan l E (kO E f k bk hd v) n x tp pr k ck tr tk ep bk hd v pn rc ac i ((kO_out hxo).trans hX) ((kO_out hbo).trans hB) kO_K (by assumption) (by assumption) (by assumption) (by assumption) (by assumption)) (cwV 1 hts gX12_holdsOf_X12_requirePan rfl rfl rfl (by decide +kernel) ⟨(Nat.le_of_ble_eq_true rfl), (Nat.le_of_ble_eq_true rfl)⟩) (q_pV hA hW hS (ci := 12) rfl ((kO_out hxo).trans hX)) rfl rfl hl.1 rfl (lv_room (Nat.le_of_ble_eq_true rfl)) dX12_holdsOf_2 ⟨Nat.le_of_ble_eq_true rfl, Nat.le_of_ble_eq_true rfl⟩) hS (fun r_2 f_2 n_2 H locs hp hW hS => ?_)
  obtain ⟨rfl, rfl, rfl⟩ := hp
  have hW : q_W E (kO E f k bk hd v) n H := hW
  refine q_getN hx hb hts hown hA hW iX7 (kO_p (q_8 hi hpn)) rfl 0 (by decide) (va_Nw.use rfl (hA.2.2.2.1 ("HighRecipes", 113, "HighRecipes$Pan", "holds", "I", "HighRecipes") (by decide +kernel))) (fun _ h9 => h9) (v := .int (hd i)) rfl dX12_holdsOf_5 ?_
  exact q_iret hx hb hr hlocks hW hS ⟨rfl, hk.eq, rfl⟩ (Nat.le_of_ble_eq_true rfl) (Nat.le_of_ble_eq_true rfl) dX12_holdsOf_8

set_option maxHeartbeats 4000000 in
set_option maxRecDepth 100000 in
theorem kX12_waterIn (l : Launch) (E : q_E) (f : q_H) (n : Nat) (x tp pr k ck tr tk : Nat) (ep : Int32) (bk : Nat) (hd v : Nat → Int32) (pn rc : Nat) (ac : Int32) (i : Nat) (hX : f x = some (rX12 (some tp) (some pr) (some k) (some ck) (some tr) (some tk) ep)) (hB : f bk = some (cBook bk (nI pn) (nI rc) ac)) (hk : KIT E f k bk hd v) (hbo : kOut k bk) (hxo : kOut k x) (hpn : pn ≤ 8) (hrc : rc ≤ 6) (hi : i < pn) : Met l yX12_waterIn wsX12_waterIn ({ frames := 2, cells := 0, slots := 0, locals := 43 }) (q_P E [.ref x, .int (nI i)] f n) (q_Qi E (fun r f1 n1 => v (52 + 4 * i) = r ∧ f = f1 ∧ n = n1)) 0 0 (q_ge E) := by
  refine Met.ofW (cc := cX12_waterIn) (maxL := 2) (ret := (some .int)) (by decide) rfl ?_
  intro p e s m args below meth c s₁ B hml hv
  obtain ⟨rfl, hA, hW⟩ := hv
  have hx := B.exec
  have hb := B.bytes
  have hr := B.returns
  have hts := atoms_spec (ws := wsX12_waterIn) B.pre
  have hown : s.vm.findClass RX12 = some m.cls := findClass_of_methodNamed B.named
  have hlocks := B.notSynchronized
  have hS : va_S (q_ge E) s.heap s.heap [] := va_S.rf
  have iX7 : ∀ w ∈ wsX70, w ∈ wsX12_waterIn := by decide +kernel
  have hl := lv_entry ([.ref x, .int (nI i)]) (n := 2) (Nat.le_of_ble_eq_true rfl)
  rw [lg_entry_eq]
  generalize (lg_sl ([.ref x, .int (nI i)]) ++ List.replicate (2 - (lg_sl ([.ref x, .int (nI i)])).length) Slot.unset).toArray = ls at hl ⊢
  have hl : lv_has ls 2 [(0, .ref x), (1, .int (nI i))] := hl
  rw [hk.eq] at hW
  refine lv_aload_n hx hb dX12_waterIn_0 rfl (lv_at hl 0 rfl) ?_
  refine lv_iload_n hx hb dX12_waterIn_1 rfl (lv_at hl 1 rfl) ?_
  refine q_cq (va_runV (As := [.int (nI i)]) (rest := []) ⟨hx, hb, hml, hown, hts⟩ (kX12_requirePan l E (kO E f k bk hd v) n x tp pr k ck tr tk ep bk hd v pn rc ac i ((kO_out hxo).trans hX) ((kO_out hbo).trans hB) kO_K (by assumption) (by assumption) (by assumption) (by assumption) (by assumption)) (cwV 1 hts gX12_waterIn_X12_requirePan rfl rfl rfl (by decide +kernel) ⟨(Nat.le_of_ble_eq_true rfl), (Nat.le_of_ble_eq_true rfl)⟩) (q_pV hA hW hS (ci := 12) rfl ((kO_out hxo).trans hX)) rfl rfl hl.1 rfl (lv_room (Nat.le_of_ble_eq_true rfl)) dX12_waterIn_2 ⟨Nat.le_of_ble_eq_true rfl, Nat.le_of_ble_eq_true rfl⟩) hS (fun r_2 f_2 n_2 H locs hp hW hS => ?_)
  obtain ⟨rfl, rfl, rfl⟩ := hp
  have hW : q_W E (kO E f k bk hd v) n H := hW
  refine q_getN hx hb hts hown hA hW iX7 (kO_p (q_8 hi hpn)) rfl 1 (by decide) (va_Nw.use rfl (hA.2.2.2.1 ("HighRecipes", 118, "HighRecipes$Pan", "water", "I", "HighRecipes") (by decide +kernel))) (fun _ h9 => h9) (v := .int (v (52 + 4 * i))) rfl dX12_waterIn_5 ?_
  exact q_iret hx hb hr hlocks hW hS ⟨rfl, hk.eq, rfl⟩ (Nat.le_of_ble_eq_true rfl) (Nat.le_of_ble_eq_true rfl) dX12_waterIn_8

set_option maxHeartbeats 4000000 in
set_option maxRecDepth 100000 in
theorem kX12_mealIn (l : Launch) (E : q_E) (f : q_H) (n : Nat) (x tp pr k ck tr tk : Nat) (ep : Int32) (bk : Nat) (hd v : Nat → Int32) (pn rc : Nat) (ac : Int32) (i : Nat) (hX : f x = some (rX12 (some tp) (some pr) (some k) (some ck) (some tr) (some tk) ep)) (hB : f bk = some (cBook bk (nI pn) (nI rc) ac)) (hk : KIT E f k bk hd v) (hbo : kOut k bk) (hxo : kOut k x) (hpn : pn ≤ 8) (hrc : rc ≤ 6) (hi : i < pn) : Met l yX12_mealIn wsX12_mealIn ({ frames := 2, cells := 0, slots := 0, locals := 43 }) (q_P E [.ref x, .int (nI i)] f n) (q_Qi E (fun r f1 n1 => v (53 + 4 * i) = r ∧ f = f1 ∧ n = n1)) 0 0 (q_ge E) := by
  refine Met.ofW (cc := cX12_mealIn) (maxL := 2) (ret := (some .int)) (by decide) rfl ?_
  intro p e s m args below meth c s₁ B hml hv
  obtain ⟨rfl, hA, hW⟩ := hv
  have hx := B.exec
  have hb := B.bytes
  have hr := B.returns
  have hts := atoms_spec (ws := wsX12_mealIn) B.pre
  have hown : s.vm.findClass RX12 = some m.cls := findClass_of_methodNamed B.named
  have hlocks := B.notSynchronized
  have hS : va_S (q_ge E) s.heap s.heap [] := va_S.rf
  have iX7 : ∀ w ∈ wsX70, w ∈ wsX12_mealIn := by decide +kernel
  have hl := lv_entry ([.ref x, .int (nI i)]) (n := 2) (Nat.le_of_ble_eq_true rfl)
  rw [lg_entry_eq]
  generalize (lg_sl ([.ref x, .int (nI i)]) ++ List.replicate (2 - (lg_sl ([.ref x, .int (nI i)])).length) Slot.unset).toArray = ls at hl ⊢
  have hl : lv_has ls 2 [(0, .ref x), (1, .int (nI i))] := hl
  rw [hk.eq] at hW
  refine lv_aload_n hx hb dX12_mealIn_0 rfl (lv_at hl 0 rfl) ?_
  refine lv_iload_n hx hb dX12_mealIn_1 rfl (lv_at hl 1 rfl) ?_
  refine q_cq (va_runV (As := [.int (nI i)]) (rest := []) ⟨hx, hb, hml, hown, hts⟩ (kX12_requirePan l E (kO E f k bk hd v) n x tp pr k ck tr tk ep bk hd v pn rc ac i ((kO_out hxo).trans hX) ((kO_out hbo).trans hB) kO_K (by assumption) (by assumption) (by assumption) (by assumption) (by assumption)) (cwV 1 hts gX12_mealIn_X12_requirePan rfl rfl rfl (by decide +kernel) ⟨(Nat.le_of_ble_eq_true rfl), (Nat.le_of_ble_eq_true rfl)⟩) (q_pV hA hW hS (ci := 12) rfl ((kO_out hxo).trans hX)) rfl rfl hl.1 rfl (lv_room (Nat.le_of_ble_eq_true rfl)) dX12_mealIn_2 ⟨Nat.le_of_ble_eq_true rfl, Nat.le_of_ble_eq_true rfl⟩) hS (fun r_2 f_2 n_2 H locs hp hW hS => ?_)
  obtain ⟨rfl, rfl, rfl⟩ := hp
  have hW : q_W E (kO E f k bk hd v) n H := hW
  refine q_getN hx hb hts hown hA hW iX7 (kO_p (q_8 hi hpn)) rfl 2 (by decide) (va_Nw.use rfl (hA.2.2.2.1 ("HighRecipes", 121, "HighRecipes$Pan", "meal", "I", "HighRecipes") (by decide +kernel))) (fun _ h9 => h9) (v := .int (v (53 + 4 * i))) rfl dX12_mealIn_5 ?_
  exact q_iret hx hb hr hlocks hW hS ⟨rfl, hk.eq, rfl⟩ (Nat.le_of_ble_eq_true rfl) (Nat.le_of_ble_eq_true rfl) dX12_mealIn_8

set_option maxHeartbeats 4000000 in
set_option maxRecDepth 100000 in
theorem kX12_heatOf (l : Launch) (E : q_E) (f : q_H) (n : Nat) (x tp pr k ck tr tk : Nat) (ep : Int32) (bk : Nat) (hd v : Nat → Int32) (pn rc : Nat) (ac : Int32) (i : Nat) (hX : f x = some (rX12 (some tp) (some pr) (some k) (some ck) (some tr) (some tk) ep)) (hB : f bk = some (cBook bk (nI pn) (nI rc) ac)) (hk : KIT E f k bk hd v) (hbo : kOut k bk) (hxo : kOut k x) (hpn : pn ≤ 8) (hrc : rc ≤ 6) (hi : i < pn) : Met l yX12_heatOf wsX12_heatOf ({ frames := 2, cells := 0, slots := 0, locals := 43 }) (q_P E [.ref x, .int (nI i)] f n) (q_Qi E (fun r f1 n1 => v (54 + 4 * i) = r ∧ f = f1 ∧ n = n1)) 0 0 (q_ge E) := by
  refine Met.ofW (cc := cX12_heatOf) (maxL := 2) (ret := (some .int)) (by decide) rfl ?_
  intro p e s m args below meth c s₁ B hml hv
  obtain ⟨rfl, hA, hW⟩ := hv
  have hx := B.exec
  have hb := B.bytes
  have hr := B.returns
  have hts := atoms_spec (ws := wsX12_heatOf) B.pre
  have hown : s.vm.findClass RX12 = some m.cls := findClass_of_methodNamed B.named
  have hlocks := B.notSynchronized
  have hS : va_S (q_ge E) s.heap s.heap [] := va_S.rf
  have iX7 : ∀ w ∈ wsX70, w ∈ wsX12_heatOf := by decide +kernel
  have hl := lv_entry ([.ref x, .int (nI i)]) (n := 2) (Nat.le_of_ble_eq_true rfl)
  rw [lg_entry_eq]
  generalize (lg_sl ([.ref x, .int (nI i)]) ++ List.replicate (2 - (lg_sl ([.ref x, .int (nI i)])).length) Slot.unset).toArray = ls at hl ⊢
  have hl : lv_has ls 2 [(0, .ref x), (1, .int (nI i))] := hl
  rw [hk.eq] at hW
  refine lv_aload_n hx hb dX12_heatOf_0 rfl (lv_at hl 0 rfl) ?_
  refine lv_iload_n hx hb dX12_heatOf_1 rfl (lv_at hl 1 rfl) ?_
  refine q_cq (va_runV (As := [.int (nI i)]) (rest := []) ⟨hx, hb, hml, hown, hts⟩ (kX12_requirePan l E (kO E f k bk hd v) n x tp pr k ck tr tk ep bk hd v pn rc ac i ((kO_out hxo).trans hX) ((kO_out hbo).trans hB) kO_K (by assumption) (by assumption) (by assumption) (by assumption) (by assumption)) (cwV 1 hts gX12_heatOf_X12_requirePan rfl rfl rfl (by decide +kernel) ⟨(Nat.le_of_ble_eq_true rfl), (Nat.le_of_ble_eq_true rfl)⟩) (q_pV hA hW hS (ci := 12) rfl ((kO_out hxo).trans hX)) rfl rfl hl.1 rfl (lv_room (Nat.le_of_ble_eq_true rfl)) dX12_heatOf_2 ⟨Nat.le_of_ble_eq_true rfl, Nat.le_of_ble_eq_true rfl⟩) hS (fun r_2 f_2 n_2 H locs hp hW hS => ?_)
  obtain ⟨rfl, rfl, rfl⟩ := hp
  have hW : q_W E (kO E f k bk hd v) n H := hW
  refine q_getN hx hb hts hown hA hW iX7 (kO_p (q_8 hi hpn)) rfl 3 (by decide) (va_Nw.use rfl (hA.2.2.2.1 ("HighRecipes", 124, "HighRecipes$Pan", "heat", "I", "HighRecipes") (by decide +kernel))) (fun _ h9 => h9) (v := .int (v (54 + 4 * i))) rfl dX12_heatOf_5 ?_
  exact q_iret hx hb hr hlocks hW hS ⟨rfl, hk.eq, rfl⟩ (Nat.le_of_ble_eq_true rfl) (Nat.le_of_ble_eq_true rfl) dX12_heatOf_8

set_option maxHeartbeats 4000000 in
set_option maxRecDepth 100000 in
theorem kX12_doneIn (l : Launch) (E : q_E) (f : q_H) (n : Nat) (x tp pr k ck tr tk : Nat) (ep : Int32) (bk : Nat) (hd v : Nat → Int32) (pn rc : Nat) (ac : Int32) (i : Nat) (hX : f x = some (rX12 (some tp) (some pr) (some k) (some ck) (some tr) (some tk) ep)) (hB : f bk = some (cBook bk (nI pn) (nI rc) ac)) (hk : KIT E f k bk hd v) (hbo : kOut k bk) (hxo : kOut k x) (hpn : pn ≤ 8) (hrc : rc ≤ 6) (hi : i < pn) : Met l yX12_doneIn wsX12_doneIn ({ frames := 2, cells := 0, slots := 0, locals := 43 }) (q_P E [.ref x, .int (nI i)] f n) (q_Qi E (fun r f1 n1 => v (55 + 4 * i) = r ∧ f = f1 ∧ n = n1)) 0 0 (q_ge E) := by
  refine Met.ofW (cc := cX12_doneIn) (maxL := 2) (ret := (some .int)) (by decide) rfl ?_
  intro p e s m args below meth c s₁ B hml hv
  obtain ⟨rfl, hA, hW⟩ := hv
  have hx := B.exec
  have hb := B.bytes
  have hr := B.returns
  have hts := atoms_spec (ws := wsX12_doneIn) B.pre
  have hown : s.vm.findClass RX12 = some m.cls := findClass_of_methodNamed B.named
  have hlocks := B.notSynchronized
  have hS : va_S (q_ge E) s.heap s.heap [] := va_S.rf
  have iX7 : ∀ w ∈ wsX70, w ∈ wsX12_doneIn := by decide +kernel
  have hl := lv_entry ([.ref x, .int (nI i)]) (n := 2) (Nat.le_of_ble_eq_true rfl)
  rw [lg_entry_eq]
  generalize (lg_sl ([.ref x, .int (nI i)]) ++ List.replicate (2 - (lg_sl ([.ref x, .int (nI i)])).length) Slot.unset).toArray = ls at hl ⊢
  have hl : lv_has ls 2 [(0, .ref x), (1, .int (nI i))] := hl
  rw [hk.eq] at hW
  refine lv_aload_n hx hb dX12_doneIn_0 rfl (lv_at hl 0 rfl) ?_
  refine lv_iload_n hx hb dX12_doneIn_1 rfl (lv_at hl 1 rfl) ?_
  refine q_cq (va_runV (As := [.int (nI i)]) (rest := []) ⟨hx, hb, hml, hown, hts⟩ (kX12_requirePan l E (kO E f k bk hd v) n x tp pr k ck tr tk ep bk hd v pn rc ac i ((kO_out hxo).trans hX) ((kO_out hbo).trans hB) kO_K (by assumption) (by assumption) (by assumption) (by assumption) (by assumption)) (cwV 1 hts gX12_doneIn_X12_requirePan rfl rfl rfl (by decide +kernel) ⟨(Nat.le_of_ble_eq_true rfl), (Nat.le_of_ble_eq_true rfl)⟩) (q_pV hA hW hS (ci := 12) rfl ((kO_out hxo).trans hX)) rfl rfl hl.1 rfl (lv_room (Nat.le_of_ble_eq_true rfl)) dX12_doneIn_2 ⟨Nat.le_of_ble_eq_true rfl, Nat.le_of_ble_eq_true rfl⟩) hS (fun r_2 f_2 n_2 H locs hp hW hS => ?_)
  obtain ⟨rfl, rfl, rfl⟩ := hp
  have hW : q_W E (kO E f k bk hd v) n H := hW
  refine q_getN hx hb hts hown hA hW iX7 (kO_p (q_8 hi hpn)) rfl 4 (by decide) (va_Nw.use rfl (hA.2.2.2.1 ("HighRecipes", 127, "HighRecipes$Pan", "done", "I", "HighRecipes") (by decide +kernel))) (fun _ h9 => h9) (v := .int (v (55 + 4 * i))) rfl dX12_doneIn_5 ?_
  exact q_iret hx hb hr hlocks hW hS ⟨rfl, hk.eq, rfl⟩ (Nat.le_of_ble_eq_true rfl) (Nat.le_of_ble_eq_true rfl) dX12_doneIn_8

set_option maxHeartbeats 4000000 in
set_option maxRecDepth 100000 in
theorem kX12_roomIn (l : Launch) (E : q_E) (f : q_H) (n : Nat) (x tp pr k ck tr tk : Nat) (ep : Int32) (bk : Nat) (hd v : Nat → Int32) (pn rc : Nat) (ac : Int32) (i : Nat) (hX : f x = some (rX12 (some tp) (some pr) (some k) (some ck) (some tr) (some tk) ep)) (hB : f bk = some (cBook bk (nI pn) (nI rc) ac)) (hk : KIT E f k bk hd v) (hbo : kOut k bk) (hxo : kOut k x) (hpn : pn ≤ 8) (hrc : rc ≤ 6) (hi : i < pn) : Met l yX12_roomIn wsX12_roomIn ({ frames := 2, cells := 0, slots := 0, locals := 43 }) (q_P E [.ref x, .int (nI i)] f n) (q_Qi E (fun r f1 n1 => hd i - v (52 + 4 * i) - v (53 + 4 * i) = r ∧ f = f1 ∧ n = n1)) 0 0 (q_ge E) := by
  refine Met.ofW (cc := cX12_roomIn) (maxL := 2) (ret := (some .int)) (by decide) rfl ?_
  intro p e s m args below meth c s₁ B hml hv
  obtain ⟨rfl, hA, hW⟩ := hv
  have hx := B.exec
  have hb := B.bytes
  have hr := B.returns
  have hts := atoms_spec (ws := wsX12_roomIn) B.pre
  have hown : s.vm.findClass RX12 = some m.cls := findClass_of_methodNamed B.named
  have hlocks := B.notSynchronized
  have hS : va_S (q_ge E) s.heap s.heap [] := va_S.rf
  have hl := lv_entry ([.ref x, .int (nI i)]) (n := 2) (Nat.le_of_ble_eq_true rfl)
  rw [lg_entry_eq]
  generalize (lg_sl ([.ref x, .int (nI i)]) ++ List.replicate (2 - (lg_sl ([.ref x, .int (nI i)])).length) Slot.unset).toArray = ls at hl ⊢
  have hl : lv_has ls 2 [(0, .ref x), (1, .int (nI i))] := hl
  rw [hk.eq] at hW
  refine lv_aload_n hx hb dX12_roomIn_0 rfl (lv_at hl 0 rfl) ?_
  refine lv_iload_n hx hb dX12_roomIn_1 rfl (lv_at hl 1 rfl) ?_
  refine q_cq (va_runV (As := [.int (nI i)]) (rest := []) ⟨hx, hb, hml, hown, hts⟩ (kX12_requirePan l E (kO E f k bk hd v) n x tp pr k ck tr tk ep bk hd v pn rc ac i ((kO_out hxo).trans hX) ((kO_out hbo).trans hB) kO_K (by assumption) (by assumption) (by assumption) (by assumption) (by assumption)) (cwV 1 hts gX12_roomIn_X12_requirePan rfl rfl rfl (by decide +kernel) ⟨(Nat.le_of_ble_eq_true rfl), (Nat.le_of_ble_eq_true rfl)⟩) (q_pV hA hW hS (ci := 12) rfl ((kO_out hxo).trans hX)) rfl rfl hl.1 rfl (lv_room (Nat.le_of_ble_eq_true rfl)) dX12_roomIn_2 ⟨Nat.le_of_ble_eq_true rfl, Nat.le_of_ble_eq_true rfl⟩) hS (fun r_2 f_2 n_2 H locs hp hW hS => ?_)
  obtain ⟨rfl, rfl, rfl⟩ := hp
  have hW : q_W E (kO E f k bk hd v) n H := hW
  refine q_ci (va_runV (As := []) (rest := []) ⟨hx, hb, hml, hown, hts⟩ (kX7_space l E (kO E f k bk hd v) n (k + 12 + i) (hd i) (v (52 + 4 * i)) (v (53 + 4 * i)) (v (54 + 4 * i)) (v (55 + 4 * i)) (kO_p (q_8 hi hpn))) (cwV 0 hts gX12_roomIn_X7_space rfl rfl rfl (by decide +kernel) ⟨(Nat.le_of_ble_eq_true rfl), (Nat.le_of_ble_eq_true rfl)⟩) (q_pV hA hW hS (ci := 7) rfl (kO_p (q_8 hi hpn))) rfl rfl hl.1 rfl (lv_room (Nat.le_of_ble_eq_true rfl)) dX12_roomIn_5 ⟨Nat.le_of_ble_eq_true rfl, Nat.le_of_ble_eq_true rfl⟩) hS (fun r_5 f_5 n_5 H locs hp hW hS => ?_)
  obtain ⟨rfl, rfl, rfl⟩ := hp
  have hW : q_W E (kO E f k bk hd v) n H := hW
  exact q_iret hx hb hr hlocks hW hS ⟨rfl, hk.eq, rfl⟩ (Nat.le_of_ble_eq_true rfl) (Nat.le_of_ble_eq_true rfl) dX12_roomIn_8

set_option maxHeartbeats 4000000 in
set_option maxRecDepth 100000 in
theorem kX12_boilingAt (l : Launch) (E : q_E) (f : q_H) (n : Nat) (x tp pr k ck tr tk : Nat) (ep : Int32) (y : Int32)  (hin : b_in y 0 60 = true) : Met l yX12_boilingAt wsX12_boilingAt ({ frames := 1, cells := 0, slots := 0, locals := 22 }) (q_P E [.ref x, .int y] f n) (q_Qi E (fun r f1 n1 => z_boil y = r ∧ f = f1 ∧ n = n1)) 0 0 (q_ge E) := by
  refine Met.ofW (cc := cX12_boilingAt) (maxL := 2) (ret := (some .int)) (by decide) rfl ?_
  intro p e s m args below meth c s₁ B hml hv
  obtain ⟨rfl, hA, hW⟩ := hv
  have hx := B.exec
  have hb := B.bytes
  have hr := B.returns
  have hts := atoms_spec (ws := wsX12_boilingAt) B.pre
  have hown : s.vm.findClass RX12 = some m.cls := findClass_of_methodNamed B.named
  have hlocks := B.notSynchronized
  have hS : va_S (q_ge E) s.heap s.heap [] := va_S.rf
  have hl := lv_entry ([.ref x, .int y]) (n := 2) (Nat.le_of_ble_eq_true rfl)
  rw [lg_entry_eq]
  generalize (lg_sl ([.ref x, .int y]) ++ List.replicate (2 - (lg_sl ([.ref x, .int y])).length) Slot.unset).toArray = ls at hl ⊢
  have hl : lv_has ls 2 [(0, .ref x), (1, .int y)] := hl
  refine lv_iload_n hx hb dX12_boilingAt_0 rfl (lv_at hl 1 rfl) ?_
  refine lv_iconst (v := 0) hx hb dX12_boilingAt_1 (by decide) ?_
  refine lv_bipush (v := 60) hx hb dX12_boilingAt_2 (by decide) ?_
  refine q_cv (va_runS (As := [.int y, .int 0, .int 60]) (rest := []) ⟨hx, hb, hml, hown, hts⟩ (kX12_requireWithin l E f n y 0 60 (by assumption)) (va_cwS 3 hts gX12_boilingAt_X12_requireWithin rfl rfl rfl (by decide +kernel) ⟨(Nat.le_of_ble_eq_true rfl), (Nat.le_of_ble_eq_true rfl)⟩) (q_pS hA hW hS) rfl rfl hl.1 rfl (lv_room (Nat.le_of_ble_eq_true rfl)) dX12_boilingAt_4 ⟨Nat.le_of_ble_eq_true rfl, Nat.le_of_ble_eq_true rfl⟩) hS (fun f_4 n_4 H locs hp hW hS => ?_)
  obtain ⟨rfl, rfl⟩ := hp
  have hW : q_W E (f) n H := hW
  refine lv_iload_n hx hb dX12_boilingAt_7 rfl (lv_at hl 1 rfl) ?_
  refine q_ci (va_runS (As := [.int y]) (rest := []) ⟨hx, hb, hml, hown, hts⟩ (kX6_boilingHeatAt l E f n y) (va_cwS 1 hts gX12_boilingAt_X6_boilingHeatAt rfl rfl rfl (by decide +kernel) ⟨(Nat.le_of_ble_eq_true rfl), (Nat.le_of_ble_eq_true rfl)⟩) (q_pS hA hW hS) rfl rfl hl.1 rfl (lv_room (Nat.le_of_ble_eq_true rfl)) dX12_boilingAt_8 ⟨Nat.le_of_ble_eq_true rfl, Nat.le_of_ble_eq_true rfl⟩) hS (fun r_8 f_8 n_8 H locs hp hW hS => ?_)
  obtain ⟨rfl, rfl, rfl⟩ := hp
  have hW : q_W E (f) n H := hW
  exact q_iret hx hb hr hlocks hW hS ⟨rfl, rfl, rfl⟩ (Nat.le_of_ble_eq_true rfl) (Nat.le_of_ble_eq_true rfl) dX12_boilingAt_11

set_option maxHeartbeats 4000000 in
set_option maxRecDepth 100000 in
theorem kX12_minutesAt (l : Launch) (E : q_E) (f : q_H) (n : Nat) (x tp pr k ck tr tk : Nat) (ep : Int32) (y a : Int32)  (hin : b_in y 0 999 = true) (hin2 : b_in a 0 60 = true) : Met l yX12_minutesAt wsX12_minutesAt ({ frames := 3, cells := 0, slots := 0, locals := 61 }) (q_P E [.ref x, .int y, .int a] f n) (q_Qi E (fun r f1 n1 => z_long y a = r ∧ f = f1 ∧ n = n1)) 0 0 (q_ge E) := by
  refine Met.ofW (cc := cX12_minutesAt) (maxL := 3) (ret := (some .int)) (by decide) rfl ?_
  intro p e s m args below meth c s₁ B hml hv
  obtain ⟨rfl, hA, hW⟩ := hv
  have hx := B.exec
  have hb := B.bytes
  have hr := B.returns
  have hts := atoms_spec (ws := wsX12_minutesAt) B.pre
  have hown : s.vm.findClass RX12 = some m.cls := findClass_of_methodNamed B.named
  have hlocks := B.notSynchronized
  have hS : va_S (q_ge E) s.heap s.heap [] := va_S.rf
  have hl := lv_entry ([.ref x, .int y, .int a]) (n := 3) (Nat.le_of_ble_eq_true rfl)
  rw [lg_entry_eq]
  generalize (lg_sl ([.ref x, .int y, .int a]) ++ List.replicate (3 - (lg_sl ([.ref x, .int y, .int a])).length) Slot.unset).toArray = ls at hl ⊢
  have hl : lv_has ls 3 [(0, .ref x), (1, .int y), (2, .int a)] := hl
  refine lv_iload_n hx hb dX12_minutesAt_0 rfl (lv_at hl 1 rfl) ?_
  refine lv_iconst (v := 0) hx hb dX12_minutesAt_1 (by decide) ?_
  refine lv_sipush (v := 999) hx hb dX12_minutesAt_2 (by decide) ?_
  refine q_cv (va_runS (As := [.int y, .int 0, .int 999]) (rest := []) ⟨hx, hb, hml, hown, hts⟩ (kX12_requireWithin l E f n y 0 999 (by assumption)) (va_cwS 3 hts gX12_minutesAt_X12_requireWithin rfl rfl rfl (by decide +kernel) ⟨(Nat.le_of_ble_eq_true rfl), (Nat.le_of_ble_eq_true rfl)⟩) (q_pS hA hW hS) rfl rfl hl.1 rfl (lv_room (Nat.le_of_ble_eq_true rfl)) dX12_minutesAt_5 ⟨Nat.le_of_ble_eq_true rfl, Nat.le_of_ble_eq_true rfl⟩) hS (fun f_5 n_5 H locs hp hW hS => ?_)
  obtain ⟨rfl, rfl⟩ := hp
  have hW : q_W E (f) n H := hW
  refine lv_iload_n hx hb dX12_minutesAt_8 rfl (lv_at hl 2 rfl) ?_
  refine lv_iconst (v := 0) hx hb dX12_minutesAt_9 (by decide) ?_
  refine lv_bipush (v := 60) hx hb dX12_minutesAt_10 (by decide) ?_
  refine q_cv (va_runS (As := [.int a, .int 0, .int 60]) (rest := []) ⟨hx, hb, hml, hown, hts⟩ (kX12_requireWithin l E f n a 0 60 (by assumption)) (va_cwS 3 hts gX12_minutesAt_X12_requireWithin rfl rfl rfl (by decide +kernel) ⟨(Nat.le_of_ble_eq_true rfl), (Nat.le_of_ble_eq_true rfl)⟩) (q_pS hA hW hS) rfl rfl hl.1 rfl (lv_room (Nat.le_of_ble_eq_true rfl)) dX12_minutesAt_12 ⟨Nat.le_of_ble_eq_true rfl, Nat.le_of_ble_eq_true rfl⟩) hS (fun f_12 n_12 H locs hp hW hS => ?_)
  obtain ⟨rfl, rfl⟩ := hp
  have hW : q_W E (f) n H := hW
  refine lv_iload_n hx hb dX12_minutesAt_15 rfl (lv_at hl 1 rfl) ?_
  refine lv_iload_n hx hb dX12_minutesAt_16 rfl (lv_at hl 2 rfl) ?_
  refine q_ci (va_runS (As := [.int y, .int a]) (rest := []) ⟨hx, hb, hml, hown, hts⟩ (kX6_boilingMinutes l E f n y a) (va_cwS 2 hts gX12_minutesAt_X6_boilingMinutes rfl rfl rfl (by decide +kernel) ⟨(Nat.le_of_ble_eq_true rfl), (Nat.le_of_ble_eq_true rfl)⟩) (q_pS hA hW hS) rfl rfl hl.1 rfl (lv_room (Nat.le_of_ble_eq_true rfl)) dX12_minutesAt_17 ⟨Nat.le_of_ble_eq_true rfl, Nat.le_of_ble_eq_true rfl⟩) hS (fun r_17 f_17 n_17 H locs hp hW hS => ?_)
  obtain ⟨rfl, rfl, rfl⟩ := hp
  have hW : q_W E (f) n H := hW
  exact q_iret hx hb hr hlocks hW hS ⟨rfl, rfl, rfl⟩ (Nat.le_of_ble_eq_true rfl) (Nat.le_of_ble_eq_true rfl) dX12_minutesAt_20

set_option maxHeartbeats 4000000 in
set_option maxRecDepth 100000 in
theorem kX12_amountFor (l : Launch) (E : q_E) (f : q_H) (n : Nat) (x tp pr k ck tr tk : Nat) (ep : Int32) (bk : Nat) (hd v : Nat → Int32) (pn rc : Nat) (ac : Int32) (y : Int32) (hX : f x = some (rX12 (some tp) (some pr) (some k) (some ck) (some tr) (some tk) ep)) (hB : f bk = some (cBook bk (nI pn) (nI rc) ac)) (hk : KIT E f k bk hd v) (hbo : kOut k bk) (hxo : kOut k x) (hpn : pn ≤ 8) (hrc : rc ≤ 6) (hin : b_in y 0 999 = true) : Met l yX12_amountFor wsX12_amountFor ({ frames := 3, cells := 0, slots := 0, locals := 65 }) (q_P E [.ref x, .int y] f n) (q_Qi E (fun r f1 n1 => z_tr v y = r ∧ f = f1 ∧ n = n1)) 0 0 (q_ge E) := by
  refine Met.ofW (cc := cX12_amountFor) (maxL := 2) (ret := (some .int)) (by decide) rfl ?_
  intro p e s m args below meth c s₁ B hml hv
  obtain ⟨rfl, hA, hW⟩ := hv
  have hx := B.exec
  have hb := B.bytes
  have hr := B.returns
  have hts := atoms_spec (ws := wsX12_amountFor) B.pre
  have hown : s.vm.findClass RX12 = some m.cls := findClass_of_methodNamed B.named
  have hlocks := B.notSynchronized
  have hS : va_S (q_ge E) s.heap s.heap [] := va_S.rf
  have iX12 : ∀ w ∈ wsX120, w ∈ wsX12_amountFor := by decide +kernel
  have hl := lv_entry ([.ref x, .int y]) (n := 2) (Nat.le_of_ble_eq_true rfl)
  rw [lg_entry_eq]
  generalize (lg_sl ([.ref x, .int y]) ++ List.replicate (2 - (lg_sl ([.ref x, .int y])).length) Slot.unset).toArray = ls at hl ⊢
  have hl : lv_has ls 2 [(0, .ref x), (1, .int y)] := hl
  rw [hk.eq] at hW
  refine lv_iload_n hx hb dX12_amountFor_0 rfl (lv_at hl 1 rfl) ?_
  refine lv_iconst (v := 0) hx hb dX12_amountFor_1 (by decide) ?_
  refine lv_sipush (v := 999) hx hb dX12_amountFor_2 (by decide) ?_
  refine q_cv (va_runS (As := [.int y, .int 0, .int 999]) (rest := []) ⟨hx, hb, hml, hown, hts⟩ (kX12_requireWithin l E (kO E f k bk hd v) n y 0 999 (by assumption)) (va_cwS 3 hts gX12_amountFor_X12_requireWithin rfl rfl rfl (by decide +kernel) ⟨(Nat.le_of_ble_eq_true rfl), (Nat.le_of_ble_eq_true rfl)⟩) (q_pS hA hW hS) rfl rfl hl.1 rfl (lv_room (Nat.le_of_ble_eq_true rfl)) dX12_amountFor_5 ⟨Nat.le_of_ble_eq_true rfl, Nat.le_of_ble_eq_true rfl⟩) hS (fun f_5 n_5 H locs hp hW hS => ?_)
  obtain ⟨rfl, rfl⟩ := hp
  have hW : q_W E (kO E f k bk hd v) n H := hW
  refine lv_aload_n hx hb dX12_amountFor_8 rfl (lv_at hl 0 rfl) ?_
  refine q_get hx hb hts hown hA hW iX12 ((kO_out hxo).trans hX) rfl 2 (by decide) (hts (.fieldLink RX12 26 "HighRecipes" "kitchen" "LHighRecipes$Kitchen;") (by decide +kernel)) (fun _ h9 => h9) (v := .ref k) rfl dX12_amountFor_9 ?_
  refine lv_iload_n hx hb dX12_amountFor_12 rfl (lv_at hl 1 rfl) ?_
  refine q_ci (va_runV (As := [.int y]) (rest := []) ⟨hx, hb, hml, hown, hts⟩ (kX6_translated l E (kO E f k bk hd v) n k bk hd v y kO_K) (cwV 1 hts gX12_amountFor_X6_translated rfl rfl rfl (by decide +kernel) ⟨(Nat.le_of_ble_eq_true rfl), (Nat.le_of_ble_eq_true rfl)⟩) (q_pV hA hW hS (ci := 6) rfl kO_0) rfl rfl hl.1 rfl (lv_room (Nat.le_of_ble_eq_true rfl)) dX12_amountFor_13 ⟨Nat.le_of_ble_eq_true rfl, Nat.le_of_ble_eq_true rfl⟩) hS (fun r_13 f_13 n_13 H locs hp hW hS => ?_)
  obtain ⟨rfl, rfl, rfl⟩ := hp
  have hW : q_W E (kO E f k bk hd v) n H := hW
  exact q_iret hx hb hr hlocks hW hS ⟨rfl, hk.eq, rfl⟩ (Nat.le_of_ble_eq_true rfl) (Nat.le_of_ble_eq_true rfl) dX12_amountFor_16

set_option maxHeartbeats 4000000 in
set_option maxRecDepth 100000 in
theorem kX12_warningsOf (l : Launch) (E : q_E) (f : q_H) (n : Nat) (x tp pr k ck tr tk : Nat) (ep : Int32) (bk : Nat) (hd v : Nat → Int32) (pn rc : Nat) (ac : Int32) (kd : Nat) (hX : f x = some (rX12 (some tp) (some pr) (some k) (some ck) (some tr) (some tk) ep)) (hB : f bk = some (cBook bk (nI pn) (nI rc) ac)) (hk : KIT E f k bk hd v) (hbo : kOut k bk) (hxo : kOut k x) (hpn : pn ≤ 8) (hrc : rc ≤ 6) (hin : b_in (nI kd) 1 5 = true) (hkd : kd < 6) : Met l yX12_warningsOf wsX12_warningsOf ({ frames := 1, cells := 0, slots := 0, locals := 22 }) (q_P E [.ref x, .int (nI kd)] f n) (q_Qi E (fun r f1 n1 => v (6 + kd) = r ∧ f = f1 ∧ n = n1)) 0 0 (q_ge E) := by
  refine Met.ofW (cc := cX12_warningsOf) (maxL := 2) (ret := (some .int)) (by decide) rfl ?_
  intro p e s m args below meth c s₁ B hml hv
  obtain ⟨rfl, hA, hW⟩ := hv
  have hx := B.exec
  have hb := B.bytes
  have hr := B.returns
  have hts := atoms_spec (ws := wsX12_warningsOf) B.pre
  have hown : s.vm.findClass RX12 = some m.cls := findClass_of_methodNamed B.named
  have hlocks := B.notSynchronized
  have hS : va_S (q_ge E) s.heap s.heap [] := va_S.rf
  have iX12 : ∀ w ∈ wsX120, w ∈ wsX12_warningsOf := by decide +kernel
  have hl := lv_entry ([.ref x, .int (nI kd)]) (n := 2) (Nat.le_of_ble_eq_true rfl)
  rw [lg_entry_eq]
  generalize (lg_sl ([.ref x, .int (nI kd)]) ++ List.replicate (2 - (lg_sl ([.ref x, .int (nI kd)])).length) Slot.unset).toArray = ls at hl ⊢
  have hl : lv_has ls 2 [(0, .ref x), (1, .int (nI kd))] := hl
  rw [hk.eq] at hW
  refine lv_iload_n hx hb dX12_warningsOf_0 rfl (lv_at hl 1 rfl) ?_
  refine lv_iconst (v := 1) hx hb dX12_warningsOf_1 (by decide) ?_
  refine lv_iconst (v := 5) hx hb dX12_warningsOf_2 (by decide) ?_
  refine q_cv (va_runS (As := [.int (nI kd), .int 1, .int 5]) (rest := []) ⟨hx, hb, hml, hown, hts⟩ (kX12_requireWithin l E (kO E f k bk hd v) n (nI kd) 1 5 (by assumption)) (va_cwS 3 hts gX12_warningsOf_X12_requireWithin rfl rfl rfl (by decide +kernel) ⟨(Nat.le_of_ble_eq_true rfl), (Nat.le_of_ble_eq_true rfl)⟩) (q_pS hA hW hS) rfl rfl hl.1 rfl (lv_room (Nat.le_of_ble_eq_true rfl)) dX12_warningsOf_3 ⟨Nat.le_of_ble_eq_true rfl, Nat.le_of_ble_eq_true rfl⟩) hS (fun f_3 n_3 H locs hp hW hS => ?_)
  obtain ⟨rfl, rfl⟩ := hp
  have hW : q_W E (kO E f k bk hd v) n H := hW
  refine lv_aload_n hx hb dX12_warningsOf_6 rfl (lv_at hl 0 rfl) ?_
  refine q_get hx hb hts hown hA hW iX12 ((kO_out hxo).trans hX) rfl 2 (by decide) (hts (.fieldLink RX12 26 "HighRecipes" "kitchen" "LHighRecipes$Kitchen;") (by decide +kernel)) (fun _ h9 => h9) (v := .ref k) rfl dX12_warningsOf_7 ?_
  refine lv_iload_n hx hb dX12_warningsOf_10 rfl (lv_at hl 1 rfl) ?_
  refine q_ci (va_runV (As := [.int (nI kd)]) (rest := []) ⟨hx, hb, hml, hown, hts⟩ (kX6_warningsOfKind l E (kO E f k bk hd v) n k bk hd v kd kO_K (by assumption)) (cwV 1 hts gX12_warningsOf_X6_warningsOfKind rfl rfl rfl (by decide +kernel) ⟨(Nat.le_of_ble_eq_true rfl), (Nat.le_of_ble_eq_true rfl)⟩) (q_pV hA hW hS (ci := 6) rfl kO_0) rfl rfl hl.1 rfl (lv_room (Nat.le_of_ble_eq_true rfl)) dX12_warningsOf_11 ⟨Nat.le_of_ble_eq_true rfl, Nat.le_of_ble_eq_true rfl⟩) hS (fun r_11 f_11 n_11 H locs hp hW hS => ?_)
  obtain ⟨rfl, rfl, rfl⟩ := hp
  have hW : q_W E (kO E f k bk hd v) n H := hW
  exact q_iret hx hb hr hlocks hW hS ⟨rfl, hk.eq, rfl⟩ (Nat.le_of_ble_eq_true rfl) (Nat.le_of_ble_eq_true rfl) dX12_warningsOf_14

set_option maxHeartbeats 4000000 in
set_option maxRecDepth 100000 in
theorem kX12_setAltitude (l : Launch) (E : q_E) (f : q_H) (n : Nat) (x tp pr k ck tr tk : Nat) (ep : Int32) (bk : Nat) (hd v : Nat → Int32) (pn rc : Nat) (ac : Int32) (y : Int32) (hX : f x = some (rX12 (some tp) (some pr) (some k) (some ck) (some tr) (some tk) ep)) (hB : f bk = some (cBook bk (nI pn) (nI rc) ac)) (hk : KIT E f k bk hd v) (hbo : kOut k bk) (hxo : kOut k x) (hpn : pn ≤ 8) (hrc : rc ≤ 6) (hin : b_in y 0 60 = true) : Met l yX12_setAltitude wsX12_setAltitude ({ frames := 3, cells := 0, slots := 0, locals := 63 }) (q_P E [.ref x, .int y] f n) (q_Qi E (fun r f1 n1 => v 0 = r ∧ kO E f k bk hd (z_move v y pn) = f1 ∧ n = n1)) 0 0 (q_ge E) := by
  refine Met.ofW (cc := cX12_setAltitude) (maxL := 3) (ret := (some .int)) (by decide) rfl ?_
  intro p e s m args below meth c s₁ B hml hv
  obtain ⟨rfl, hA, hW⟩ := hv
  have hx := B.exec
  have hb := B.bytes
  have hr := B.returns
  have hts := atoms_spec (ws := wsX12_setAltitude) B.pre
  have hown : s.vm.findClass RX12 = some m.cls := findClass_of_methodNamed B.named
  have hlocks := B.notSynchronized
  have hS : va_S (q_ge E) s.heap s.heap [] := va_S.rf
  have iX12 : ∀ w ∈ wsX120, w ∈ wsX12_setAltitude := by decide +kernel
  have iX6 : ∀ w ∈ wsX60, w ∈ wsX12_setAltitude := by decide +kernel
  have hl := lv_entry ([.ref x, .int y]) (n := 3) (Nat.le_of_ble_eq_true rfl)
  rw [lg_entry_eq]
  generalize (lg_sl ([.ref x, .int y]) ++ List.replicate (3 - (lg_sl ([.ref x, .int y])).length) Slot.unset).toArray = ls at hl ⊢
  have hl : lv_has ls 3 [(0, .ref x), (1, .int y)] := hl
  rw [hk.eq] at hW
  refine lv_iload_n hx hb dX12_setAltitude_0 rfl (lv_at hl 1 rfl) ?_
  refine lv_iconst (v := 0) hx hb dX12_setAltitude_1 (by decide) ?_
  refine lv_bipush (v := 60) hx hb dX12_setAltitude_2 (by decide) ?_
  refine q_cv (va_runS (As := [.int y, .int 0, .int 60]) (rest := []) ⟨hx, hb, hml, hown, hts⟩ (kX12_requireWithin l E (kO E f k bk hd v) n y 0 60 (by assumption)) (va_cwS 3 hts gX12_setAltitude_X12_requireWithin rfl rfl rfl (by decide +kernel) ⟨(Nat.le_of_ble_eq_true rfl), (Nat.le_of_ble_eq_true rfl)⟩) (q_pS hA hW hS) rfl rfl hl.1 rfl (lv_room (Nat.le_of_ble_eq_true rfl)) dX12_setAltitude_4 ⟨Nat.le_of_ble_eq_true rfl, Nat.le_of_ble_eq_true rfl⟩) hS (fun f_4 n_4 H locs hp hW hS => ?_)
  obtain ⟨rfl, rfl⟩ := hp
  have hW : q_W E (kO E f k bk hd v) n H := hW
  refine lv_aload_n hx hb dX12_setAltitude_7 rfl (lv_at hl 0 rfl) ?_
  refine q_get hx hb hts hown hA hW iX12 ((kO_out hxo).trans hX) rfl 2 (by decide) (hts (.fieldLink RX12 26 "HighRecipes" "kitchen" "LHighRecipes$Kitchen;") (by decide +kernel)) (fun _ h9 => h9) (v := .ref k) rfl dX12_setAltitude_8 ?_
  refine q_getN hx hb hts hown hA hW iX6 kO_0 rfl 5 (by decide) (va_Nw.use rfl (hA.2.2.2.1 ("HighRecipes", 94, "HighRecipes$Kitchen", "altitude", "I", "HighRecipes") (by decide +kernel))) (fun _ h9 => h9) (v := .int (v 0)) rfl dX12_setAltitude_11 ?_
  refine lv_istore_n (lv' := [(2, .int (v 0)), (0, .ref x), (1, .int y)]) hx hb dX12_setAltitude_14 rfl hl (by decide) rfl (fun ls hl => ?_)
  refine lv_aload_n hx hb dX12_setAltitude_15 rfl (lv_at hl 1 rfl) ?_
  refine q_get hx hb hts hown hA hW iX12 ((kO_out hxo).trans hX) rfl 2 (by decide) (hts (.fieldLink RX12 26 "HighRecipes" "kitchen" "LHighRecipes$Kitchen;") (by decide +kernel)) (fun _ h9 => h9) (v := .ref k) rfl dX12_setAltitude_16 ?_
  refine lv_iload_n hx hb dX12_setAltitude_19 rfl (lv_at hl 2 rfl) ?_
  refine q_cv (va_runV (As := [.int y]) (rest := []) ⟨hx, hb, hml, hown, hts⟩ (kX6_moveTo l E (kO E f k bk hd v) n k bk hd v pn (nI rc) ac y ((kO_out hbo).trans hB) kO_K (by assumption) (by assumption)) (cwV 1 hts gX12_setAltitude_X6_moveTo rfl rfl rfl (by decide +kernel) ⟨(Nat.le_of_ble_eq_true rfl), (Nat.le_of_ble_eq_true rfl)⟩) (q_pV hA hW hS (ci := 6) rfl kO_0) rfl rfl hl.1 rfl (lv_room (Nat.le_of_ble_eq_true rfl)) dX12_setAltitude_20 ⟨Nat.le_of_ble_eq_true rfl, Nat.le_of_ble_eq_true rfl⟩) hS (fun f_20 n_20 H locs hp hW hS => ?_)
  obtain ⟨rfl, rfl⟩ := hp
  rw [kO_kO] at hW
  have hW : q_W E (kO E f k bk hd (z_move v y pn)) n H := hW
  refine lv_iload_n hx hb dX12_setAltitude_23 rfl (lv_at hl 0 rfl) ?_
  exact q_iret hx hb hr hlocks hW hS ⟨rfl, rfl, rfl⟩ (Nat.le_of_ble_eq_true rfl) (Nat.le_of_ble_eq_true rfl) dX12_setAltitude_24

set_option maxHeartbeats 4000000 in
set_option maxRecDepth 100000 in
theorem kX12_setServings (l : Launch) (E : q_E) (f : q_H) (n : Nat) (x tp pr k ck tr tk : Nat) (ep : Int32) (bk : Nat) (hd v : Nat → Int32) (pn rc : Nat) (ac : Int32) (y : Int32) (hX : f x = some (rX12 (some tp) (some pr) (some k) (some ck) (some tr) (some tk) ep)) (hB : f bk = some (cBook bk (nI pn) (nI rc) ac)) (hk : KIT E f k bk hd v) (hbo : kOut k bk) (hxo : kOut k x) (hpn : pn ≤ 8) (hrc : rc ≤ 6) (hin : b_in y 1 12 = true) : Met l yX12_setServings wsX12_setServings ({ frames := 1, cells := 0, slots := 0, locals := 22 }) (q_P E [.ref x, .int y] f n) (q_Qi E (fun r f1 n1 => v 1 = r ∧ kO E f k bk hd (upd v 1 y) = f1 ∧ n = n1)) 0 0 (q_ge E) := by
  refine Met.ofW (cc := cX12_setServings) (maxL := 3) (ret := (some .int)) (by decide) rfl ?_
  intro p e s m args below meth c s₁ B hml hv
  obtain ⟨rfl, hA, hW⟩ := hv
  have hx := B.exec
  have hb := B.bytes
  have hr := B.returns
  have hts := atoms_spec (ws := wsX12_setServings) B.pre
  have hown : s.vm.findClass RX12 = some m.cls := findClass_of_methodNamed B.named
  have hlocks := B.notSynchronized
  have hS : va_S (q_ge E) s.heap s.heap [] := va_S.rf
  have iX12 : ∀ w ∈ wsX120, w ∈ wsX12_setServings := by decide +kernel
  have iX6 : ∀ w ∈ wsX60, w ∈ wsX12_setServings := by decide +kernel
  have hl := lv_entry ([.ref x, .int y]) (n := 3) (Nat.le_of_ble_eq_true rfl)
  rw [lg_entry_eq]
  generalize (lg_sl ([.ref x, .int y]) ++ List.replicate (3 - (lg_sl ([.ref x, .int y])).length) Slot.unset).toArray = ls at hl ⊢
  have hl : lv_has ls 3 [(0, .ref x), (1, .int y)] := hl
  rw [hk.eq] at hW
  refine lv_iload_n hx hb dX12_setServings_0 rfl (lv_at hl 1 rfl) ?_
  refine lv_iconst (v := 1) hx hb dX12_setServings_1 (by decide) ?_
  refine lv_bipush (v := 12) hx hb dX12_setServings_2 (by decide) ?_
  refine q_cv (va_runS (As := [.int y, .int 1, .int 12]) (rest := []) ⟨hx, hb, hml, hown, hts⟩ (kX12_requireWithin l E (kO E f k bk hd v) n y 1 12 (by assumption)) (va_cwS 3 hts gX12_setServings_X12_requireWithin rfl rfl rfl (by decide +kernel) ⟨(Nat.le_of_ble_eq_true rfl), (Nat.le_of_ble_eq_true rfl)⟩) (q_pS hA hW hS) rfl rfl hl.1 rfl (lv_room (Nat.le_of_ble_eq_true rfl)) dX12_setServings_4 ⟨Nat.le_of_ble_eq_true rfl, Nat.le_of_ble_eq_true rfl⟩) hS (fun f_4 n_4 H locs hp hW hS => ?_)
  obtain ⟨rfl, rfl⟩ := hp
  have hW : q_W E (kO E f k bk hd v) n H := hW
  refine lv_aload_n hx hb dX12_setServings_7 rfl (lv_at hl 0 rfl) ?_
  refine q_get hx hb hts hown hA hW iX12 ((kO_out hxo).trans hX) rfl 2 (by decide) (hts (.fieldLink RX12 26 "HighRecipes" "kitchen" "LHighRecipes$Kitchen;") (by decide +kernel)) (fun _ h9 => h9) (v := .ref k) rfl dX12_setServings_8 ?_
  refine q_getN hx hb hts hown hA hW iX6 kO_0 rfl 6 (by decide) (va_Nw.use rfl (hA.2.2.2.1 ("HighRecipes", 100, "HighRecipes$Kitchen", "servings", "I", "HighRecipes") (by decide +kernel))) (fun _ h9 => h9) (v := .int (v 1)) rfl dX12_setServings_11 ?_
  refine lv_istore_n (lv' := [(2, .int (v 1)), (0, .ref x), (1, .int y)]) hx hb dX12_setServings_14 rfl hl (by decide) rfl (fun ls hl => ?_)
  refine lv_aload_n hx hb dX12_setServings_15 rfl (lv_at hl 1 rfl) ?_
  refine q_get hx hb hts hown hA hW iX12 ((kO_out hxo).trans hX) rfl 2 (by decide) (hts (.fieldLink RX12 26 "HighRecipes" "kitchen" "LHighRecipes$Kitchen;") (by decide +kernel)) (fun _ h9 => h9) (v := .ref k) rfl dX12_setServings_16 ?_
  refine lv_iload_n hx hb dX12_setServings_19 rfl (lv_at hl 2 rfl) ?_
  refine q_putN hx hb hts hown hA hW hS iX6 tyX6 tyX6_ok nmX6 kO_0 rfl 6 (by decide) (va_Nw.use rfl (hA.2.2.2.1 ("HighRecipes", 100, "HighRecipes$Kitchen", "servings", "I", "HighRecipes") (by decide +kernel))) (fun _ h9 => h9) rfl rfl rfl (Nat.le_of_ble_eq_true rfl) dX12_setServings_20 (fun H locs hW hS => ?_)
  have hW : q_W E (va_up (kO E f k bk hd v) k (some (cKit k bk (upd v 1 y)))) n H := hW
  rw [kO_s0 (fun j hj => z_un (by omega))] at hW
  refine lv_iload_n hx hb dX12_setServings_23 rfl (lv_at hl 0 rfl) ?_
  exact q_iret hx hb hr hlocks hW hS ⟨rfl, rfl, rfl⟩ (Nat.le_of_ble_eq_true rfl) (Nat.le_of_ble_eq_true rfl) dX12_setServings_24

set_option maxHeartbeats 4000000 in
set_option maxRecDepth 100000 in
theorem kX12_setSpoon (l : Launch) (E : q_E) (f : q_H) (n : Nat) (x tp pr k ck tr tk : Nat) (ep : Int32) (bk : Nat) (hd v : Nat → Int32) (pn rc : Nat) (ac : Int32) (y : Int32) (hX : f x = some (rX12 (some tp) (some pr) (some k) (some ck) (some tr) (some tk) ep)) (hB : f bk = some (cBook bk (nI pn) (nI rc) ac)) (hk : KIT E f k bk hd v) (hbo : kOut k bk) (hxo : kOut k x) (hpn : pn ≤ 8) (hrc : rc ≤ 6) (hin : b_in y 1 10 = true) : Met l yX12_setSpoon wsX12_setSpoon ({ frames := 1, cells := 0, slots := 0, locals := 22 }) (q_P E [.ref x, .int y] f n) (q_Qi E (fun r f1 n1 => v 2 = r ∧ kO E f k bk hd (upd v 2 y) = f1 ∧ n = n1)) 0 0 (q_ge E) := by
  refine Met.ofW (cc := cX12_setSpoon) (maxL := 3) (ret := (some .int)) (by decide) rfl ?_
  intro p e s m args below meth c s₁ B hml hv
  obtain ⟨rfl, hA, hW⟩ := hv
  have hx := B.exec
  have hb := B.bytes
  have hr := B.returns
  have hts := atoms_spec (ws := wsX12_setSpoon) B.pre
  have hown : s.vm.findClass RX12 = some m.cls := findClass_of_methodNamed B.named
  have hlocks := B.notSynchronized
  have hS : va_S (q_ge E) s.heap s.heap [] := va_S.rf
  have iX12 : ∀ w ∈ wsX120, w ∈ wsX12_setSpoon := by decide +kernel
  have iX6 : ∀ w ∈ wsX60, w ∈ wsX12_setSpoon := by decide +kernel
  have hl := lv_entry ([.ref x, .int y]) (n := 3) (Nat.le_of_ble_eq_true rfl)
  rw [lg_entry_eq]
  generalize (lg_sl ([.ref x, .int y]) ++ List.replicate (3 - (lg_sl ([.ref x, .int y])).length) Slot.unset).toArray = ls at hl ⊢
  have hl : lv_has ls 3 [(0, .ref x), (1, .int y)] := hl
  rw [hk.eq] at hW
  refine lv_iload_n hx hb dX12_setSpoon_0 rfl (lv_at hl 1 rfl) ?_
  refine lv_iconst (v := 1) hx hb dX12_setSpoon_1 (by decide) ?_
  refine lv_bipush (v := 10) hx hb dX12_setSpoon_2 (by decide) ?_
  refine q_cv (va_runS (As := [.int y, .int 1, .int 10]) (rest := []) ⟨hx, hb, hml, hown, hts⟩ (kX12_requireWithin l E (kO E f k bk hd v) n y 1 10 (by assumption)) (va_cwS 3 hts gX12_setSpoon_X12_requireWithin rfl rfl rfl (by decide +kernel) ⟨(Nat.le_of_ble_eq_true rfl), (Nat.le_of_ble_eq_true rfl)⟩) (q_pS hA hW hS) rfl rfl hl.1 rfl (lv_room (Nat.le_of_ble_eq_true rfl)) dX12_setSpoon_4 ⟨Nat.le_of_ble_eq_true rfl, Nat.le_of_ble_eq_true rfl⟩) hS (fun f_4 n_4 H locs hp hW hS => ?_)
  obtain ⟨rfl, rfl⟩ := hp
  have hW : q_W E (kO E f k bk hd v) n H := hW
  refine lv_aload_n hx hb dX12_setSpoon_7 rfl (lv_at hl 0 rfl) ?_
  refine q_get hx hb hts hown hA hW iX12 ((kO_out hxo).trans hX) rfl 2 (by decide) (hts (.fieldLink RX12 26 "HighRecipes" "kitchen" "LHighRecipes$Kitchen;") (by decide +kernel)) (fun _ h9 => h9) (v := .ref k) rfl dX12_setSpoon_8 ?_
  refine q_getN hx hb hts hown hA hW iX6 kO_0 rfl 7 (by decide) (va_Nw.use rfl (hA.2.2.2.1 ("HighRecipes", 103, "HighRecipes$Kitchen", "spoon", "I", "HighRecipes") (by decide +kernel))) (fun _ h9 => h9) (v := .int (v 2)) rfl dX12_setSpoon_11 ?_
  refine lv_istore_n (lv' := [(2, .int (v 2)), (0, .ref x), (1, .int y)]) hx hb dX12_setSpoon_14 rfl hl (by decide) rfl (fun ls hl => ?_)
  refine lv_aload_n hx hb dX12_setSpoon_15 rfl (lv_at hl 1 rfl) ?_
  refine q_get hx hb hts hown hA hW iX12 ((kO_out hxo).trans hX) rfl 2 (by decide) (hts (.fieldLink RX12 26 "HighRecipes" "kitchen" "LHighRecipes$Kitchen;") (by decide +kernel)) (fun _ h9 => h9) (v := .ref k) rfl dX12_setSpoon_16 ?_
  refine lv_iload_n hx hb dX12_setSpoon_19 rfl (lv_at hl 2 rfl) ?_
  refine q_putN hx hb hts hown hA hW hS iX6 tyX6 tyX6_ok nmX6 kO_0 rfl 7 (by decide) (va_Nw.use rfl (hA.2.2.2.1 ("HighRecipes", 103, "HighRecipes$Kitchen", "spoon", "I", "HighRecipes") (by decide +kernel))) (fun _ h9 => h9) rfl rfl rfl (Nat.le_of_ble_eq_true rfl) dX12_setSpoon_20 (fun H locs hW hS => ?_)
  have hW : q_W E (va_up (kO E f k bk hd v) k (some (cKit k bk (upd v 2 y)))) n H := hW
  rw [kO_s0 (fun j hj => z_un (by omega))] at hW
  refine lv_iload_n hx hb dX12_setSpoon_23 rfl (lv_at hl 0 rfl) ?_
  exact q_iret hx hb hr hlocks hW hS ⟨rfl, rfl, rfl⟩ (Nat.le_of_ble_eq_true rfl) (Nat.le_of_ble_eq_true rfl) dX12_setSpoon_24

set_option maxHeartbeats 4000000 in
set_option maxRecDepth 100000 in
theorem kX12_rest (l : Launch) (E : q_E) (f : q_H) (n : Nat) (x tp pr k ck tr tk : Nat) (ep : Int32) (bk : Nat) (hd v : Nat → Int32) (pn rc : Nat) (ac : Int32) (y : Int32) (hX : f x = some (rX12 (some tp) (some pr) (some k) (some ck) (some tr) (some tk) ep)) (hB : f bk = some (cBook bk (nI pn) (nI rc) ac)) (hk : KIT E f k bk hd v) (hbo : kOut k bk) (hxo : kOut k x) (hpn : pn ≤ 8) (hrc : rc ≤ 6) (hin : b_in y 1 600 = true) : Met l yX12_rest wsX12_rest ({ frames := 3, cells := 0, slots := 0, locals := 66 }) (q_P E [.ref x, .int y] f n) (q_Qi E (fun r f1 n1 => z_hot (z_pass v y 8 pn) pn = r ∧ kO E f k bk hd (z_pass v y 8 pn) = f1 ∧ n = n1)) 0 0 (q_ge E) := by
  refine Met.ofW (cc := cX12_rest) (maxL := 2) (ret := (some .int)) (by decide) rfl ?_
  intro p e s m args below meth c s₁ B hml hv
  obtain ⟨rfl, hA, hW⟩ := hv
  have hx := B.exec
  have hb := B.bytes
  have hr := B.returns
  have hts := atoms_spec (ws := wsX12_rest) B.pre
  have hown : s.vm.findClass RX12 = some m.cls := findClass_of_methodNamed B.named
  have hlocks := B.notSynchronized
  have hS : va_S (q_ge E) s.heap s.heap [] := va_S.rf
  have iX12 : ∀ w ∈ wsX120, w ∈ wsX12_rest := by decide +kernel
  have hl := lv_entry ([.ref x, .int y]) (n := 2) (Nat.le_of_ble_eq_true rfl)
  rw [lg_entry_eq]
  generalize (lg_sl ([.ref x, .int y]) ++ List.replicate (2 - (lg_sl ([.ref x, .int y])).length) Slot.unset).toArray = ls at hl ⊢
  have hl : lv_has ls 2 [(0, .ref x), (1, .int y)] := hl
  rw [hk.eq] at hW
  refine lv_iload_n hx hb dX12_rest_0 rfl (lv_at hl 1 rfl) ?_
  refine lv_iconst (v := 1) hx hb dX12_rest_1 (by decide) ?_
  refine lv_sipush (v := 600) hx hb dX12_rest_2 (by decide) ?_
  refine q_cv (va_runS (As := [.int y, .int 1, .int 600]) (rest := []) ⟨hx, hb, hml, hown, hts⟩ (kX12_requireWithin l E (kO E f k bk hd v) n y 1 600 (by assumption)) (va_cwS 3 hts gX12_rest_X12_requireWithin rfl rfl rfl (by decide +kernel) ⟨(Nat.le_of_ble_eq_true rfl), (Nat.le_of_ble_eq_true rfl)⟩) (q_pS hA hW hS) rfl rfl hl.1 rfl (lv_room (Nat.le_of_ble_eq_true rfl)) dX12_rest_5 ⟨Nat.le_of_ble_eq_true rfl, Nat.le_of_ble_eq_true rfl⟩) hS (fun f_5 n_5 H locs hp hW hS => ?_)
  obtain ⟨rfl, rfl⟩ := hp
  have hW : q_W E (kO E f k bk hd v) n H := hW
  refine lv_aload_n hx hb dX12_rest_8 rfl (lv_at hl 0 rfl) ?_
  refine q_get hx hb hts hown hA hW iX12 ((kO_out hxo).trans hX) rfl 2 (by decide) (hts (.fieldLink RX12 26 "HighRecipes" "kitchen" "LHighRecipes$Kitchen;") (by decide +kernel)) (fun _ h9 => h9) (v := .ref k) rfl dX12_rest_9 ?_
  refine lv_iload_n hx hb dX12_rest_12 rfl (lv_at hl 1 rfl) ?_
  refine lv_null hx hb dX12_rest_13 ?_
  refine q_cv (va_runV (As := [.int y, .null]) (rest := []) ⟨hx, hb, hml, hown, hts⟩ (kX6_passN l E (kO E f k bk hd v) n k bk hd v pn (nI rc) ac y ((kO_out hbo).trans hB) kO_K (by assumption) (by assumption)) (cwV 2 hts gX12_rest_X6_pass rfl rfl rfl (by decide +kernel) ⟨(Nat.le_of_ble_eq_true rfl), (Nat.le_of_ble_eq_true rfl)⟩) (q_pV hA hW hS (ci := 6) rfl kO_0) rfl rfl hl.1 rfl (lv_room (Nat.le_of_ble_eq_true rfl)) dX12_rest_14 ⟨Nat.le_of_ble_eq_true rfl, Nat.le_of_ble_eq_true rfl⟩) hS (fun f_14 n_14 H locs hp hW hS => ?_)
  obtain ⟨rfl, rfl⟩ := hp
  rw [kO_kO] at hW
  have hW : q_W E (kO E f k bk hd (z_pass v y 8 pn)) n H := hW
  refine lv_aload_n hx hb dX12_rest_17 rfl (lv_at hl 0 rfl) ?_
  refine q_get hx hb hts hown hA hW iX12 ((kO_out hxo).trans hX) rfl 2 (by decide) (hts (.fieldLink RX12 26 "HighRecipes" "kitchen" "LHighRecipes$Kitchen;") (by decide +kernel)) (fun _ h9 => h9) (v := .ref k) rfl dX12_rest_18 ?_
  refine q_ci (va_runV (As := []) (rest := []) ⟨hx, hb, hml, hown, hts⟩ (kX6_hotPans l E (kO E f k bk hd (z_pass v y 8 pn)) n k bk hd (z_pass v y 8 pn) pn (nI rc) ac ((kO_out hbo).trans hB) kO_K (by assumption) (by assumption)) (cwV 0 hts gX12_rest_X6_hotPans rfl rfl rfl (by decide +kernel) ⟨(Nat.le_of_ble_eq_true rfl), (Nat.le_of_ble_eq_true rfl)⟩) (q_pV hA hW hS (ci := 6) rfl kO_0) rfl rfl hl.1 rfl (lv_room (Nat.le_of_ble_eq_true rfl)) dX12_rest_21 ⟨Nat.le_of_ble_eq_true rfl, Nat.le_of_ble_eq_true rfl⟩) hS (fun r_21 f_21 n_21 H locs hp hW hS => ?_)
  obtain ⟨rfl, rfl, rfl⟩ := hp
  have hW : q_W E (kO E f k bk hd (z_pass v y 8 pn)) n H := hW
  exact q_iret hx hb hr hlocks hW hS ⟨rfl, rfl, rfl⟩ (Nat.le_of_ble_eq_true rfl) (Nat.le_of_ble_eq_true rfl) dX12_rest_24

theorem q_min20 {T : Nat} (hT : T < 2 ^ 30) : q_min (nI T) 20 = nI (min T 20) := by
  rw [show (20 : Int32) = nI 20 from rfl]
  exact q_min_n (by omega) (by decide)
theorem his_at {T i : Nat} (h : i < T) (hT : T < 2 ^ 30) : nI T - 1 - nI i = nI (T - 1 - i) := by
  rw [show (1 : Int32) = nI 1 from rfl, pk_sub (by omega), pk_sub (by omega)]

set_option maxHeartbeats 4000000 in
set_option maxRecDepth 100000 in
theorem kX12_warningAt (l : Launch) (E : q_E) (f : q_H) (n : Nat) (x tp pr k ck tr tk : Nat) (ep : Int32) (bk : Nat) (hd v : Nat → Int32) (pn rc : Nat) (ac : Int32) (T9 i : Nat) (hX : f x = some (rX12 (some tp) (some pr) (some k) (some ck) (some tr) (some tk) ep)) (hB : f bk = some (cBook bk (nI pn) (nI rc) ac)) (hk : KIT E f k bk hd v) (hbo : kOut k bk) (hxo : kOut k x) (hpn : pn ≤ 8) (hrc : rc ≤ 6) (hv9 : v 4 = nI T9) (hT9 : T9 < 2 ^ 30) (hi : i < min T9 20) : Met l yX12_warningAt wsX12_warningAt ({ frames := 2, cells := 0, slots := 0, locals := 44 }) (q_P E [.ref x, .int (nI i)] f n) (q_Qi E (fun r f1 n1 => v (12 + (T9 - 1 - i) % 20) = r ∧ f = f1 ∧ n = n1)) 0 0 (q_ge E) := by
  refine Met.ofW (cc := cX12_warningAt) (maxL := 2) (ret := (some .int)) (by decide) rfl ?_
  intro p e s m args below meth c s₁ B hml hv
  obtain ⟨rfl, hA, hW⟩ := hv
  have hx := B.exec
  have hb := B.bytes
  have hr := B.returns
  have hts := atoms_spec (ws := wsX12_warningAt) B.pre
  have hown : s.vm.findClass RX12 = some m.cls := findClass_of_methodNamed B.named
  have hlocks := B.notSynchronized
  have hS : va_S (q_ge E) s.heap s.heap [] := va_S.rf
  have iX12 : ∀ w ∈ wsX120, w ∈ wsX12_warningAt := by decide +kernel
  have iX6 : ∀ w ∈ wsX60, w ∈ wsX12_warningAt := by decide +kernel
  have hl := lv_entry ([.ref x, .int (nI i)]) (n := 2) (Nat.le_of_ble_eq_true rfl)
  rw [lg_entry_eq]
  generalize (lg_sl ([.ref x, .int (nI i)]) ++ List.replicate (2 - (lg_sl ([.ref x, .int (nI i)])).length) Slot.unset).toArray = ls at hl ⊢
  have hl : lv_has ls 2 [(0, .ref x), (1, .int (nI i))] := hl
  rw [hk.eq] at hW
  refine lv_iload_n hx hb dX12_warningAt_0 rfl (lv_at hl 1 rfl) ?_
  refine lv_aload_n hx hb dX12_warningAt_1 rfl (lv_at hl 0 rfl) ?_
  refine q_get hx hb hts hown hA hW iX12 ((kO_out hxo).trans hX) rfl 2 (by decide) (hts (.fieldLink RX12 26 "HighRecipes" "kitchen" "LHighRecipes$Kitchen;") (by decide +kernel)) (fun _ h9 => h9) (v := .ref k) rfl dX12_warningAt_2 ?_
  refine q_getN hx hb hts hown hA hW iX6 kO_0 rfl 1 (by decide) (va_Nw.use rfl (hA.2.2.2.1 ("HighRecipes", 144, "HighRecipes$Kitchen", "warnings", "LHighRecipes$History;", "HighRecipes") (by decide +kernel))) (fun _ h9 => h9) (v := .ref (k + 2)) rfl dX12_warningAt_5 ?_
  refine q_ci (va_runV (As := []) (rest := [.int (nI i)]) ⟨hx, hb, hml, hown, hts⟩ (kX4_kept l E (kO E f k bk hd v) n (k + 2) (v 4) kO_2) (cwV 0 hts gX12_warningAt_X4_kept rfl rfl rfl (by decide +kernel) ⟨(Nat.le_of_ble_eq_true rfl), (Nat.le_of_ble_eq_true rfl)⟩) (q_pV hA hW hS (ci := 5) rfl kO_2) rfl rfl hl.1 rfl (lv_room (Nat.le_of_ble_eq_true rfl)) dX12_warningAt_8 ⟨Nat.le_of_ble_eq_true rfl, Nat.le_of_ble_eq_true rfl⟩) hS (fun r_8 f_8 n_8 H locs hp hW hS => ?_)
  obtain ⟨rfl, rfl, rfl⟩ := hp
  have hW : q_W E (kO E f k bk hd v) n H := hW
  rw [hv9, q_min20 hT9]
  refine q_cv (va_runS (As := [.int (nI i), .int (nI (min T9 20))]) (rest := []) ⟨hx, hb, hml, hown, hts⟩ (kX12_requireIndex l E (kO E f k bk hd v) n i (min T9 20) (by assumption) (by omega)) (va_cwS 2 hts gX12_warningAt_X12_requireIndex rfl rfl rfl (by decide +kernel) ⟨(Nat.le_of_ble_eq_true rfl), (Nat.le_of_ble_eq_true rfl)⟩) (q_pS hA hW hS) rfl rfl hl.1 rfl (lv_room (Nat.le_of_ble_eq_true rfl)) dX12_warningAt_11 ⟨Nat.le_of_ble_eq_true rfl, Nat.le_of_ble_eq_true rfl⟩) hS (fun f_11 n_11 H locs hp hW hS => ?_)
  obtain ⟨rfl, rfl⟩ := hp
  have hW : q_W E (kO E f k bk hd v) n H := hW
  refine lv_aload_n hx hb dX12_warningAt_14 rfl (lv_at hl 0 rfl) ?_
  refine q_get hx hb hts hown hA hW iX12 ((kO_out hxo).trans hX) rfl 2 (by decide) (hts (.fieldLink RX12 26 "HighRecipes" "kitchen" "LHighRecipes$Kitchen;") (by decide +kernel)) (fun _ h9 => h9) (v := .ref k) rfl dX12_warningAt_15 ?_
  refine q_getN hx hb hts hown hA hW iX6 kO_0 rfl 1 (by decide) (va_Nw.use rfl (hA.2.2.2.1 ("HighRecipes", 144, "HighRecipes$Kitchen", "warnings", "LHighRecipes$History;", "HighRecipes") (by decide +kernel))) (fun _ h9 => h9) (v := .ref (k + 2)) rfl dX12_warningAt_18 ?_
  refine lv_iload_n hx hb dX12_warningAt_21 rfl (lv_at hl 1 rfl) ?_
  refine q_ci (va_runV (As := [.int (nI i)]) (rest := []) ⟨hx, hb, hml, hown, hts⟩ (kX4_recall l E (kO E f k bk hd v) n (k + 2) T9 (T9 - 1 - i) (z_row v 12 20) (nI i) (kO_2.trans (by rw [hv9])) kO_3 (his_at (by omega) hT9) (by omega)) (cwV 1 hts gX12_warningAt_X4_recall rfl rfl rfl (by decide +kernel) ⟨(Nat.le_of_ble_eq_true rfl), (Nat.le_of_ble_eq_true rfl)⟩) (q_pV hA hW hS (ci := 5) rfl kO_2) rfl rfl hl.1 rfl (lv_room (Nat.le_of_ble_eq_true rfl)) dX12_warningAt_22 ⟨Nat.le_of_ble_eq_true rfl, Nat.le_of_ble_eq_true rfl⟩) hS (fun r_22 f_22 n_22 H locs hp hW hS => ?_)
  obtain ⟨rfl, rfl, rfl⟩ := hp
  have hW : q_W E (kO E f k bk hd v) n H := hW
  rw [z_row_at (v := v) (b := 12) (show (T9 - 1 - i) % 20 < 20 from Nat.mod_lt _ (by decide))]
  exact q_iret hx hb hr hlocks hW hS ⟨rfl, hk.eq, rfl⟩ (Nat.le_of_ble_eq_true rfl) (Nat.le_of_ble_eq_true rfl) dX12_warningAt_25

set_option maxHeartbeats 4000000 in
set_option maxRecDepth 100000 in
theorem kX12_noteAt (l : Launch) (E : q_E) (f : q_H) (n : Nat) (x tp pr k ck tr tk : Nat) (ep : Int32) (bk : Nat) (hd v : Nat → Int32) (pn rc : Nat) (ac : Int32) (T9 i : Nat) (hX : f x = some (rX12 (some tp) (some pr) (some k) (some ck) (some tr) (some tk) ep)) (hB : f bk = some (cBook bk (nI pn) (nI rc) ac)) (hk : KIT E f k bk hd v) (hbo : kOut k bk) (hxo : kOut k x) (hpn : pn ≤ 8) (hrc : rc ≤ 6) (hv9 : v 5 = nI T9) (hT9 : T9 < 2 ^ 30) (hi : i < min T9 20) : Met l yX12_noteAt wsX12_noteAt ({ frames := 2, cells := 0, slots := 0, locals := 44 }) (q_P E [.ref x, .int (nI i)] f n) (q_Qi E (fun r f1 n1 => v (32 + (T9 - 1 - i) % 20) = r ∧ f = f1 ∧ n = n1)) 0 0 (q_ge E) := by
  refine Met.ofW (cc := cX12_noteAt) (maxL := 2) (ret := (some .int)) (by decide) rfl ?_
  intro p e s m args below meth c s₁ B hml hv
  obtain ⟨rfl, hA, hW⟩ := hv
  have hx := B.exec
  have hb := B.bytes
  have hr := B.returns
  have hts := atoms_spec (ws := wsX12_noteAt) B.pre
  have hown : s.vm.findClass RX12 = some m.cls := findClass_of_methodNamed B.named
  have hlocks := B.notSynchronized
  have hS : va_S (q_ge E) s.heap s.heap [] := va_S.rf
  have iX12 : ∀ w ∈ wsX120, w ∈ wsX12_noteAt := by decide +kernel
  have iX6 : ∀ w ∈ wsX60, w ∈ wsX12_noteAt := by decide +kernel
  have hl := lv_entry ([.ref x, .int (nI i)]) (n := 2) (Nat.le_of_ble_eq_true rfl)
  rw [lg_entry_eq]
  generalize (lg_sl ([.ref x, .int (nI i)]) ++ List.replicate (2 - (lg_sl ([.ref x, .int (nI i)])).length) Slot.unset).toArray = ls at hl ⊢
  have hl : lv_has ls 2 [(0, .ref x), (1, .int (nI i))] := hl
  rw [hk.eq] at hW
  refine lv_iload_n hx hb dX12_noteAt_0 rfl (lv_at hl 1 rfl) ?_
  refine lv_aload_n hx hb dX12_noteAt_1 rfl (lv_at hl 0 rfl) ?_
  refine q_get hx hb hts hown hA hW iX12 ((kO_out hxo).trans hX) rfl 2 (by decide) (hts (.fieldLink RX12 26 "HighRecipes" "kitchen" "LHighRecipes$Kitchen;") (by decide +kernel)) (fun _ h9 => h9) (v := .ref k) rfl dX12_noteAt_2 ?_
  refine q_getN hx hb hts hown hA hW iX6 kO_0 rfl 2 (by decide) (va_Nw.use rfl (hA.2.2.2.1 ("HighRecipes", 166, "HighRecipes$Kitchen", "notes", "LHighRecipes$History;", "HighRecipes") (by decide +kernel))) (fun _ h9 => h9) (v := .ref (k + 4)) rfl dX12_noteAt_5 ?_
  refine q_ci (va_runV (As := []) (rest := [.int (nI i)]) ⟨hx, hb, hml, hown, hts⟩ (kX4_kept l E (kO E f k bk hd v) n (k + 4) (v 5) kO_4) (cwV 0 hts gX12_noteAt_X4_kept rfl rfl rfl (by decide +kernel) ⟨(Nat.le_of_ble_eq_true rfl), (Nat.le_of_ble_eq_true rfl)⟩) (q_pV hA hW hS (ci := 5) rfl kO_4) rfl rfl hl.1 rfl (lv_room (Nat.le_of_ble_eq_true rfl)) dX12_noteAt_8 ⟨Nat.le_of_ble_eq_true rfl, Nat.le_of_ble_eq_true rfl⟩) hS (fun r_8 f_8 n_8 H locs hp hW hS => ?_)
  obtain ⟨rfl, rfl, rfl⟩ := hp
  have hW : q_W E (kO E f k bk hd v) n H := hW
  rw [hv9, q_min20 hT9]
  refine q_cv (va_runS (As := [.int (nI i), .int (nI (min T9 20))]) (rest := []) ⟨hx, hb, hml, hown, hts⟩ (kX12_requireIndex l E (kO E f k bk hd v) n i (min T9 20) (by assumption) (by omega)) (va_cwS 2 hts gX12_noteAt_X12_requireIndex rfl rfl rfl (by decide +kernel) ⟨(Nat.le_of_ble_eq_true rfl), (Nat.le_of_ble_eq_true rfl)⟩) (q_pS hA hW hS) rfl rfl hl.1 rfl (lv_room (Nat.le_of_ble_eq_true rfl)) dX12_noteAt_11 ⟨Nat.le_of_ble_eq_true rfl, Nat.le_of_ble_eq_true rfl⟩) hS (fun f_11 n_11 H locs hp hW hS => ?_)
  obtain ⟨rfl, rfl⟩ := hp
  have hW : q_W E (kO E f k bk hd v) n H := hW
  refine lv_aload_n hx hb dX12_noteAt_14 rfl (lv_at hl 0 rfl) ?_
  refine q_get hx hb hts hown hA hW iX12 ((kO_out hxo).trans hX) rfl 2 (by decide) (hts (.fieldLink RX12 26 "HighRecipes" "kitchen" "LHighRecipes$Kitchen;") (by decide +kernel)) (fun _ h9 => h9) (v := .ref k) rfl dX12_noteAt_15 ?_
  refine q_getN hx hb hts hown hA hW iX6 kO_0 rfl 2 (by decide) (va_Nw.use rfl (hA.2.2.2.1 ("HighRecipes", 166, "HighRecipes$Kitchen", "notes", "LHighRecipes$History;", "HighRecipes") (by decide +kernel))) (fun _ h9 => h9) (v := .ref (k + 4)) rfl dX12_noteAt_18 ?_
  refine lv_iload_n hx hb dX12_noteAt_21 rfl (lv_at hl 1 rfl) ?_
  refine q_ci (va_runV (As := [.int (nI i)]) (rest := []) ⟨hx, hb, hml, hown, hts⟩ (kX4_recall l E (kO E f k bk hd v) n (k + 4) T9 (T9 - 1 - i) (z_row v 32 20) (nI i) (kO_4.trans (by rw [hv9])) kO_5 (his_at (by omega) hT9) (by omega)) (cwV 1 hts gX12_noteAt_X4_recall rfl rfl rfl (by decide +kernel) ⟨(Nat.le_of_ble_eq_true rfl), (Nat.le_of_ble_eq_true rfl)⟩) (q_pV hA hW hS (ci := 5) rfl kO_4) rfl rfl hl.1 rfl (lv_room (Nat.le_of_ble_eq_true rfl)) dX12_noteAt_22 ⟨Nat.le_of_ble_eq_true rfl, Nat.le_of_ble_eq_true rfl⟩) hS (fun r_22 f_22 n_22 H locs hp hW hS => ?_)
  obtain ⟨rfl, rfl, rfl⟩ := hp
  have hW : q_W E (kO E f k bk hd v) n H := hW
  rw [z_row_at (v := v) (b := 32) (show (T9 - 1 - i) % 20 < 20 from Nat.mod_lt _ (by decide))]
  exact q_iret hx hb hr hlocks hW hS ⟨rfl, hk.eq, rfl⟩ (Nat.le_of_ble_eq_true rfl) (Nat.le_of_ble_eq_true rfl) dX12_noteAt_25

set_option maxHeartbeats 4000000 in
set_option maxRecDepth 100000 in
theorem kX12_pourWater (l : Launch) (E : q_E) (f : q_H) (n : Nat) (x tp pr k ck tr tk : Nat) (ep : Int32) (bk : Nat) (hd v : Nat → Int32) (pn rc : Nat) (ac : Int32) (i : Nat) (y : Int32) (hX : f x = some (rX12 (some tp) (some pr) (some k) (some ck) (some tr) (some tk) ep)) (hB : f bk = some (cBook bk (nI pn) (nI rc) ac)) (hk : KIT E f k bk hd v) (hbo : kOut k bk) (hxo : kOut k x) (hpn : pn ≤ 8) (hrc : rc ≤ 6) (hi : i < pn) (hin : b_in y 1 200 = true) : Met l yX12_pourWater wsX12_pourWater ({ frames := 2, cells := 0, slots := 0, locals := 44 }) (q_P E [.ref x, .int (nI i), .int y] f n) (q_Qi E (fun r f1 n1 => z_frv hd v i y = r ∧ kO E f k bk hd (z_fillv hd v i 0 y) = f1 ∧ n = n1)) 0 0 (q_ge E) := by
  refine Met.ofW (cc := cX12_pourWater) (maxL := 4) (ret := (some .int)) (by decide) rfl ?_
  intro p e s m args below meth c s₁ B hml hv
  obtain ⟨rfl, hA, hW⟩ := hv
  have hx := B.exec
  have hb := B.bytes
  have hr := B.returns
  have hts := atoms_spec (ws := wsX12_pourWater) B.pre
  have hown : s.vm.findClass RX12 = some m.cls := findClass_of_methodNamed B.named
  have hlocks := B.notSynchronized
  have hS : va_S (q_ge E) s.heap s.heap [] := va_S.rf
  have hl := lv_entry ([.ref x, .int (nI i), .int y]) (n := 4) (Nat.le_of_ble_eq_true rfl)
  rw [lg_entry_eq]
  generalize (lg_sl ([.ref x, .int (nI i), .int y]) ++ List.replicate (4 - (lg_sl ([.ref x, .int (nI i), .int y])).length) Slot.unset).toArray = ls at hl ⊢
  have hl : lv_has ls 4 [(0, .ref x), (1, .int (nI i)), (2, .int y)] := hl
  rw [hk.eq] at hW
  refine lv_aload_n hx hb dX12_pourWater_0 rfl (lv_at hl 0 rfl) ?_
  refine lv_iload_n hx hb dX12_pourWater_1 rfl (lv_at hl 1 rfl) ?_
  refine q_cq (va_runV (As := [.int (nI i)]) (rest := []) ⟨hx, hb, hml, hown, hts⟩ (kX12_requirePan l E (kO E f k bk hd v) n x tp pr k ck tr tk ep bk hd v pn rc ac i ((kO_out hxo).trans hX) ((kO_out hbo).trans hB) kO_K (by assumption) (by assumption) (by assumption) (by assumption) (by assumption)) (cwV 1 hts gX12_pourWater_X12_requirePan rfl rfl rfl (by decide +kernel) ⟨(Nat.le_of_ble_eq_true rfl), (Nat.le_of_ble_eq_true rfl)⟩) (q_pV hA hW hS (ci := 12) rfl ((kO_out hxo).trans hX)) rfl rfl hl.1 rfl (lv_room (Nat.le_of_ble_eq_true rfl)) dX12_pourWater_2 ⟨Nat.le_of_ble_eq_true rfl, Nat.le_of_ble_eq_true rfl⟩) hS (fun r_2 f_2 n_2 H locs hp hW hS => ?_)
  obtain ⟨rfl, rfl, rfl⟩ := hp
  have hW : q_W E (kO E f k bk hd v) n H := hW
  refine lv_astore_n (lv' := [(3, .ref (k + 12 + i)), (0, .ref x), (1, .int (nI i)), (2, .int y)]) hx hb dX12_pourWater_5 rfl hl (by decide) rfl (fun ls hl => ?_)
  refine lv_iload_n hx hb dX12_pourWater_6 rfl (lv_at hl 3 rfl) ?_
  refine lv_iconst (v := 1) hx hb dX12_pourWater_7 (by decide) ?_
  refine lv_sipush (v := 200) hx hb dX12_pourWater_8 (by decide) ?_
  refine q_cv (va_runS (As := [.int y, .int 1, .int 200]) (rest := []) ⟨hx, hb, hml, hown, hts⟩ (kX12_requireWithin l E (kO E f k bk hd v) n y 1 200 (by assumption)) (va_cwS 3 hts gX12_pourWater_X12_requireWithin rfl rfl rfl (by decide +kernel) ⟨(Nat.le_of_ble_eq_true rfl), (Nat.le_of_ble_eq_true rfl)⟩) (q_pS hA hW hS) rfl rfl hl.1 rfl (lv_room (Nat.le_of_ble_eq_true rfl)) dX12_pourWater_11 ⟨Nat.le_of_ble_eq_true rfl, Nat.le_of_ble_eq_true rfl⟩) hS (fun f_11 n_11 H locs hp hW hS => ?_)
  obtain ⟨rfl, rfl⟩ := hp
  have hW : q_W E (kO E f k bk hd v) n H := hW
  refine lv_aload_n hx hb dX12_pourWater_14 rfl (lv_at hl 0 rfl) ?_
  refine lv_iload_n hx hb dX12_pourWater_15 rfl (lv_at hl 3 rfl) ?_
  refine lv_iconst (v := 0) hx hb dX12_pourWater_16 (by decide) ?_
  refine q_ci (va_runV (As := [.int y, .int 0]) (rest := []) ⟨hx, hb, hml, hown, hts⟩ (kX7_fill l E (kO E f k bk hd v) n (k + 12 + i) (hd i) (v (52 + 4 * i)) (v (53 + 4 * i)) (v (54 + 4 * i)) (v (55 + 4 * i)) y 0 (kO_p (q_8 hi hpn))) (cwV 2 hts gX12_pourWater_X7_fill rfl rfl rfl (by decide +kernel) ⟨(Nat.le_of_ble_eq_true rfl), (Nat.le_of_ble_eq_true rfl)⟩) (q_pV hA hW hS (ci := 7) rfl (kO_p (q_8 hi hpn))) rfl rfl hl.1 rfl (lv_room (Nat.le_of_ble_eq_true rfl)) dX12_pourWater_17 ⟨Nat.le_of_ble_eq_true rfl, Nat.le_of_ble_eq_true rfl⟩) hS (fun r_17 f_17 n_17 H locs hp hW hS => ?_)
  obtain ⟨rfl, rfl, rfl⟩ := hp
  rw [kO_fill (q_8 hi hpn)] at hW
  have hW : q_W E (kO E f k bk hd (z_fillv hd v i 0 y)) n H := hW
  exact q_iret hx hb hr hlocks hW hS ⟨rfl, rfl, rfl⟩ (Nat.le_of_ble_eq_true rfl) (Nat.le_of_ble_eq_true rfl) dX12_pourWater_20

set_option maxHeartbeats 4000000 in
set_option maxRecDepth 100000 in
theorem kX12_pourMeal (l : Launch) (E : q_E) (f : q_H) (n : Nat) (x tp pr k ck tr tk : Nat) (ep : Int32) (bk : Nat) (hd v : Nat → Int32) (pn rc : Nat) (ac : Int32) (i : Nat) (y : Int32) (hX : f x = some (rX12 (some tp) (some pr) (some k) (some ck) (some tr) (some tk) ep)) (hB : f bk = some (cBook bk (nI pn) (nI rc) ac)) (hk : KIT E f k bk hd v) (hbo : kOut k bk) (hxo : kOut k x) (hpn : pn ≤ 8) (hrc : rc ≤ 6) (hi : i < pn) (hin : b_in y 1 200 = true) : Met l yX12_pourMeal wsX12_pourMeal ({ frames := 2, cells := 0, slots := 0, locals := 44 }) (q_P E [.ref x, .int (nI i), .int y] f n) (q_Qi E (fun r f1 n1 => z_frv hd v i y = r ∧ kO E f k bk hd (z_fillv hd v i 1 y) = f1 ∧ n = n1)) 0 0 (q_ge E) := by
  refine Met.ofW (cc := cX12_pourMeal) (maxL := 4) (ret := (some .int)) (by decide) rfl ?_
  intro p e s m args below meth c s₁ B hml hv
  obtain ⟨rfl, hA, hW⟩ := hv
  have hx := B.exec
  have hb := B.bytes
  have hr := B.returns
  have hts := atoms_spec (ws := wsX12_pourMeal) B.pre
  have hown : s.vm.findClass RX12 = some m.cls := findClass_of_methodNamed B.named
  have hlocks := B.notSynchronized
  have hS : va_S (q_ge E) s.heap s.heap [] := va_S.rf
  have hl := lv_entry ([.ref x, .int (nI i), .int y]) (n := 4) (Nat.le_of_ble_eq_true rfl)
  rw [lg_entry_eq]
  generalize (lg_sl ([.ref x, .int (nI i), .int y]) ++ List.replicate (4 - (lg_sl ([.ref x, .int (nI i), .int y])).length) Slot.unset).toArray = ls at hl ⊢
  have hl : lv_has ls 4 [(0, .ref x), (1, .int (nI i)), (2, .int y)] := hl
  rw [hk.eq] at hW
  refine lv_aload_n hx hb dX12_pourMeal_0 rfl (lv_at hl 0 rfl) ?_
  refine lv_iload_n hx hb dX12_pourMeal_1 rfl (lv_at hl 1 rfl) ?_
  refine q_cq (va_runV (As := [.int (nI i)]) (rest := []) ⟨hx, hb, hml, hown, hts⟩ (kX12_requirePan l E (kO E f k bk hd v) n x tp pr k ck tr tk ep bk hd v pn rc ac i ((kO_out hxo).trans hX) ((kO_out hbo).trans hB) kO_K (by assumption) (by assumption) (by assumption) (by assumption) (by assumption)) (cwV 1 hts gX12_pourMeal_X12_requirePan rfl rfl rfl (by decide +kernel) ⟨(Nat.le_of_ble_eq_true rfl), (Nat.le_of_ble_eq_true rfl)⟩) (q_pV hA hW hS (ci := 12) rfl ((kO_out hxo).trans hX)) rfl rfl hl.1 rfl (lv_room (Nat.le_of_ble_eq_true rfl)) dX12_pourMeal_2 ⟨Nat.le_of_ble_eq_true rfl, Nat.le_of_ble_eq_true rfl⟩) hS (fun r_2 f_2 n_2 H locs hp hW hS => ?_)
  obtain ⟨rfl, rfl, rfl⟩ := hp
  have hW : q_W E (kO E f k bk hd v) n H := hW
  refine lv_astore_n (lv' := [(3, .ref (k + 12 + i)), (0, .ref x), (1, .int (nI i)), (2, .int y)]) hx hb dX12_pourMeal_5 rfl hl (by decide) rfl (fun ls hl => ?_)
  refine lv_iload_n hx hb dX12_pourMeal_6 rfl (lv_at hl 3 rfl) ?_
  refine lv_iconst (v := 1) hx hb dX12_pourMeal_7 (by decide) ?_
  refine lv_sipush (v := 200) hx hb dX12_pourMeal_8 (by decide) ?_
  refine q_cv (va_runS (As := [.int y, .int 1, .int 200]) (rest := []) ⟨hx, hb, hml, hown, hts⟩ (kX12_requireWithin l E (kO E f k bk hd v) n y 1 200 (by assumption)) (va_cwS 3 hts gX12_pourMeal_X12_requireWithin rfl rfl rfl (by decide +kernel) ⟨(Nat.le_of_ble_eq_true rfl), (Nat.le_of_ble_eq_true rfl)⟩) (q_pS hA hW hS) rfl rfl hl.1 rfl (lv_room (Nat.le_of_ble_eq_true rfl)) dX12_pourMeal_11 ⟨Nat.le_of_ble_eq_true rfl, Nat.le_of_ble_eq_true rfl⟩) hS (fun f_11 n_11 H locs hp hW hS => ?_)
  obtain ⟨rfl, rfl⟩ := hp
  have hW : q_W E (kO E f k bk hd v) n H := hW
  refine lv_aload_n hx hb dX12_pourMeal_14 rfl (lv_at hl 0 rfl) ?_
  refine lv_iload_n hx hb dX12_pourMeal_15 rfl (lv_at hl 3 rfl) ?_
  refine lv_iconst (v := 1) hx hb dX12_pourMeal_16 (by decide) ?_
  refine q_ci (va_runV (As := [.int y, .int 1]) (rest := []) ⟨hx, hb, hml, hown, hts⟩ (kX7_fill l E (kO E f k bk hd v) n (k + 12 + i) (hd i) (v (52 + 4 * i)) (v (53 + 4 * i)) (v (54 + 4 * i)) (v (55 + 4 * i)) y 1 (kO_p (q_8 hi hpn))) (cwV 2 hts gX12_pourMeal_X7_fill rfl rfl rfl (by decide +kernel) ⟨(Nat.le_of_ble_eq_true rfl), (Nat.le_of_ble_eq_true rfl)⟩) (q_pV hA hW hS (ci := 7) rfl (kO_p (q_8 hi hpn))) rfl rfl hl.1 rfl (lv_room (Nat.le_of_ble_eq_true rfl)) dX12_pourMeal_17 ⟨Nat.le_of_ble_eq_true rfl, Nat.le_of_ble_eq_true rfl⟩) hS (fun r_17 f_17 n_17 H locs hp hW hS => ?_)
  obtain ⟨rfl, rfl, rfl⟩ := hp
  rw [kO_fill (q_8 hi hpn)] at hW
  have hW : q_W E (kO E f k bk hd (z_fillv hd v i 1 y)) n H := hW
  exact q_iret hx hb hr hlocks hW hS ⟨rfl, rfl, rfl⟩ (Nat.le_of_ble_eq_true rfl) (Nat.le_of_ble_eq_true rfl) dX12_pourMeal_20

set_option maxHeartbeats 4000000 in
set_option maxRecDepth 100000 in
theorem kX12_wash (l : Launch) (E : q_E) (f : q_H) (n : Nat) (x tp pr k ck tr tk : Nat) (ep : Int32) (bk : Nat) (hd v : Nat → Int32) (pn rc : Nat) (ac : Int32) (i : Nat) (hX : f x = some (rX12 (some tp) (some pr) (some k) (some ck) (some tr) (some tk) ep)) (hB : f bk = some (cBook bk (nI pn) (nI rc) ac)) (hk : KIT E f k bk hd v) (hbo : kOut k bk) (hxo : kOut k x) (hpn : pn ≤ 8) (hrc : rc ≤ 6) (hi : i < pn) : Met l yX12_wash wsX12_wash ({ frames := 2, cells := 0, slots := 0, locals := 43 }) (q_P E [.ref x, .int (nI i)] f n) (q_Qi E (fun r f1 n1 => v (52 + 4 * i) + v (53 + 4 * i) = r ∧ kO E f k bk hd (z_pan v i 0 0 20 0) = f1 ∧ n = n1)) 0 0 (q_ge E) := by
  refine Met.ofW (cc := cX12_wash) (maxL := 4) (ret := (some .int)) (by decide) rfl ?_
  intro p e s m args below meth c s₁ B hml hv
  obtain ⟨rfl, hA, hW⟩ := hv
  have hx := B.exec
  have hb := B.bytes
  have hr := B.returns
  have hts := atoms_spec (ws := wsX12_wash) B.pre
  have hown : s.vm.findClass RX12 = some m.cls := findClass_of_methodNamed B.named
  have hlocks := B.notSynchronized
  have hS : va_S (q_ge E) s.heap s.heap [] := va_S.rf
  have hl := lv_entry ([.ref x, .int (nI i)]) (n := 4) (Nat.le_of_ble_eq_true rfl)
  rw [lg_entry_eq]
  generalize (lg_sl ([.ref x, .int (nI i)]) ++ List.replicate (4 - (lg_sl ([.ref x, .int (nI i)])).length) Slot.unset).toArray = ls at hl ⊢
  have hl : lv_has ls 4 [(0, .ref x), (1, .int (nI i))] := hl
  rw [hk.eq] at hW
  refine lv_aload_n hx hb dX12_wash_0 rfl (lv_at hl 0 rfl) ?_
  refine lv_iload_n hx hb dX12_wash_1 rfl (lv_at hl 1 rfl) ?_
  refine q_cq (va_runV (As := [.int (nI i)]) (rest := []) ⟨hx, hb, hml, hown, hts⟩ (kX12_requirePan l E (kO E f k bk hd v) n x tp pr k ck tr tk ep bk hd v pn rc ac i ((kO_out hxo).trans hX) ((kO_out hbo).trans hB) kO_K (by assumption) (by assumption) (by assumption) (by assumption) (by assumption)) (cwV 1 hts gX12_wash_X12_requirePan rfl rfl rfl (by decide +kernel) ⟨(Nat.le_of_ble_eq_true rfl), (Nat.le_of_ble_eq_true rfl)⟩) (q_pV hA hW hS (ci := 12) rfl ((kO_out hxo).trans hX)) rfl rfl hl.1 rfl (lv_room (Nat.le_of_ble_eq_true rfl)) dX12_wash_2 ⟨Nat.le_of_ble_eq_true rfl, Nat.le_of_ble_eq_true rfl⟩) hS (fun r_2 f_2 n_2 H locs hp hW hS => ?_)
  obtain ⟨rfl, rfl, rfl⟩ := hp
  have hW : q_W E (kO E f k bk hd v) n H := hW
  refine lv_astore_n (lv' := [(2, .ref (k + 12 + i)), (0, .ref x), (1, .int (nI i))]) hx hb dX12_wash_5 rfl hl (by decide) rfl (fun ls hl => ?_)
  refine lv_aload_n hx hb dX12_wash_6 rfl (lv_at hl 0 rfl) ?_
  refine q_ci (va_runV (As := []) (rest := []) ⟨hx, hb, hml, hown, hts⟩ (kX7_inside l E (kO E f k bk hd v) n (k + 12 + i) (hd i) (v (52 + 4 * i)) (v (53 + 4 * i)) (v (54 + 4 * i)) (v (55 + 4 * i)) (kO_p (q_8 hi hpn))) (cwV 0 hts gX12_wash_X7_inside rfl rfl rfl (by decide +kernel) ⟨(Nat.le_of_ble_eq_true rfl), (Nat.le_of_ble_eq_true rfl)⟩) (q_pV hA hW hS (ci := 7) rfl (kO_p (q_8 hi hpn))) rfl rfl hl.1 rfl (lv_room (Nat.le_of_ble_eq_true rfl)) dX12_wash_7 ⟨Nat.le_of_ble_eq_true rfl, Nat.le_of_ble_eq_true rfl⟩) hS (fun r_7 f_7 n_7 H locs hp hW hS => ?_)
  obtain ⟨rfl, rfl, rfl⟩ := hp
  have hW : q_W E (kO E f k bk hd v) n H := hW
  refine lv_istore_n (lv' := [(3, .int ((v (52 + 4 * i)) + (v (53 + 4 * i)))), (2, .ref (k + 12 + i)), (0, .ref x), (1, .int (nI i))]) hx hb dX12_wash_10 rfl hl (by decide) rfl (fun ls hl => ?_)
  refine lv_aload_n hx hb dX12_wash_11 rfl (lv_at hl 1 rfl) ?_
  refine q_cv (va_runV (As := []) (rest := []) ⟨hx, hb, hml, hown, hts⟩ (kX7_clear l E (kO E f k bk hd v) n (k + 12 + i) (hd i) (v (52 + 4 * i)) (v (53 + 4 * i)) (v (54 + 4 * i)) (v (55 + 4 * i)) (kO_p (q_8 hi hpn))) (cwV 0 hts gX12_wash_X7_clear rfl rfl rfl (by decide +kernel) ⟨(Nat.le_of_ble_eq_true rfl), (Nat.le_of_ble_eq_true rfl)⟩) (q_pV hA hW hS (ci := 7) rfl (kO_p (q_8 hi hpn))) rfl rfl hl.1 rfl (lv_room (Nat.le_of_ble_eq_true rfl)) dX12_wash_12 ⟨Nat.le_of_ble_eq_true rfl, Nat.le_of_ble_eq_true rfl⟩) hS (fun f_12 n_12 H locs hp hW hS => ?_)
  obtain ⟨rfl, rfl⟩ := hp
  have hW : q_W E (va_up (kO E f k bk hd v) (k + 12 + i) (some (cPan (hd i) 0 0 20 0))) n H := hW
  rw [kO_sq (q_8 hi hpn)] at hW
  have hW : q_W E (kO E f k bk hd (z_pan v i 0 0 20 0)) n H := hW
  refine lv_iload_n hx hb dX12_wash_15 rfl (lv_at hl 0 rfl) ?_
  exact q_iret hx hb hr hlocks hW hS ⟨rfl, rfl, rfl⟩ (Nat.le_of_ble_eq_true rfl) (Nat.le_of_ble_eq_true rfl) dX12_wash_16

