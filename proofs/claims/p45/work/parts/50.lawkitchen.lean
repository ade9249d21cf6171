/-! the law's kitchen, as a row like the class's -/
def LK (E : q_E) (f : q_H) (k pa re ki wa no pn : Nat) (pr : Nat → Nat) (hd v : q_V) (b : Nat) (w : Int32) : Prop :=
  f k = some (cLK (v 0) (v 1) (v 2) (v 3) (some pa) (some re) (some ki) (some wa) (some no) (v 5) (nI b) w) ∧
  (∃ gk, f ki = some (aI E 6 gk) ∧ ∀ j, j < 6 → gk j = v (6 + j)) ∧
  (∃ gw, f wa = some (aI E (min (k_T v) 20) gw) ∧ ∀ j, j < min (k_T v) 20 → gw j = v (12 + (k_T v - 1 - j) % 20)) ∧
  (∃ gn, f no = some (aI E (min (k_N v) 20) gn) ∧ ∀ j, j < min (k_N v) 20 → gn j = v (32 + (k_N v - 1 - j) % 20)) ∧
  (∃ gp, f pa = some (aQ E 8 pn gp) ∧ ∀ i, i < pn → gp i = some (pr i)) ∧
  ∀ i, i < pn → ∃ gr, f (pr i) = some (aI E 5 gr) ∧ gr 0 = hd i ∧ gr 1 = v (52 + 4 * i) ∧ gr 2 = v (53 + 4 * i) ∧ gr 3 = v (54 + 4 * i) ∧ gr 4 = v (55 + 4 * i)
/-- its rows are apart -/
def LSp (ki wa no pn : Nat) (pr : Nat → Nat) : Prop := ki < wa ∧ ki < no ∧ (∀ i, i < pn → pr i ≠ ki ∧ pr i ≠ wa ∧ pr i ≠ no) ∧ ∀ i j, i < pn → j < pn → pr i = pr j → i = j
/-- what it may write -/
def LM (k pa ki pn : Nat) (pr : Nat → Nat) (z : Nat) : Prop := z = k ∨ z = pa ∨ z = ki ∨ ∃ i, i < pn ∧ z = pr i
theorem LK.row {E : q_E} {f : q_H} {k pa re ki wa no pn : Nat} {pr : Nat → Nat} {hd v : q_V} {b : Nat} {w : Int32} (h : LK E f k pa re ki wa no pn pr hd v b w) {i : Nat} (hi : i < pn) : ∃ gr, f (pr i) = some (aI E 5 gr) ∧ gr 0 = hd i ∧ gr 1 = v (52 + 4 * i) ∧ gr 2 = v (53 + 4 * i) ∧ gr 3 = v (54 + 4 * i) ∧ gr 4 = v (55 + 4 * i) := h.2.2.2.2.2 i hi
theorem ne_iq {E : q_E} {f : q_H} {a b N M t : Nat} {g : Nat → Int32} {h : Nat → Option Nat} (h1 : f a = some (aI E N g)) (h2 : f b = some (aQ E t M h)) : a ≠ b := fun e => by
  rw [e, h2] at h1
  have h3 := Sum.inl.inj (Option.some.inj h1)
  have h4 := (Prod.mk.inj (Prod.mk.inj h3).2).2
  cases h4
theorem LK.kr {E : q_E} {f : q_H} {k pa re ki wa no pn : Nat} {pr : Nat → Nat} {hd v : q_V} {b : Nat} {w : Int32} (h : LK E f k pa re ki wa no pn pr hd v b w) {i : Nat} (hi : i < pn) : pr i ≠ k ∧ pr i ≠ pa := by
  obtain ⟨gr, e, -⟩ := h.row hi
  obtain ⟨gp, e2, -⟩ := h.2.2.2.2.1
  exact ⟨ne_ab h.1 e, ne_iq e e2⟩
/-- a pan's row is set -/
theorem LK.pan {E : q_E} {f : q_H} {k pa re ki wa no pn : Nat} {pr : Nat → Nat} {hd v : q_V} {b : Nat} {w : Int32} (h : LK E f k pa re ki wa no pn pr hd v b w) (hs : LSp ki wa no pn pr) {i : Nat} (hi : i < pn) {gr : Nat → Int32} {x1 x2 x3 x4 : Int32} (g0 : gr 0 = hd i) (g1 : gr 1 = x1) (g2 : gr 2 = x2) (g3 : gr 3 = x3) (g4 : gr 4 = x4) : LK E (va_up f (pr i) (some (aI E 5 gr))) k pa re ki wa no pn pr hd (z_pan v i x1 x2 x3 x4) b w := by
  have hk := h.kr hi
  obtain ⟨s1, s2, s3, s4⟩ := hs
  obtain ⟨r1, r2, r3⟩ := s3 i hi
  obtain ⟨h1, ⟨gk, h2, h2'⟩, ⟨gw, h3, h3'⟩, ⟨gn, h4, h4'⟩, ⟨gp, h5, h5'⟩, h6⟩ := h
  have eT : k_T (z_pan v i x1 x2 x3 x4) = k_T v := by unfold k_T; rw [z_pan_n (by omega)]
  have eN : k_N (z_pan v i x1 x2 x3 x4) = k_N v := by unfold k_N; rw [z_pan_n (by omega)]
  refine ⟨?_, ⟨gk, q_ne (fun e => r1 e.symm) h2, fun j hj => by rw [z_pan_n (by omega)]; exact h2' j hj⟩, ⟨gw, by rw [eT]; exact q_ne (fun e => r2 e.symm) h3, fun j hj => ?_⟩, ⟨gn, by rw [eN]; exact q_ne (fun e => r3 e.symm) h4, fun j hj => ?_⟩, ⟨gp, q_ne (fun e => hk.2 e.symm) h5, h5'⟩, fun j hj => ?_⟩
  · rw [z_pan_n (by omega), z_pan_n (by omega), z_pan_n (by omega), z_pan_n (by omega), z_pan_n (by omega)]
    exact q_ne (fun e => hk.1 e.symm) h1
  · rw [eT] at hj ⊢
    have : (k_T v - 1 - j) % 20 < 20 := Nat.mod_lt _ (by decide)
    rw [z_pan_n (by omega)]
    exact h3' j hj
  · rw [eN] at hj ⊢
    have : (k_N v - 1 - j) % 20 < 20 := Nat.mod_lt _ (by decide)
    rw [z_pan_n (by omega)]
    exact h4' j hj
  · by_cases e : j = i
    · subst e
      exact ⟨gr, q_eq, g0, g1.trans z_pan_0.symm, g2.trans z_pan_1.symm, g3.trans z_pan_2.symm, g4.trans z_pan_3.symm⟩
    · obtain ⟨g, e1, e2, e3, e4, e5, e6⟩ := h6 j hj
      refine ⟨g, q_ne (fun e9 => e (s4 _ _ hj hi e9)) e1, e2, ?_, ?_, ?_, ?_⟩
      · rw [z_pan_n (by omega)]; exact e3
      · rw [z_pan_n (by omega)]; exact e4
      · rw [z_pan_n (by omega)]; exact e5
      · rw [z_pan_n (by omega)]; exact e6
/-- its own cell is set -/
theorem LK.head {E : q_E} {f : q_H} {k pa re ki wa no pn : Nat} {pr : Nat → Nat} {hd v : q_V} {b : Nat} {w : Int32} (h : LK E f k pa re ki wa no pn pr hd v b w) {v' : q_V} {b' : Nat} {w' : Int32} (h5 : v' 5 = v 5) (hq : ∀ q, 4 ≤ q → v' q = v q) : LK E (va_up f k (some (cLK (v' 0) (v' 1) (v' 2) (v' 3) (some pa) (some re) (some ki) (some wa) (some no) (v' 5) (nI b') w'))) k pa re ki wa no pn pr hd v' b' w' := by
  have hk := fun i (hi : i < pn) => h.kr hi
  obtain ⟨h1, ⟨gk, h2, h2'⟩, ⟨gw, h3, h3'⟩, ⟨gn, h4, h4'⟩, ⟨gp, h5, h5'⟩, h6⟩ := h
  have eT : k_T v' = k_T v := by unfold k_T; rw [hq 4 (by decide)]
  have eN : k_N v' = k_N v := by unfold k_N; rw [hq 5 (by decide)]
  refine ⟨q_eq, ⟨gk, q_ne (ne_ab h1 h2) h2, fun j hj => by rw [hq _ (by omega)]; exact h2' j hj⟩, ⟨gw, by rw [eT]; exact q_ne (ne_ab h1 h3) h3, fun j hj => by rw [eT] at hj ⊢; rw [hq _ (by omega)]; exact h3' j hj⟩, ⟨gn, by rw [eN]; exact q_ne (ne_ab h1 h4) h4, fun j hj => by rw [eN] at hj ⊢; rw [hq _ (by omega)]; exact h4' j hj⟩, ⟨gp, q_ne (ne_ab h1 h5) h5, h5'⟩, fun j hj => ?_⟩
  obtain ⟨g, e1, e2, e3, e4, e5, e6⟩ := h6 j hj
  exact ⟨g, q_ne (hk j hj).1 e1, e2, by rw [hq _ (by omega)]; exact e3, by rw [hq _ (by omega)]; exact e4, by rw [hq _ (by omega)]; exact e5, by rw [hq _ (by omega)]; exact e6⟩
/-- elsewhere nothing matters -/
theorem LK.to {E : q_E} {f g : q_H} {k pa re ki wa no pn : Nat} {pr : Nat → Nat} {hd v : q_V} {b : Nat} {w : Int32} (h : LK E f k pa re ki wa no pn pr hd v b w) (hg : ∀ q, f q ≠ none → g q = f q) : LK E g k pa re ki wa no pn pr hd v b w := by
  have t : ∀ {q x}, f q = some x → g q = some x := fun e => (hg _ (by rw [e]; exact Option.some_ne_none _)).trans e
  obtain ⟨h1, ⟨gk, h2, h2'⟩, ⟨gw, h3, h3'⟩, ⟨gn, h4, h4'⟩, ⟨gp, h5, h5'⟩, h6⟩ := h
  refine ⟨t h1, ⟨gk, t h2, h2'⟩, ⟨gw, t h3, h3'⟩, ⟨gn, t h4, h4'⟩, ⟨gp, t h5, h5'⟩, fun j hj => ?_⟩
  obtain ⟨g, e1, r⟩ := h6 j hj
  exact ⟨g, t e1, r⟩

set_option maxHeartbeats 4000000 in
set_option maxRecDepth 100000 in
theorem kX15_boiling (l : Launch) (E : q_E) (f : q_H) (n : Nat) (k pa re ki wa no pn : Nat) (pr : Nat → Nat) (hd v : q_V) (b : Nat) (w : Int32)  (hK : LK E f k pa re ki wa no pn pr hd v b w) : Met l yX15_boiling wsX15_boiling ({ frames := 0, cells := 0, slots := 0, locals := 0 }) (q_P E [.ref k] f n) (q_Qi E (fun r f1 n1 => z_boil (v 0) = r ∧ f = f1 ∧ n = n1)) 0 0 (q_ge E) := by
  refine Met.ofW (cc := cX15_boiling) (maxL := 1) (ret := (some .int)) (by decide) rfl ?_
  intro p0_ e0_ s0_ m0_ args0_ below0_ meth0_ c0_ s1_ B hml hv
  obtain ⟨rfl, hA, hW⟩ := hv
  have hx := B.exec
  have hb := B.bytes
  have hr := B.returns
  have hts := atoms_spec (ws := wsX15_boiling) B.pre
  have hown : s0_.vm.findClass RX15 = some m0_.cls := findClass_of_methodNamed B.named
  have hlocks := B.notSynchronized
  have hS : va_S (q_ge E) s0_.heap s0_.heap [] := va_S.rf
  have iX15 : ∀ w ∈ wsX150, w ∈ wsX15_boiling := by decide +kernel
  have hl := lv_entry ([.ref k]) (n := 1) (Nat.le_of_ble_eq_true rfl)
  rw [lg_entry_eq]
  generalize (lg_sl ([.ref k]) ++ List.replicate (1 - (lg_sl ([.ref k])).length) Slot.unset).toArray = ls at hl ⊢
  have hl : lv_has ls 1 [(0, .ref k)] := hl
  obtain ⟨hk0, ⟨gk, hki, hkv⟩, ⟨gw, hwa, hwv⟩, ⟨gn, hno, hnv⟩, ⟨gp, hpa, hpv⟩, hrow⟩ := id hK
  have l_k := hW.lt hk0
  have l_ki := hW.lt hki
  have l_wa := hW.lt hwa
  have l_no := hW.lt hno
  have l_pa := hW.lt hpa
  refine lv_bipush (v := 100) hx hb dX15_boiling_0 (by decide) ?_
  refine lv_aload_n hx hb dX15_boiling_2 rfl (lv_at hl 0 rfl) ?_
  refine q_get hx hb hts hown hA hW iX15 hk0 rfl 0 (by decide) (hts (.fieldLink RX15 38 "HighRecipesLaw$Kitchen" "altitude" "I") (by decide +kernel)) (fun _ h9 => h9) (v := .int (v 0)) rfl dX15_boiling_3 ?_
  refine lv_iconst (v := 3) hx hb dX15_boiling_6 (by decide) ?_
  refine lv_idiv hx hb dX15_boiling_7 (by decide) ?_
  refine lv_isub hx hb dX15_boiling_8 ?_
  exact q_iret hx hb hr hlocks hW hS ⟨rfl, rfl, rfl⟩ (Nat.le_of_ble_eq_true rfl) (Nat.le_of_ble_eq_true rfl) dX15_boiling_9

theorem held_lo {x y : Int32} (hy : 0 ≤ y) (h : x < 0) : (0 : Int32) = q_clamp x 0 y := by
  have h1 : x < y := Int32.lt_of_lt_of_le h hy
  show (0 : Int32) = if 0 < (if x < y then x else y) then (if x < y then x else y) else 0
  rw [if_pos h1, if_neg (Int32.not_lt.mpr (Int32.le_of_lt h))]
theorem held_hi {x y : Int32} (hy : 0 ≤ y) (h : y < x) : y = q_clamp x 0 y := by
  show y = if 0 < (if x < y then x else y) then (if x < y then x else y) else 0
  rw [if_neg (Int32.not_lt.mpr (Int32.le_of_lt h))]
  by_cases h0 : 0 < y
  · rw [if_pos h0]
  · rw [if_neg h0]
    exact Int32.le_antisymm (Int32.not_lt.mp h0) hy
theorem held_in {x y : Int32} (h : 0 ≤ x) (h2 : x ≤ y) : x = q_clamp x 0 y := by
  show x = if 0 < (if x < y then x else y) then (if x < y then x else y) else 0
  have e : (if x < y then x else y) = x := by
    by_cases h3 : x < y
    · rw [if_pos h3]
    · rw [if_neg h3]
      exact Int32.le_antisymm (Int32.not_lt.mp h3) h2
  rw [e]
  by_cases h0 : 0 < x
  · rw [if_pos h0]
  · rw [if_neg h0]
    exact Int32.le_antisymm (Int32.not_lt.mp h0) h

set_option maxHeartbeats 4000000 in
set_option maxRecDepth 100000 in
theorem kX15_held (l : Launch) (E : q_E) (f : q_H) (n : Nat) (x y : Int32)  (hy : 0 ≤ y) : Met l yX15_held wsX15_held ({ frames := 0, cells := 0, slots := 0, locals := 0 }) (q_P E [.int x, .int y] f n) (q_Qi E (fun r f1 n1 => q_clamp x 0 y = r ∧ f = f1 ∧ n = n1)) 0 0 (q_ge E) := by
  refine Met.ofW (cc := cX15_held) (maxL := 2) (ret := (some .int)) (by decide) rfl ?_
  intro p0_ e0_ s0_ m0_ args0_ below0_ meth0_ c0_ s1_ B hml hv
  obtain ⟨rfl, hA, hW⟩ := hv
  have hx := B.exec
  have hb := B.bytes
  have hr := B.returns
  have hts := atoms_spec (ws := wsX15_held) B.pre
  have hown : s0_.vm.findClass RX15 = some m0_.cls := findClass_of_methodNamed B.named
  have hlocks := B.notSynchronized
  have hS : va_S (q_ge E) s0_.heap s0_.heap [] := va_S.rf
  have hl := lv_entry ([.int x, .int y]) (n := 2) (Nat.le_of_ble_eq_true rfl)
  rw [lg_entry_eq]
  generalize (lg_sl ([.int x, .int y]) ++ List.replicate (2 - (lg_sl ([.int x, .int y])).length) Slot.unset).toArray = ls at hl ⊢
  have hl : lv_has ls 2 [(0, .int x), (1, .int y)] := hl
  refine lv_iload_n hx hb dX15_held_0 rfl (lv_at hl 0 rfl) ?_
  refine lv_if_ge (tgt := 8) hx hb dX15_held_1 (by decide) (fun c_1 => ?_) (fun c_1 => ?_)
  · have h1 := c_1
    refine lv_iload_n hx hb dX15_held_8 rfl (lv_at hl 0 rfl) ?_
    refine lv_iload_n hx hb dX15_held_9 rfl (lv_at hl 1 rfl) ?_
    refine lv_icmp_le (tgt := 17) hx hb dX15_held_10 (by decide) (fun c_10 => ?_) (fun c_10 => ?_)
    · have h2 := c_10
      refine lv_iload_n hx hb dX15_held_17 rfl (lv_at hl 0 rfl) ?_
      exact q_iret hx hb hr hlocks hW hS ⟨(held_in h1 h2).symm, rfl, rfl⟩ (Nat.le_of_ble_eq_true rfl) (Nat.le_of_ble_eq_true rfl) dX15_held_18
    · have h2 : y < x := Int32.not_le.mp c_10
      refine lv_iload_n hx hb dX15_held_13 rfl (lv_at hl 1 rfl) ?_
      refine lv_goto (tgt := 18) hx hb dX15_held_14 (by decide) ?_
      exact q_iret hx hb hr hlocks hW hS ⟨(held_hi hy h2).symm, rfl, rfl⟩ (Nat.le_of_ble_eq_true rfl) (Nat.le_of_ble_eq_true rfl) dX15_held_18
  · have h1 : x < 0 := Int32.not_le.mp c_1
    rw [show (0 : Int32) = 0 from rfl]
    refine lv_iconst (v := 0) hx hb dX15_held_4 (by decide) ?_
    refine lv_goto (tgt := 18) hx hb dX15_held_5 (by decide) ?_
    exact q_iret hx hb hr hlocks hW hS ⟨(held_lo hy h1).symm, rfl, rfl⟩ (Nat.le_of_ble_eq_true rfl) (Nat.le_of_ble_eq_true rfl) dX15_held_18

set_option maxHeartbeats 4000000 in
set_option maxRecDepth 100000 in
theorem kX15_room (l : Launch) (E : q_E) (f : q_H) (n : Nat) (k pa re ki wa no pn : Nat) (pr : Nat → Nat) (hd v : q_V) (b : Nat) (w : Int32) (i : Nat)  (hK : LK E f k pa re ki wa no pn pr hd v b w) (hi : i < pn) (hpn : pn ≤ 8) : Met l yX15_room wsX15_room ({ frames := 0, cells := 0, slots := 0, locals := 0 }) (q_P E [.ref k, .int (nI i)] f n) (q_Qi E (fun r f1 n1 => hd i - v (52 + 4 * i) - v (53 + 4 * i) = r ∧ f = f1 ∧ n = n1)) 0 0 (q_ge E) := by
  refine Met.ofW (cc := cX15_room) (maxL := 2) (ret := (some .int)) (by decide) rfl ?_
  intro p0_ e0_ s0_ m0_ args0_ below0_ meth0_ c0_ s1_ B hml hv
  obtain ⟨rfl, hA, hW⟩ := hv
  have hx := B.exec
  have hb := B.bytes
  have hr := B.returns
  have hts := atoms_spec (ws := wsX15_room) B.pre
  have hown : s0_.vm.findClass RX15 = some m0_.cls := findClass_of_methodNamed B.named
  have hlocks := B.notSynchronized
  have hS : va_S (q_ge E) s0_.heap s0_.heap [] := va_S.rf
  have iX15 : ∀ w ∈ wsX150, w ∈ wsX15_room := by decide +kernel
  have hl := lv_entry ([.ref k, .int (nI i)]) (n := 2) (Nat.le_of_ble_eq_true rfl)
  rw [lg_entry_eq]
  generalize (lg_sl ([.ref k, .int (nI i)]) ++ List.replicate (2 - (lg_sl ([.ref k, .int (nI i)])).length) Slot.unset).toArray = ls at hl ⊢
  have hl : lv_has ls 2 [(0, .ref k), (1, .int (nI i))] := hl
  obtain ⟨hk0, ⟨gk, hki, hkv⟩, ⟨gw, hwa, hwv⟩, ⟨gn, hno, hnv⟩, ⟨gp, hpa, hpv⟩, hrow⟩ := id hK
  have l_k := hW.lt hk0
  have l_ki := hW.lt hki
  have l_wa := hW.lt hwa
  have l_no := hW.lt hno
  have l_pa := hW.lt hpa
  obtain ⟨gr, hr_i, hg0, hg1, hg2, hg3, hg4⟩ := hrow i hi
  have l_r := hW.lt hr_i
  have hrk := hK.kr hi
  refine lv_aload_n hx hb dX15_room_0 rfl (lv_at hl 0 rfl) ?_
  refine q_get hx hb hts hown hA hW iX15 hk0 rfl 4 (by decide) (hts (.fieldLink RX15 18 "HighRecipesLaw$Kitchen" "pans" "[[I") (by decide +kernel)) (fun _ h9 => h9) (v := .ref pa) rfl dX15_room_1 ?_
  refine lv_iload_n hx hb dX15_room_4 rfl (lv_at hl 1 rfl) ?_
  refine q_aaldA hx hb hA hW 8 rfl hpa (vp_in_nI (by omega) (by omega)) dX15_room_5 ?_
  rw [show gp (nI i).toNatClampNeg = some (pr i) from by rw [nI_clamp (by omega)]; exact hpv i (by omega)]
  refine lv_iconst (v := 0) hx hb dX15_room_6 (by decide) ?_
  refine q_iald hx hb hA hW hr_i (vp_in_nI (by decide) (by decide)) dX15_room_7 ?_
  rw [show gr (0 : Int32).toNatClampNeg = hd i from hg0]
  refine lv_aload_n hx hb dX15_room_8 rfl (lv_at hl 0 rfl) ?_
  refine q_get hx hb hts hown hA hW iX15 hk0 rfl 4 (by decide) (hts (.fieldLink RX15 18 "HighRecipesLaw$Kitchen" "pans" "[[I") (by decide +kernel)) (fun _ h9 => h9) (v := .ref pa) rfl dX15_room_9 ?_
  refine lv_iload_n hx hb dX15_room_12 rfl (lv_at hl 1 rfl) ?_
  refine q_aaldA hx hb hA hW 8 rfl hpa (vp_in_nI (by omega) (by omega)) dX15_room_13 ?_
  rw [show gp (nI i).toNatClampNeg = some (pr i) from by rw [nI_clamp (by omega)]; exact hpv i (by omega)]
  refine lv_iconst (v := 1) hx hb dX15_room_14 (by decide) ?_
  refine q_iald hx hb hA hW hr_i (vp_in_nI (by decide) (by decide)) dX15_room_15 ?_
  rw [show gr (1 : Int32).toNatClampNeg = v (52 + 4 * i) from hg1]
  refine lv_isub hx hb dX15_room_16 ?_
  refine lv_aload_n hx hb dX15_room_17 rfl (lv_at hl 0 rfl) ?_
  refine q_get hx hb hts hown hA hW iX15 hk0 rfl 4 (by decide) (hts (.fieldLink RX15 18 "HighRecipesLaw$Kitchen" "pans" "[[I") (by decide +kernel)) (fun _ h9 => h9) (v := .ref pa) rfl dX15_room_18 ?_
  refine lv_iload_n hx hb dX15_room_21 rfl (lv_at hl 1 rfl) ?_
  refine q_aaldA hx hb hA hW 8 rfl hpa (vp_in_nI (by omega) (by omega)) dX15_room_22 ?_
  rw [show gp (nI i).toNatClampNeg = some (pr i) from by rw [nI_clamp (by omega)]; exact hpv i (by omega)]
  refine lv_iconst (v := 2) hx hb dX15_room_23 (by decide) ?_
  refine q_iald hx hb hA hW hr_i (vp_in_nI (by decide) (by decide)) dX15_room_24 ?_
  rw [show gr (2 : Int32).toNatClampNeg = v (53 + 4 * i) from hg2]
  refine lv_isub hx hb dX15_room_25 ?_
  exact q_iret hx hb hr hlocks hW hS ⟨rfl, rfl, rfl⟩ (Nat.le_of_ble_eq_true rfl) (Nat.le_of_ble_eq_true rfl) dX15_room_26

theorem am_step {h se sp k : Nat} (hh : h ≤ 999) (hse : se ≤ 12) (h1 : 1 ≤ sp) (h2 : sp ≤ 10) (hk : k ≤ 12100) : (2 * nI sp < 4 * nI k - nI h * nI se) ↔ 2 * sp + h * se < 4 * k := by
  have hm : h * se ≤ 999 * 12 := Nat.mul_le_mul hh hse
  have e1 : nI h * nI se = nI (h * se) := (Int32.ofNat_mul h se).symm
  have e2 : (4 : Int32) * nI k = nI (4 * k) := (Int32.ofNat_mul 4 k).symm
  have e3 : (2 : Int32) * nI sp = nI (2 * sp) := (Int32.ofNat_mul 2 sp).symm
  rw [e1, e2, e3, Int32.lt_iff_toInt_lt, pk_sub_toInt (by omega) (by omega)]
  have e4 : (nI (2 * sp)).toInt = (2 * sp : Nat) := by
    have h9 : (nI (2 * sp) - nI 0).toInt = ((2 * sp : Nat) : Int) - (0 : Nat) := pk_sub_toInt (by omega) (by decide)
    rw [show nI (2 * sp) - nI 0 = nI (2 * sp) from Int32.sub_zero _] at h9
    omega
  rw [e4]
  omega
theorem am_end {x : Int32} {v : q_V} {h se sp j : Nat} (hv1 : v 1 = nI se) (hv2 : v 2 = nI sp) (hx : q_clamp x 0 999 = nI h) (hh : h ≤ 999) (hse : se ≤ 12) (h1 : 1 ≤ sp) (h2 : sp ≤ 10) (hj : 2 * sp + h * se < 4 * ((j + 1) * sp)) (hj2 : j = 0 ∨ 4 * (j * sp) ≤ 2 * sp + h * se) : nI (j * sp) = z_tr v x := by
  have hm : h * se ≤ 999 * 12 := Nat.mul_le_mul hh hse
  unfold z_tr q_quot
  rw [hx, hv1, hv2, show nI h * nI se + 2 * nI sp = nI (h * se + 2 * sp) from by rw [show (2 : Int32) * nI sp = nI (2 * sp) from (Int32.ofNat_mul 2 sp).symm, show nI h * nI se = nI (h * se) from (Int32.ofNat_mul h se).symm, nI_add], show (4 : Int32) * nI sp = nI (4 * sp) from (Int32.ofNat_mul 4 sp).symm, if_neg (show ¬ nI (4 * sp) = 0 from nI_ne (b := 0) (by omega) (by decide) (by omega))]
  have e : (h * se + 2 * sp) / (4 * sp) = j := by
    have a1 : j * (4 * sp) ≤ h * se + 2 * sp := by
      rcases hj2 with rfl | hj2
      · omega
      · have : j * (4 * sp) = 4 * (j * sp) := by rw [Nat.mul_left_comm]
        omega
    have a2 : h * se + 2 * sp < (j + 1) * (4 * sp) := by
      have : (j + 1) * (4 * sp) = 4 * ((j + 1) * sp) := by rw [Nat.mul_left_comm]
      omega
    exact Nat.div_eq_of_lt_le a1 a2
  rw [pk_div (by omega) (by omega) (by omega), e]
  exact Int32.ofNat_mul j sp

theorem am_j {h se sp j : Nat} (h1 : 1 ≤ sp) (h2 : sp ≤ 10) (hm : h * se ≤ 999 * 12) (hj : j = 0 ∨ 4 * (j * sp) ≤ 2 * sp + h * se) : j * sp ≤ 3100 ∧ j ≤ 3100 := by
  rcases hj with rfl | hj
  · rw [Nat.zero_mul]; omega
  · have h3 : j * 1 ≤ j * sp := Nat.mul_le_mul_left j h1
    omega

set_option maxHeartbeats 4000000 in
set_option maxRecDepth 100000 in
theorem kX15_amount (l : Launch) (E : q_E) (f : q_H) (n : Nat) (k pa re ki wa no pn : Nat) (pr : Nat → Nat) (hd v : q_V) (b : Nat) (w : Int32) (x : Int32) (h se sp : Nat)  (hK : LK E f k pa re ki wa no pn pr hd v b w) (hv1 : v 1 = nI se) (hv2 : v 2 = nI sp) (hxh : q_clamp x 0 999 = nI h) (hh : h ≤ 999) (hse : se ≤ 12) (h1 : 1 ≤ sp) (h2 : sp ≤ 10) : Met l yX15_amount wsX15_amount ({ frames := 1, cells := 0, slots := 0, locals := 21 }) (q_P E [.ref k, .int x] f n) (q_Qi E (fun r f1 n1 => z_tr v x = r ∧ f = f1 ∧ n = n1)) 0 0 (q_ge E) := by
  refine Met.ofW (cc := cX15_amount) (maxL := 5) (ret := (some .int)) (by decide) rfl ?_
  intro p0_ e0_ s0_ m0_ args0_ below0_ meth0_ c0_ s1_ B hml hv
  obtain ⟨rfl, hA, hW⟩ := hv
  have hx := B.exec
  have hb := B.bytes
  have hr := B.returns
  have hts := atoms_spec (ws := wsX15_amount) B.pre
  have hown : s0_.vm.findClass RX15 = some m0_.cls := findClass_of_methodNamed B.named
  have hlocks := B.notSynchronized
  have hS : va_S (q_ge E) s0_.heap s0_.heap [] := va_S.rf
  have iX15 : ∀ w ∈ wsX150, w ∈ wsX15_amount := by decide +kernel
  have hl := lv_entry ([.ref k, .int x]) (n := 5) (Nat.le_of_ble_eq_true rfl)
  rw [lg_entry_eq]
  generalize (lg_sl ([.ref k, .int x]) ++ List.replicate (5 - (lg_sl ([.ref k, .int x])).length) Slot.unset).toArray = ls at hl ⊢
  have hl : lv_has ls 5 [(0, .ref k), (1, .int x)] := hl
  obtain ⟨hk0, ⟨gk, hki, hkv⟩, ⟨gw, hwa, hwv⟩, ⟨gn, hno, hnv⟩, ⟨gp, hpa, hpv⟩, hrow⟩ := id hK
  have l_k := hW.lt hk0
  have l_ki := hW.lt hki
  have l_wa := hW.lt hwa
  have l_no := hW.lt hno
  have l_pa := hW.lt hpa
  refine lv_iload_n hx hb dX15_amount_0 rfl (lv_at hl 1 rfl) ?_
  refine lv_sipush (v := 999) hx hb dX15_amount_1 (by decide) ?_
  refine q_ci (va_runS (As := [.int x, .int 999]) (rest := []) ⟨hx, hb, hml, hown, hts⟩ (kX15_held l E f n x 999 (by decide)) (va_cwS 2 hts gX15_amount_X15_held rfl rfl rfl (by decide +kernel) ⟨(Nat.le_of_ble_eq_true rfl), (Nat.le_of_ble_eq_true rfl)⟩) (q_pS hA hW hS) rfl rfl hl.1 rfl (lv_room (Nat.le_of_ble_eq_true rfl)) dX15_amount_4 ⟨(Nat.le_of_ble_eq_true rfl), (Nat.le_of_ble_eq_true rfl)⟩) hS (fun r_4 f_4 n_4 H locs hp hW hS => ?_)
  obtain ⟨rfl, rfl, rfl⟩ := hp
  have hW : q_W E (f) n H := hW
  rw [hxh]
  refine lv_aload_n hx hb dX15_amount_7 rfl (lv_at hl 0 rfl) ?_
  refine q_get hx hb hts hown hA hW iX15 hk0 rfl 1 (by decide) (hts (.fieldLink RX15 7 "HighRecipesLaw$Kitchen" "servings" "I") (by decide +kernel)) (fun _ h9 => h9) (v := .int (v 1)) rfl dX15_amount_8 ?_
  refine lv_imul hx hb dX15_amount_11 ?_
  rw [hv1]
  refine lv_istore_n (lv' := [(2, .int (nI h * nI se)), (0, .ref k), (1, .int x)]) hx hb dX15_amount_12 rfl hl (by decide) rfl (fun ls hl => ?_)
  refine lv_iconst (v := 0) hx hb dX15_amount_13 (by decide) ?_
  refine lv_istore_n (lv' := [(3, .int 0), (2, .int (nI h * nI se)), (0, .ref k), (1, .int x)]) hx hb dX15_amount_14 rfl hl (by decide) rfl (fun ls hl => ?_)
  refine lv_aload_n hx hb dX15_amount_15 rfl (lv_at hl 2 rfl) ?_
  refine q_get hx hb hts hown hA hW iX15 hk0 rfl 2 (by decide) (hts (.fieldLink RX15 13 "HighRecipesLaw$Kitchen" "spoon" "I") (by decide +kernel)) (fun _ h9 => h9) (v := .int (v 2)) rfl dX15_amount_16 ?_
  refine lv_istore (lv' := [(4, .int (v 2)), (3, .int 0), (2, .int (nI h * nI se)), (0, .ref k), (1, .int x)]) hx hb dX15_amount_19 hl (by decide) rfl (fun ls hl => ?_)
  have K21 : ∀ (fu : Nat) (j : Nat) (hj2 : j = 0 ∨ 4 * (j * sp) ≤ 2 * sp + h * se) (hm : 12100 - j < fu) (H : Heap) (locs : List Loc) (ls : Array Slot), q_W E (f) n H → va_S (q_ge E) s0_.heap H locs → lv_has ls 5 [(0, .ref k), (1, .int x), (2, .int (nI h * nI se)), (3, .int (nI (j * sp))), (4, .int (nI ((j + 1) * sp)))] → W p0_ l e0_ (headSpec wsX15_amount ({ frames := 1, cells := 0, slots := 0, locals := 21 })).room s0_ m0_ ([.ref k, .int x] : List Value).toArray below0_ meth0_ c0_ H locs 0 0 (MQ below0_ (q_Qi E (fun r f1 n1 => z_tr v x = r ∧ f = f1 ∧ n = n1)) ([.ref k, .int x] : List Value).toArray s0_ 0 0 (q_ge E)) (F0 m0_ 21 ls []) := by
    intro fu
    induction fu with
    | zero =>
      intro j hj2 hm
      exact absurd hm (Nat.not_lt_zero _)
    | succ fu ih =>
      intro j hj2 hm H locs ls hW hS hl
      have hmm : h * se ≤ 999 * 12 := Nat.mul_le_mul hh hse
      have hjs : j * sp ≤ 3100 ∧ j ≤ 3100 := am_j h1 h2 hmm hj2
      have hjb : (j + 1) * sp ≤ 12000 := by rw [Nat.add_mul, Nat.one_mul]; omega
      refine lv_iconst (v := 4) hx hb dX15_amount_21 (by decide) ?_
      refine lv_iload hx hb dX15_amount_22 (lv_at hl 4 rfl) ?_
      refine lv_imul hx hb dX15_amount_24 ?_
      refine lv_iload_n hx hb dX15_amount_25 rfl (lv_at hl 2 rfl) ?_
      refine lv_isub hx hb dX15_amount_26 ?_
      refine lv_iconst (v := 2) hx hb dX15_amount_27 (by decide) ?_
      refine lv_aload_n hx hb dX15_amount_28 rfl (lv_at hl 0 rfl) ?_
      refine q_get hx hb hts hown hA hW iX15 hk0 rfl 2 (by decide) (hts (.fieldLink RX15 13 "HighRecipesLaw$Kitchen" "spoon" "I") (by decide +kernel)) (fun _ h9 => h9) (v := .int (v 2)) rfl dX15_amount_29 ?_
      refine lv_imul hx hb dX15_amount_32 ?_
      refine lv_icmp_gt (tgt := 51) hx hb dX15_amount_33 (by decide) (fun c_33 => ?_) (fun c_33 => ?_)
      · have hgt := (am_step (k := (j + 1) * sp) hh hse h1 h2 (by have := hjb; omega)).mp (by rw [← hv2]; exact c_33)
        refine lv_iload_n hx hb dX15_amount_51 rfl (lv_at hl 3 rfl) ?_
        exact q_iret hx hb hr hlocks hW hS ⟨(am_end hv1 hv2 hxh hh hse h1 h2 hgt hj2).symm, rfl, rfl⟩ (Nat.le_of_ble_eq_true rfl) (Nat.le_of_ble_eq_true rfl) dX15_amount_52
      · have hle : 4 * ((j + 1) * sp) ≤ 2 * sp + h * se := by
          rcases Nat.lt_or_ge (2 * sp + h * se) (4 * ((j + 1) * sp)) with h8 | h8
          · exact absurd (show 2 * v 2 < 4 * nI ((j + 1) * sp) - nI h * nI se from by rw [hv2]; exact (am_step (k := (j + 1) * sp) hh hse h1 h2 (by have := hjb; omega)).mpr h8) c_33
          · exact h8
        refine lv_iload hx hb dX15_amount_36 (lv_at hl 4 rfl) ?_
        refine lv_istore_n (lv' := [(3, .int (nI ((j + 1) * sp))), (0, .ref k), (1, .int x), (2, .int (nI h * nI se)), (4, .int (nI ((j + 1) * sp)))]) hx hb dX15_amount_38 rfl hl (by decide) rfl (fun ls hl => ?_)
        refine lv_iload hx hb dX15_amount_39 (lv_at hl 4 rfl) ?_
        refine lv_aload_n hx hb dX15_amount_41 rfl (lv_at hl 1 rfl) ?_
        refine q_get hx hb hts hown hA hW iX15 hk0 rfl 2 (by decide) (hts (.fieldLink RX15 13 "HighRecipesLaw$Kitchen" "spoon" "I") (by decide +kernel)) (fun _ h9 => h9) (v := .int (v 2)) rfl dX15_amount_42 ?_
        refine lv_iadd hx hb dX15_amount_45 ?_
        rw [hv2, nI_add, show (j + 1) * sp + sp = (j + 1 + 1) * sp by rw [Nat.add_mul (j + 1) 1 sp, Nat.one_mul]]
        refine lv_istore (lv' := [(4, .int (nI ((j + 1 + 1) * sp))), (3, .int (nI ((j + 1) * sp))), (0, .ref k), (1, .int x), (2, .int (nI h * nI se))]) hx hb dX15_amount_46 hl (by decide) rfl (fun ls hl => ?_)
        refine lv_goto (tgt := 21) hx hb dX15_amount_48 (by decide) ?_
        exact ih (j + 1) (Or.inr hle) (by omega) _ _ _ hW hS (lv_sub hl [2, 3, 4, 1, 0] rfl)
  have e00 : nI (0 * sp) = 0 := by rw [Nat.zero_mul]; rfl
  have e01 : nI ((0 + 1) * sp) = v 2 := by rw [Nat.zero_add, Nat.one_mul]; exact hv2.symm
  have hl : lv_has ls 5 [(4, .int (nI ((0 + 1) * sp))), (3, .int (nI (0 * sp))), (2, .int (nI h * nI se)), (0, .ref k), (1, .int x)] := by rw [e00, e01]; exact hl
  exact K21 _ 0 (Or.inl rfl) (Nat.lt_succ_self _) _ _ _ hW hS (lv_sub hl [3, 4, 2, 1, 0] rfl)

theorem lg_eq {a al : Nat} (ha : a ≤ 999) (hal : al ≤ 60) : ∃ q, q ≤ 200000 ∧ nI a * (100 + nI al / 3 * 5) = nI q ∧ z_long (nI a) (nI al) = nI (q / 100 + if 0 < q % 100 then 1 else 0) := by
  refine ⟨a * (100 + al / 3 * 5), ?_, ?_, ?_⟩
  · have : a * (100 + al / 3 * 5) ≤ 999 * 200 := Nat.mul_le_mul ha (by omega)
    omega
  · rw [show nI al / 3 = nI (al / 3) from pk_div (d := 3) (by omega) (by decide) (by decide), show nI (al / 3) * 5 = nI (al / 3 * 5) from (Int32.ofNat_mul (al / 3) 5).symm, show (100 : Int32) + nI (al / 3 * 5) = nI (100 + al / 3 * 5) from nI_add 100 _]
    exact (Int32.ofNat_mul a _).symm
  · have hq : a * (100 + al / 3 * 5) ≤ 999 * 200 := Nat.mul_le_mul ha (by omega)
    have e1 : z_slow (nI al) = nI (100 + al / 3 * 5) := by
      show (100 : Int32) + 5 * (100 - (100 - nI al / 3)) = _
      rw [show nI al / 3 = nI (al / 3) from pk_div (d := 3) (by omega) (by decide) (by decide), show (100 : Int32) - nI (al / 3) = nI (100 - al / 3) from pk_sub (a := 100) (by omega), show (100 : Int32) - nI (100 - al / 3) = nI (100 - (100 - al / 3)) from pk_sub (a := 100) (by omega), show (5 : Int32) * nI (100 - (100 - al / 3)) = nI (5 * (100 - (100 - al / 3))) from (Int32.ofNat_mul 5 _).symm, show (100 : Int32) + nI (5 * (100 - (100 - al / 3))) = nI (100 + 5 * (100 - (100 - al / 3))) from nI_add 100 _]
      congr 1
      omega
    show (nI a * z_slow (nI al) + 99) / 100 = _
    rw [e1, show nI a * nI (100 + al / 3 * 5) = nI (a * (100 + al / 3 * 5)) from (Int32.ofNat_mul a _).symm]
    generalize a * (100 + al / 3 * 5) = q at hq
    rw [show nI q + 99 = nI (q + 99) from nI_add q 99, show nI (q + 99) / 100 = nI ((q + 99) / 100) from pk_div (d := 100) (by omega) (by decide) (by decide)]
    congr 1
    split <;> omega

set_option maxHeartbeats 4000000 in
set_option maxRecDepth 100000 in
theorem kX15_longer (l : Launch) (E : q_E) (f : q_H) (n : Nat) (a al : Nat)  (ha : a ≤ 999) (hal : al ≤ 60) : Met l yX15_longer wsX15_longer ({ frames := 0, cells := 0, slots := 0, locals := 0 }) (q_P E [.int (nI a), .int (nI al)] f n) (q_Qi E (fun r f1 n1 => z_long (nI a) (nI al) = r ∧ f = f1 ∧ n = n1)) 0 0 (q_ge E) := by
  refine Met.ofW (cc := cX15_longer) (maxL := 3) (ret := (some .int)) (by decide) rfl ?_
  intro p0_ e0_ s0_ m0_ args0_ below0_ meth0_ c0_ s1_ B hml hv
  obtain ⟨rfl, hA, hW⟩ := hv
  have hx := B.exec
  have hb := B.bytes
  have hr := B.returns
  have hts := atoms_spec (ws := wsX15_longer) B.pre
  have hown : s0_.vm.findClass RX15 = some m0_.cls := findClass_of_methodNamed B.named
  have hlocks := B.notSynchronized
  have hS : va_S (q_ge E) s0_.heap s0_.heap [] := va_S.rf
  have hl := lv_entry ([.int (nI a), .int (nI al)]) (n := 3) (Nat.le_of_ble_eq_true rfl)
  rw [lg_entry_eq]
  generalize (lg_sl ([.int (nI a), .int (nI al)]) ++ List.replicate (3 - (lg_sl ([.int (nI a), .int (nI al)])).length) Slot.unset).toArray = ls at hl ⊢
  have hl : lv_has ls 3 [(0, .int (nI a)), (1, .int (nI al))] := hl
  obtain ⟨q, hq, hq2, hq3⟩ := lg_eq ha hal
  refine lv_iload_n hx hb dX15_longer_0 rfl (lv_at hl 0 rfl) ?_
  refine lv_bipush (v := 100) hx hb dX15_longer_1 (by decide) ?_
  refine lv_iload_n hx hb dX15_longer_3 rfl (lv_at hl 1 rfl) ?_
  refine lv_iconst (v := 3) hx hb dX15_longer_4 (by decide) ?_
  refine lv_idiv hx hb dX15_longer_5 (by decide) ?_
  refine lv_iconst (v := 5) hx hb dX15_longer_6 (by decide) ?_
  refine lv_imul hx hb dX15_longer_7 ?_
  refine lv_iadd hx hb dX15_longer_8 ?_
  refine lv_imul hx hb dX15_longer_9 ?_
  rw [hq2]
  refine lv_istore_n (lv' := [(2, .int (nI q)), (0, .int (nI a)), (1, .int (nI al))]) hx hb dX15_longer_10 rfl hl (by decide) rfl (fun ls hl => ?_)
  refine lv_iload_n hx hb dX15_longer_11 rfl (lv_at hl 0 rfl) ?_
  refine lv_bipush (v := 100) hx hb dX15_longer_12 (by decide) ?_
  refine lv_idiv hx hb dX15_longer_14 (by decide) ?_
  rw [show nI q / 100 = nI (q / 100) from pk_div (d := 100) (by omega) (by decide) (by decide)]
  refine lv_iload_n hx hb dX15_longer_15 rfl (lv_at hl 0 rfl) ?_
  refine lv_bipush (v := 100) hx hb dX15_longer_16 (by decide) ?_
  refine lv_irem hx hb dX15_longer_18 (by decide) ?_
  rw [show nI q - nI q / 100 * 100 = nI (q % 100) from pk_rem (by omega) (by decide) (by decide)]
  refine lv_if_le (tgt := 26) hx hb dX15_longer_19 (by decide) (fun c_19 => ?_) (fun c_19 => ?_)
  · have hz : q % 100 = 0 := by have h8 := q_leN (a := q % 100) (b := 0) (by omega) c_19 (by decide); omega
    refine lv_iconst (v := 0) hx hb dX15_longer_26 (by decide) ?_
    refine lv_iadd hx hb dX15_longer_27 ?_
    exact q_iret hx hb hr hlocks hW hS ⟨(by rw [hq3]; first | rw [if_pos hz]; exact (nI_1 _).symm | rw [if_neg (by omega)]; exact (Int32.add_zero _).symm), rfl, rfl⟩ (Nat.le_of_ble_eq_true rfl) (Nat.le_of_ble_eq_true rfl) dX15_longer_28
  · have hz : 0 < q % 100 := q_gtn (a := q % 100) (b := 0) (by omega) c_19 (by decide)
    refine lv_iconst (v := 1) hx hb dX15_longer_22 (by decide) ?_
    refine lv_goto (tgt := 27) hx hb dX15_longer_23 (by decide) ?_
    refine lv_iadd hx hb dX15_longer_27 ?_
    exact q_iret hx hb hr hlocks hW hS ⟨(by rw [hq3]; first | rw [if_pos hz]; exact (nI_1 _).symm | rw [if_neg (by omega)]; exact (Int32.add_zero _).symm), rfl, rfl⟩ (Nat.le_of_ble_eq_true rfl) (Nat.le_of_ble_eq_true rfl) dX15_longer_28

theorem pin_T {x r : Int32} (h : r ≤ x) : r = q_min x r := by
  unfold q_min
  by_cases h1 : r < x
  · rw [if_pos h1]
  · rw [if_neg h1]
    exact Int32.le_antisymm h (Int32.not_lt.mp h1)
theorem pin_F {x r : Int32} (h : ¬ r ≤ x) : x = q_min x r := (if_neg (fun h1 => h (Int32.le_of_lt h1))).symm
theorem pin_0 {x r : Int32} (hx : 0 ≤ x) (hr : 0 ≤ r) : 0 ≤ q_min x r := by
  unfold q_min
  split
  · exact hr
  · exact hx
theorem i_pos {x : Int32} (h : 0 ≤ x) (h1 : ¬ x = 0) : 0 < x := by
  rcases Int32.lt_or_eq_of_le h with h2 | h2
  · exact h2
  · exact absurd h2.symm h1
theorem z_fh_eq {w m t x : Int32} (h : ¬ w + m + x = 0) : ((w + m) * t + x * 20) / (w + m + x) = z_fh w m t x := by
  unfold z_fh q_quot
  rw [if_neg h, Int32.mul_comm (w + m) t, Int32.mul_comm x 20]

set_option maxHeartbeats 4000000 in
set_option maxRecDepth 100000 in
theorem kX15_pour_0 (l : Launch) (E : q_E) (f : q_H) (n : Nat) (k pa re ki wa no pn : Nat) (pr : Nat → Nat) (hd v : q_V) (b : Nat) (w : Int32) (i : Nat) (x : Int32)  (hK : LK E f k pa re ki wa no pn pr hd v b w) (hs : LSp ki wa no pn pr) (hi : i < pn) (hpn : pn ≤ 8) (hv : v_ok pn hd v) (hx0 : 0 ≤ x) (hrm : 0 ≤ hd i - v (52 + 4 * i) - v (53 + 4 * i)) : Met l yX15_pour wsX15_pour ({ frames := 1, cells := 0, slots := 0, locals := 21 }) (q_P E [.ref k, .int (nI i), .int 0, .int x] f n) (q_Qi E (fun r0 f1 n1 => z_frv hd v i x = r0 ∧ LK E f1 k pa re ki wa no pn pr hd (z_fillv hd v i 0 x) b w ∧ n1 = n ∧ ∀ z9, z9 ≠ pr i → f1 z9 = f z9)) 0 0 (q_ge E) := by
  refine Met.ofW (cc := cX15_pour) (maxL := 7) (ret := (some .int)) (by decide) rfl ?_
  intro p0_ e0_ s0_ m0_ args0_ below0_ meth0_ c0_ s1_ B hml hv
  obtain ⟨rfl, hA, hW⟩ := hv
  have hx := B.exec
  have hb := B.bytes
  have hr := B.returns
  have hts := atoms_spec (ws := wsX15_pour) B.pre
  have hown : s0_.vm.findClass RX15 = some m0_.cls := findClass_of_methodNamed B.named
  have hlocks := B.notSynchronized
  have hS : va_S (q_ge E) s0_.heap s0_.heap [] := va_S.rf
  have iX15 : ∀ w ∈ wsX150, w ∈ wsX15_pour := by decide +kernel
  have hl := lv_entry ([.ref k, .int (nI i), .int 0, .int x]) (n := 7) (Nat.le_of_ble_eq_true rfl)
  rw [lg_entry_eq]
  generalize (lg_sl ([.ref k, .int (nI i), .int 0, .int x]) ++ List.replicate (7 - (lg_sl ([.ref k, .int (nI i), .int 0, .int x])).length) Slot.unset).toArray = ls at hl ⊢
  have hl : lv_has ls 7 [(0, .ref k), (1, .int (nI i)), (2, .int 0), (3, .int x)] := hl
  obtain ⟨hk0, ⟨gk, hki, hkv⟩, ⟨gw, hwa, hwv⟩, ⟨gn, hno, hnv⟩, ⟨gp, hpa, hpv⟩, hrow⟩ := id hK
  have l_k := hW.lt hk0
  have l_ki := hW.lt hki
  have l_wa := hW.lt hwa
  have l_no := hW.lt hno
  have l_pa := hW.lt hpa
  obtain ⟨gr, hr_i, hg0, hg1, hg2, hg3, hg4⟩ := hrow i hi
  have l_r := hW.lt hr_i
  have hrk := hK.kr hi
  refine lv_aload_n hx hb dX15_pour_0 rfl (lv_at hl 0 rfl) ?_
  refine q_get hx hb hts hown hA hW iX15 hk0 rfl 4 (by decide) (hts (.fieldLink RX15 18 "HighRecipesLaw$Kitchen" "pans" "[[I") (by decide +kernel)) (fun _ h9 => h9) (v := .ref pa) rfl dX15_pour_1 ?_
  refine lv_iload_n hx hb dX15_pour_4 rfl (lv_at hl 1 rfl) ?_
  refine q_aaldA hx hb hA hW 8 rfl hpa (vp_in_nI (by omega) (by omega)) dX15_pour_5 ?_
  rw [show gp (nI i).toNatClampNeg = some (pr i) from by rw [nI_clamp (by omega)]; exact hpv i (by omega)]
  refine lv_astore (lv' := [(4, .ref (pr i)), (0, .ref k), (1, .int (nI i)), (2, .int 0), (3, .int x)]) hx hb dX15_pour_6 hl (by decide) rfl (fun ls hl => ?_)
  refine lv_iload_n hx hb dX15_pour_8 rfl (lv_at hl 4 rfl) ?_
  refine lv_aload_n hx hb dX15_pour_9 rfl (lv_at hl 1 rfl) ?_
  refine lv_iload_n hx hb dX15_pour_10 rfl (lv_at hl 2 rfl) ?_
  refine q_ci (va_runV (As := [.int (nI i)]) (rest := [.int x]) ⟨hx, hb, hml, hown, hts⟩ (kX15_room l E f n k pa re ki wa no pn pr hd v b w i (by assumption) hi hpn) (cwV 1 hts gX15_pour_X15_room rfl rfl rfl (by decide +kernel) ⟨(Nat.le_of_ble_eq_true rfl), (Nat.le_of_ble_eq_true rfl)⟩) (q_pV hA hW hS (ci := 15) rfl hk0) rfl rfl hl.1 rfl (lv_room (Nat.le_of_ble_eq_true rfl)) dX15_pour_11 ⟨(Nat.le_of_ble_eq_true rfl), (Nat.le_of_ble_eq_true rfl)⟩) hS (fun r_11 f_11 n_11 H locs hp hW hS => ?_)
  obtain ⟨rfl, rfl, rfl⟩ := hp
  have hW : q_W E (f) n H := hW
  refine lv_icmp_ge (tgt := 21) hx hb dX15_pour_14 (by decide) (fun c_14 => ?_) (fun c_14 => ?_)
  · refine lv_aload_n hx hb dX15_pour_21 rfl (lv_at hl 1 rfl) ?_
    refine lv_iload_n hx hb dX15_pour_22 rfl (lv_at hl 2 rfl) ?_
    refine q_ci (va_runV (As := [.int (nI i)]) (rest := []) ⟨hx, hb, hml, hown, hts⟩ (kX15_room l E f n k pa re ki wa no pn pr hd v b w i (by assumption) hi hpn) (cwV 1 hts gX15_pour_X15_room rfl rfl rfl (by decide +kernel) ⟨(Nat.le_of_ble_eq_true rfl), (Nat.le_of_ble_eq_true rfl)⟩) (q_pV hA hW hS (ci := 15) rfl hk0) rfl rfl hl.1 rfl (lv_room (Nat.le_of_ble_eq_true rfl)) dX15_pour_23 ⟨(Nat.le_of_ble_eq_true rfl), (Nat.le_of_ble_eq_true rfl)⟩) hS (fun r_23 f_23 n_23 H locs hp hW hS => ?_)
    obtain ⟨rfl, rfl, rfl⟩ := hp
    have hW : q_W E (f) n H := hW
    have eA : hd i - v (52 + 4 * i) - v (53 + 4 * i) = z_add (hd i) (v (52 + 4 * i)) (v (53 + 4 * i)) x := pin_T c_14
    refine w_top eA ?_
    refine lv_istore (lv' := [(5, .int (z_add (hd i) (v (52 + 4 * i)) (v (53 + 4 * i)) x)), (4, .ref (pr i)), (0, .ref k), (1, .int (nI i)), (2, .int 0), (3, .int x)]) hx hb dX15_pour_26 hl (by decide) rfl (fun ls hl => ?_)
    refine lv_iload hx hb dX15_pour_28 (lv_at hl 0 rfl) ?_
    refine lv_if_ne (tgt := 35) hx hb dX15_pour_30 (by decide) (fun c_30 => ?_) (fun c_30 => ?_)
    · have hpos : 0 < z_add (hd i) (v (52 + 4 * i)) (v (53 + 4 * i)) x := i_pos (pin_0 hx0 hrm) c_30
      have hz := v_ok_hz hv hi (x := x)
      have hz1 := hz.1 hpos
      have hz2 := hz.2 hpos
      refine lv_aload hx hb dX15_pour_35 (lv_at hl 1 rfl) ?_
      refine lv_iconst (v := 1) hx hb dX15_pour_37 (by decide) ?_
      refine q_iald hx hb hA hW hr_i (vp_in_nI (by decide) (by decide)) dX15_pour_38 ?_
      rw [show gr (1 : Int32).toNatClampNeg = v (52 + 4 * i) from hg1]
      refine lv_aload hx hb dX15_pour_39 (lv_at hl 1 rfl) ?_
      refine lv_iconst (v := 2) hx hb dX15_pour_41 (by decide) ?_
      refine q_iald hx hb hA hW hr_i (vp_in_nI (by decide) (by decide)) dX15_pour_42 ?_
      rw [show gr (2 : Int32).toNatClampNeg = v (53 + 4 * i) from hg2]
      refine lv_iadd hx hb dX15_pour_43 ?_
      refine lv_istore (lv' := [(6, .int ((v (52 + 4 * i)) + (v (53 + 4 * i)))), (5, .int (z_add (hd i) (v (52 + 4 * i)) (v (53 + 4 * i)) x)), (4, .ref (pr i)), (0, .ref k), (1, .int (nI i)), (2, .int 0), (3, .int x)]) hx hb dX15_pour_44 hl (by decide) rfl (fun ls hl => ?_)
      refine lv_aload hx hb dX15_pour_46 (lv_at hl 2 rfl) ?_
      refine lv_iconst (v := 3) hx hb dX15_pour_48 (by decide) ?_
      refine lv_iload hx hb dX15_pour_49 (lv_at hl 0 rfl) ?_
      refine lv_aload hx hb dX15_pour_51 (lv_at hl 2 rfl) ?_
      refine lv_iconst (v := 3) hx hb dX15_pour_53 (by decide) ?_
      refine q_iald hx hb hA hW hr_i (vp_in_nI (by decide) (by decide)) dX15_pour_54 ?_
      rw [show gr (3 : Int32).toNatClampNeg = v (54 + 4 * i) from hg3]
      refine lv_imul hx hb dX15_pour_55 ?_
      refine lv_iload hx hb dX15_pour_56 (lv_at hl 1 rfl) ?_
      refine lv_bipush (v := 20) hx hb dX15_pour_58 (by decide) ?_
      refine lv_imul hx hb dX15_pour_60 ?_
      refine lv_iadd hx hb dX15_pour_61 ?_
      refine lv_iload hx hb dX15_pour_62 (lv_at hl 0 rfl) ?_
      refine lv_iload hx hb dX15_pour_64 (lv_at hl 1 rfl) ?_
      refine lv_iadd hx hb dX15_pour_66 ?_
      refine lv_idiv hx hb dX15_pour_67 hz1 ?_
      rw [z_fh_eq hz1]
      refine q_iast hx hb hA hW hS hr_i (vp_in_nI (by decide) (by decide)) dX15_pour_68 (fun H locs hW hS => ?_)
      rw [show (3 : Int32).toNatClampNeg = 3 from (by decide)] at hW
      have hW : q_W E (va_up f (pr i) (some (aI E 5 (upd gr 3 (z_fh (v (52 + 4 * i)) (v (53 + 4 * i)) (v (54 + 4 * i)) (z_add (hd i) (v (52 + 4 * i)) (v (53 + 4 * i)) x)))))) n H := hW
      refine lv_iload_n hx hb dX15_pour_69 rfl (lv_at hl 5 rfl) ?_
      refine lv_if_eq (tgt := 94) hx hb dX15_pour_70 (by decide) (fun c_70 => ?_) (fun c_70 => absurd c_70 (by decide))
      refine lv_aload hx hb dX15_pour_94 (lv_at hl 2 rfl) ?_
      refine lv_iload_n hx hb dX15_pour_96 rfl (lv_at hl 5 rfl) ?_
      refine lv_if_eq (tgt := 104) hx hb dX15_pour_97 (by decide) (fun c_97 => ?_) (fun c_97 => absurd c_97 (by decide))
      refine lv_iconst (v := 1) hx hb dX15_pour_104 (by decide) ?_
      refine lv_dup2_11 hx hb dX15_pour_105 rfl rfl ?_
      refine q_iald hx hb hA hW q_eq (vp_in_nI (by decide) (by decide)) dX15_pour_106 ?_
      rw [show (upd gr 3 (z_fh (v (52 + 4 * i)) (v (53 + 4 * i)) (v (54 + 4 * i)) (z_add (hd i) (v (52 + 4 * i)) (v (53 + 4 * i)) x))) (1 : Int32).toNatClampNeg = v (52 + 4 * i) from ((if_neg (by decide)).trans hg1)]
      refine lv_iload hx hb dX15_pour_107 (lv_at hl 1 rfl) ?_
      refine lv_iadd hx hb dX15_pour_109 ?_
      refine q_iast hx hb hA hW hS q_eq (vp_in_nI (by decide) (by decide)) dX15_pour_110 (fun H locs hW hS => ?_)
      rw [show (1 : Int32).toNatClampNeg = 1 from (by decide)] at hW
      rw [q_upup] at hW
      have hW : q_W E (va_up f (pr i) (some (aI E 5 (upd (upd gr 3 (z_fh (v (52 + 4 * i)) (v (53 + 4 * i)) (v (54 + 4 * i)) (z_add (hd i) (v (52 + 4 * i)) (v (53 + 4 * i)) x))) 1 ((v (52 + 4 * i)) + (z_add (hd i) (v (52 + 4 * i)) (v (53 + 4 * i)) x)))))) n H := hW
      refine lv_iload hx hb dX15_pour_111 (lv_at hl 1 rfl) ?_
      exact q_iret hx hb hr hlocks hW hS ⟨(if_pos hpos), (by show LK E _ k pa re ki wa no pn pr hd (if 0 < z_add (hd i) (v (52 + 4 * i)) (v (53 + 4 * i)) x then (if (0 : Int32) = 0 then z_pan v i (v (52 + 4 * i) + z_add (hd i) (v (52 + 4 * i)) (v (53 + 4 * i)) x) (v (53 + 4 * i)) (z_fh (v (52 + 4 * i)) (v (53 + 4 * i)) (v (54 + 4 * i)) (z_add (hd i) (v (52 + 4 * i)) (v (53 + 4 * i)) x)) (v (55 + 4 * i)) else _) else v) b w; rw [if_pos hpos, if_pos rfl]; exact LK.pan hK hs hi ((if_neg (by decide)).trans ((if_neg (by decide)).trans hg0)) (if_pos rfl) ((if_neg (by decide)).trans ((if_neg (by decide)).trans hg2)) ((if_neg (by decide)).trans (if_pos rfl)) ((if_neg (by decide)).trans ((if_neg (by decide)).trans hg4))), rfl, (fun z9 g0 => (q_ne g0 rfl))⟩ (Nat.le_of_ble_eq_true rfl) (Nat.le_of_ble_eq_true rfl) dX15_pour_113
    · refine lv_iconst (v := 0) hx hb dX15_pour_33 (by decide) ?_
      exact q_iret hx hb hr hlocks hW hS ⟨(if_neg (by rw [c_30]; decide)), (by show LK E f k pa re ki wa no pn pr hd (if 0 < z_add (hd i) (v (52 + 4 * i)) (v (53 + 4 * i)) x then _ else v) b w; rw [if_neg (by rw [c_30]; decide)]; exact hK), rfl, (fun z9 _ => rfl)⟩ (Nat.le_of_ble_eq_true rfl) (Nat.le_of_ble_eq_true rfl) dX15_pour_34
  · refine lv_iload_n hx hb dX15_pour_17 rfl (lv_at hl 4 rfl) ?_
    refine lv_goto (tgt := 26) hx hb dX15_pour_18 (by decide) ?_
    have eA : x = z_add (hd i) (v (52 + 4 * i)) (v (53 + 4 * i)) x := pin_F c_14
    refine w_top eA ?_
    refine lv_istore (lv' := [(5, .int (z_add (hd i) (v (52 + 4 * i)) (v (53 + 4 * i)) x)), (4, .ref (pr i)), (0, .ref k), (1, .int (nI i)), (2, .int 0), (3, .int x)]) hx hb dX15_pour_26 hl (by decide) rfl (fun ls hl => ?_)
    refine lv_iload hx hb dX15_pour_28 (lv_at hl 0 rfl) ?_
    refine lv_if_ne (tgt := 35) hx hb dX15_pour_30 (by decide) (fun c_30 => ?_) (fun c_30 => ?_)
    · have hpos : 0 < z_add (hd i) (v (52 + 4 * i)) (v (53 + 4 * i)) x := i_pos (pin_0 hx0 hrm) c_30
      have hz := v_ok_hz hv hi (x := x)
      have hz1 := hz.1 hpos
      have hz2 := hz.2 hpos
      refine lv_aload hx hb dX15_pour_35 (lv_at hl 1 rfl) ?_
      refine lv_iconst (v := 1) hx hb dX15_pour_37 (by decide) ?_
      refine q_iald hx hb hA hW hr_i (vp_in_nI (by decide) (by decide)) dX15_pour_38 ?_
      rw [show gr (1 : Int32).toNatClampNeg = v (52 + 4 * i) from hg1]
      refine lv_aload hx hb dX15_pour_39 (lv_at hl 1 rfl) ?_
      refine lv_iconst (v := 2) hx hb dX15_pour_41 (by decide) ?_
      refine q_iald hx hb hA hW hr_i (vp_in_nI (by decide) (by decide)) dX15_pour_42 ?_
      rw [show gr (2 : Int32).toNatClampNeg = v (53 + 4 * i) from hg2]
      refine lv_iadd hx hb dX15_pour_43 ?_
      refine lv_istore (lv' := [(6, .int ((v (52 + 4 * i)) + (v (53 + 4 * i)))), (5, .int (z_add (hd i) (v (52 + 4 * i)) (v (53 + 4 * i)) x)), (4, .ref (pr i)), (0, .ref k), (1, .int (nI i)), (2, .int 0), (3, .int x)]) hx hb dX15_pour_44 hl (by decide) rfl (fun ls hl => ?_)
      refine lv_aload hx hb dX15_pour_46 (lv_at hl 2 rfl) ?_
      refine lv_iconst (v := 3) hx hb dX15_pour_48 (by decide) ?_
      refine lv_iload hx hb dX15_pour_49 (lv_at hl 0 rfl) ?_
      refine lv_aload hx hb dX15_pour_51 (lv_at hl 2 rfl) ?_
      refine lv_iconst (v := 3) hx hb dX15_pour_53 (by decide) ?_
      refine q_iald hx hb hA hW hr_i (vp_in_nI (by decide) (by decide)) dX15_pour_54 ?_
      rw [show gr (3 : Int32).toNatClampNeg = v (54 + 4 * i) from hg3]
      refine lv_imul hx hb dX15_pour_55 ?_
      refine lv_iload hx hb dX15_pour_56 (lv_at hl 1 rfl) ?_
      refine lv_bipush (v := 20) hx hb dX15_pour_58 (by decide) ?_
      refine lv_imul hx hb dX15_pour_60 ?_
      refine lv_iadd hx hb dX15_pour_61 ?_
      refine lv_iload hx hb dX15_pour_62 (lv_at hl 0 rfl) ?_
      refine lv_iload hx hb dX15_pour_64 (lv_at hl 1 rfl) ?_
      refine lv_iadd hx hb dX15_pour_66 ?_
      refine lv_idiv hx hb dX15_pour_67 hz1 ?_
      rw [z_fh_eq hz1]
      refine q_iast hx hb hA hW hS hr_i (vp_in_nI (by decide) (by decide)) dX15_pour_68 (fun H locs hW hS => ?_)
      rw [show (3 : Int32).toNatClampNeg = 3 from (by decide)] at hW
      have hW : q_W E (va_up f (pr i) (some (aI E 5 (upd gr 3 (z_fh (v (52 + 4 * i)) (v (53 + 4 * i)) (v (54 + 4 * i)) (z_add (hd i) (v (52 + 4 * i)) (v (53 + 4 * i)) x)))))) n H := hW
      refine lv_iload_n hx hb dX15_pour_69 rfl (lv_at hl 5 rfl) ?_
      refine lv_if_eq (tgt := 94) hx hb dX15_pour_70 (by decide) (fun c_70 => ?_) (fun c_70 => absurd c_70 (by decide))
      refine lv_aload hx hb dX15_pour_94 (lv_at hl 2 rfl) ?_
      refine lv_iload_n hx hb dX15_pour_96 rfl (lv_at hl 5 rfl) ?_
      refine lv_if_eq (tgt := 104) hx hb dX15_pour_97 (by decide) (fun c_97 => ?_) (fun c_97 => absurd c_97 (by decide))
      refine lv_iconst (v := 1) hx hb dX15_pour_104 (by decide) ?_
      refine lv_dup2_11 hx hb dX15_pour_105 rfl rfl ?_
      refine q_iald hx hb hA hW q_eq (vp_in_nI (by decide) (by decide)) dX15_pour_106 ?_
      rw [show (upd gr 3 (z_fh (v (52 + 4 * i)) (v (53 + 4 * i)) (v (54 + 4 * i)) (z_add (hd i) (v (52 + 4 * i)) (v (53 + 4 * i)) x))) (1 : Int32).toNatClampNeg = v (52 + 4 * i) from ((if_neg (by decide)).trans hg1)]
      refine lv_iload hx hb dX15_pour_107 (lv_at hl 1 rfl) ?_
      refine lv_iadd hx hb dX15_pour_109 ?_
      refine q_iast hx hb hA hW hS q_eq (vp_in_nI (by decide) (by decide)) dX15_pour_110 (fun H locs hW hS => ?_)
      rw [show (1 : Int32).toNatClampNeg = 1 from (by decide)] at hW
      rw [q_upup] at hW
      have hW : q_W E (va_up f (pr i) (some (aI E 5 (upd (upd gr 3 (z_fh (v (52 + 4 * i)) (v (53 + 4 * i)) (v (54 + 4 * i)) (z_add (hd i) (v (52 + 4 * i)) (v (53 + 4 * i)) x))) 1 ((v (52 + 4 * i)) + (z_add (hd i) (v (52 + 4 * i)) (v (53 + 4 * i)) x)))))) n H := hW
      refine lv_iload hx hb dX15_pour_111 (lv_at hl 1 rfl) ?_
      exact q_iret hx hb hr hlocks hW hS ⟨(if_pos hpos), (by show LK E _ k pa re ki wa no pn pr hd (if 0 < z_add (hd i) (v (52 + 4 * i)) (v (53 + 4 * i)) x then (if (0 : Int32) = 0 then z_pan v i (v (52 + 4 * i) + z_add (hd i) (v (52 + 4 * i)) (v (53 + 4 * i)) x) (v (53 + 4 * i)) (z_fh (v (52 + 4 * i)) (v (53 + 4 * i)) (v (54 + 4 * i)) (z_add (hd i) (v (52 + 4 * i)) (v (53 + 4 * i)) x)) (v (55 + 4 * i)) else _) else v) b w; rw [if_pos hpos, if_pos rfl]; exact LK.pan hK hs hi ((if_neg (by decide)).trans ((if_neg (by decide)).trans hg0)) (if_pos rfl) ((if_neg (by decide)).trans ((if_neg (by decide)).trans hg2)) ((if_neg (by decide)).trans (if_pos rfl)) ((if_neg (by decide)).trans ((if_neg (by decide)).trans hg4))), rfl, (fun z9 g0 => (q_ne g0 rfl))⟩ (Nat.le_of_ble_eq_true rfl) (Nat.le_of_ble_eq_true rfl) dX15_pour_113
    · refine lv_iconst (v := 0) hx hb dX15_pour_33 (by decide) ?_
      exact q_iret hx hb hr hlocks hW hS ⟨(if_neg (by rw [c_30]; decide)), (by show LK E f k pa re ki wa no pn pr hd (if 0 < z_add (hd i) (v (52 + 4 * i)) (v (53 + 4 * i)) x then _ else v) b w; rw [if_neg (by rw [c_30]; decide)]; exact hK), rfl, (fun z9 _ => rfl)⟩ (Nat.le_of_ble_eq_true rfl) (Nat.le_of_ble_eq_true rfl) dX15_pour_34

set_option maxHeartbeats 4000000 in
set_option maxRecDepth 100000 in
theorem kX15_pour_1 (l : Launch) (E : q_E) (f : q_H) (n : Nat) (k pa re ki wa no pn : Nat) (pr : Nat → Nat) (hd v : q_V) (b : Nat) (w : Int32) (i : Nat) (x : Int32)  (hK : LK E f k pa re ki wa no pn pr hd v b w) (hs : LSp ki wa no pn pr) (hi : i < pn) (hpn : pn ≤ 8) (hv : v_ok pn hd v) (hx0 : 0 ≤ x) (hrm : 0 ≤ hd i - v (52 + 4 * i) - v (53 + 4 * i)) : Met l yX15_pour wsX15_pour ({ frames := 1, cells := 0, slots := 0, locals := 21 }) (q_P E [.ref k, .int (nI i), .int 1, .int x] f n) (q_Qi E (fun r0 f1 n1 => z_frv hd v i x = r0 ∧ LK E f1 k pa re ki wa no pn pr hd (z_fillv hd v i 1 x) b w ∧ n1 = n ∧ ∀ z9, z9 ≠ pr i → f1 z9 = f z9)) 0 0 (q_ge E) := by
  refine Met.ofW (cc := cX15_pour) (maxL := 7) (ret := (some .int)) (by decide) rfl ?_
  intro p0_ e0_ s0_ m0_ args0_ below0_ meth0_ c0_ s1_ B hml hv
  obtain ⟨rfl, hA, hW⟩ := hv
  have hx := B.exec
  have hb := B.bytes
  have hr := B.returns
  have hts := atoms_spec (ws := wsX15_pour) B.pre
  have hown : s0_.vm.findClass RX15 = some m0_.cls := findClass_of_methodNamed B.named
  have hlocks := B.notSynchronized
  have hS : va_S (q_ge E) s0_.heap s0_.heap [] := va_S.rf
  have iX15 : ∀ w ∈ wsX150, w ∈ wsX15_pour := by decide +kernel
  have hl := lv_entry ([.ref k, .int (nI i), .int 1, .int x]) (n := 7) (Nat.le_of_ble_eq_true rfl)
  rw [lg_entry_eq]
  generalize (lg_sl ([.ref k, .int (nI i), .int 1, .int x]) ++ List.replicate (7 - (lg_sl ([.ref k, .int (nI i), .int 1, .int x])).length) Slot.unset).toArray = ls at hl ⊢
  have hl : lv_has ls 7 [(0, .ref k), (1, .int (nI i)), (2, .int 1), (3, .int x)] := hl
  obtain ⟨hk0, ⟨gk, hki, hkv⟩, ⟨gw, hwa, hwv⟩, ⟨gn, hno, hnv⟩, ⟨gp, hpa, hpv⟩, hrow⟩ := id hK
  have l_k := hW.lt hk0
  have l_ki := hW.lt hki
  have l_wa := hW.lt hwa
  have l_no := hW.lt hno
  have l_pa := hW.lt hpa
  obtain ⟨gr, hr_i, hg0, hg1, hg2, hg3, hg4⟩ := hrow i hi
  have l_r := hW.lt hr_i
  have hrk := hK.kr hi
  refine lv_aload_n hx hb dX15_pour_0 rfl (lv_at hl 0 rfl) ?_
  refine q_get hx hb hts hown hA hW iX15 hk0 rfl 4 (by decide) (hts (.fieldLink RX15 18 "HighRecipesLaw$Kitchen" "pans" "[[I") (by decide +kernel)) (fun _ h9 => h9) (v := .ref pa) rfl dX15_pour_1 ?_
  refine lv_iload_n hx hb dX15_pour_4 rfl (lv_at hl 1 rfl) ?_
  refine q_aaldA hx hb hA hW 8 rfl hpa (vp_in_nI (by omega) (by omega)) dX15_pour_5 ?_
  rw [show gp (nI i).toNatClampNeg = some (pr i) from by rw [nI_clamp (by omega)]; exact hpv i (by omega)]
  refine lv_astore (lv' := [(4, .ref (pr i)), (0, .ref k), (1, .int (nI i)), (2, .int 1), (3, .int x)]) hx hb dX15_pour_6 hl (by decide) rfl (fun ls hl => ?_)
  refine lv_iload_n hx hb dX15_pour_8 rfl (lv_at hl 4 rfl) ?_
  refine lv_aload_n hx hb dX15_pour_9 rfl (lv_at hl 1 rfl) ?_
  refine lv_iload_n hx hb dX15_pour_10 rfl (lv_at hl 2 rfl) ?_
  refine q_ci (va_runV (As := [.int (nI i)]) (rest := [.int x]) ⟨hx, hb, hml, hown, hts⟩ (kX15_room l E f n k pa re ki wa no pn pr hd v b w i (by assumption) hi hpn) (cwV 1 hts gX15_pour_X15_room rfl rfl rfl (by decide +kernel) ⟨(Nat.le_of_ble_eq_true rfl), (Nat.le_of_ble_eq_true rfl)⟩) (q_pV hA hW hS (ci := 15) rfl hk0) rfl rfl hl.1 rfl (lv_room (Nat.le_of_ble_eq_true rfl)) dX15_pour_11 ⟨(Nat.le_of_ble_eq_true rfl), (Nat.le_of_ble_eq_true rfl)⟩) hS (fun r_11 f_11 n_11 H locs hp hW hS => ?_)
  obtain ⟨rfl, rfl, rfl⟩ := hp
  have hW : q_W E (f) n H := hW
  refine lv_icmp_ge (tgt := 21) hx hb dX15_pour_14 (by decide) (fun c_14 => ?_) (fun c_14 => ?_)
  · refine lv_aload_n hx hb dX15_pour_21 rfl (lv_at hl 1 rfl) ?_
    refine lv_iload_n hx hb dX15_pour_22 rfl (lv_at hl 2 rfl) ?_
    refine q_ci (va_runV (As := [.int (nI i)]) (rest := []) ⟨hx, hb, hml, hown, hts⟩ (kX15_room l E f n k pa re ki wa no pn pr hd v b w i (by assumption) hi hpn) (cwV 1 hts gX15_pour_X15_room rfl rfl rfl (by decide +kernel) ⟨(Nat.le_of_ble_eq_true rfl), (Nat.le_of_ble_eq_true rfl)⟩) (q_pV hA hW hS (ci := 15) rfl hk0) rfl rfl hl.1 rfl (lv_room (Nat.le_of_ble_eq_true rfl)) dX15_pour_23 ⟨(Nat.le_of_ble_eq_true rfl), (Nat.le_of_ble_eq_true rfl)⟩) hS (fun r_23 f_23 n_23 H locs hp hW hS => ?_)
    obtain ⟨rfl, rfl, rfl⟩ := hp
    have hW : q_W E (f) n H := hW
    have eA : hd i - v (52 + 4 * i) - v (53 + 4 * i) = z_add (hd i) (v (52 + 4 * i)) (v (53 + 4 * i)) x := pin_T c_14
    refine w_top eA ?_
    refine lv_istore (lv' := [(5, .int (z_add (hd i) (v (52 + 4 * i)) (v (53 + 4 * i)) x)), (4, .ref (pr i)), (0, .ref k), (1, .int (nI i)), (2, .int 1), (3, .int x)]) hx hb dX15_pour_26 hl (by decide) rfl (fun ls hl => ?_)
    refine lv_iload hx hb dX15_pour_28 (lv_at hl 0 rfl) ?_
    refine lv_if_ne (tgt := 35) hx hb dX15_pour_30 (by decide) (fun c_30 => ?_) (fun c_30 => ?_)
    · have hpos : 0 < z_add (hd i) (v (52 + 4 * i)) (v (53 + 4 * i)) x := i_pos (pin_0 hx0 hrm) c_30
      have hz := v_ok_hz hv hi (x := x)
      have hz1 := hz.1 hpos
      have hz2 := hz.2 hpos
      refine lv_aload hx hb dX15_pour_35 (lv_at hl 1 rfl) ?_
      refine lv_iconst (v := 1) hx hb dX15_pour_37 (by decide) ?_
      refine q_iald hx hb hA hW hr_i (vp_in_nI (by decide) (by decide)) dX15_pour_38 ?_
      rw [show gr (1 : Int32).toNatClampNeg = v (52 + 4 * i) from hg1]
      refine lv_aload hx hb dX15_pour_39 (lv_at hl 1 rfl) ?_
      refine lv_iconst (v := 2) hx hb dX15_pour_41 (by decide) ?_
      refine q_iald hx hb hA hW hr_i (vp_in_nI (by decide) (by decide)) dX15_pour_42 ?_
      rw [show gr (2 : Int32).toNatClampNeg = v (53 + 4 * i) from hg2]
      refine lv_iadd hx hb dX15_pour_43 ?_
      refine lv_istore (lv' := [(6, .int ((v (52 + 4 * i)) + (v (53 + 4 * i)))), (5, .int (z_add (hd i) (v (52 + 4 * i)) (v (53 + 4 * i)) x)), (4, .ref (pr i)), (0, .ref k), (1, .int (nI i)), (2, .int 1), (3, .int x)]) hx hb dX15_pour_44 hl (by decide) rfl (fun ls hl => ?_)
      refine lv_aload hx hb dX15_pour_46 (lv_at hl 2 rfl) ?_
      refine lv_iconst (v := 3) hx hb dX15_pour_48 (by decide) ?_
      refine lv_iload hx hb dX15_pour_49 (lv_at hl 0 rfl) ?_
      refine lv_aload hx hb dX15_pour_51 (lv_at hl 2 rfl) ?_
      refine lv_iconst (v := 3) hx hb dX15_pour_53 (by decide) ?_
      refine q_iald hx hb hA hW hr_i (vp_in_nI (by decide) (by decide)) dX15_pour_54 ?_
      rw [show gr (3 : Int32).toNatClampNeg = v (54 + 4 * i) from hg3]
      refine lv_imul hx hb dX15_pour_55 ?_
      refine lv_iload hx hb dX15_pour_56 (lv_at hl 1 rfl) ?_
      refine lv_bipush (v := 20) hx hb dX15_pour_58 (by decide) ?_
      refine lv_imul hx hb dX15_pour_60 ?_
      refine lv_iadd hx hb dX15_pour_61 ?_
      refine lv_iload hx hb dX15_pour_62 (lv_at hl 0 rfl) ?_
      refine lv_iload hx hb dX15_pour_64 (lv_at hl 1 rfl) ?_
      refine lv_iadd hx hb dX15_pour_66 ?_
      refine lv_idiv hx hb dX15_pour_67 hz1 ?_
      rw [z_fh_eq hz1]
      refine q_iast hx hb hA hW hS hr_i (vp_in_nI (by decide) (by decide)) dX15_pour_68 (fun H locs hW hS => ?_)
      rw [show (3 : Int32).toNatClampNeg = 3 from (by decide)] at hW
      have hW : q_W E (va_up f (pr i) (some (aI E 5 (upd gr 3 (z_fh (v (52 + 4 * i)) (v (53 + 4 * i)) (v (54 + 4 * i)) (z_add (hd i) (v (52 + 4 * i)) (v (53 + 4 * i)) x)))))) n H := hW
      refine lv_iload_n hx hb dX15_pour_69 rfl (lv_at hl 5 rfl) ?_
      refine lv_if_eq (tgt := 94) hx hb dX15_pour_70 (by decide) (fun c_70 => absurd c_70 (by decide)) (fun c_70 => ?_)
      refine lv_aload hx hb dX15_pour_73 (lv_at hl 2 rfl) ?_
      refine lv_iconst (v := 4) hx hb dX15_pour_75 (by decide) ?_
      refine lv_aload hx hb dX15_pour_76 (lv_at hl 2 rfl) ?_
      refine lv_iconst (v := 4) hx hb dX15_pour_78 (by decide) ?_
      refine q_iald hx hb hA hW q_eq (vp_in_nI (by decide) (by decide)) dX15_pour_79 ?_
      rw [show (upd gr 3 (z_fh (v (52 + 4 * i)) (v (53 + 4 * i)) (v (54 + 4 * i)) (z_add (hd i) (v (52 + 4 * i)) (v (53 + 4 * i)) x))) (4 : Int32).toNatClampNeg = v (55 + 4 * i) from ((if_neg (by decide)).trans hg4)]
      refine lv_aload hx hb dX15_pour_80 (lv_at hl 2 rfl) ?_
      refine lv_iconst (v := 2) hx hb dX15_pour_82 (by decide) ?_
      refine q_iald hx hb hA hW q_eq (vp_in_nI (by decide) (by decide)) dX15_pour_83 ?_
      rw [show (upd gr 3 (z_fh (v (52 + 4 * i)) (v (53 + 4 * i)) (v (54 + 4 * i)) (z_add (hd i) (v (52 + 4 * i)) (v (53 + 4 * i)) x))) (2 : Int32).toNatClampNeg = v (53 + 4 * i) from ((if_neg (by decide)).trans hg2)]
      refine lv_imul hx hb dX15_pour_84 ?_
      refine lv_aload hx hb dX15_pour_85 (lv_at hl 2 rfl) ?_
      refine lv_iconst (v := 2) hx hb dX15_pour_87 (by decide) ?_
      refine q_iald hx hb hA hW q_eq (vp_in_nI (by decide) (by decide)) dX15_pour_88 ?_
      rw [show (upd gr 3 (z_fh (v (52 + 4 * i)) (v (53 + 4 * i)) (v (54 + 4 * i)) (z_add (hd i) (v (52 + 4 * i)) (v (53 + 4 * i)) x))) (2 : Int32).toNatClampNeg = v (53 + 4 * i) from ((if_neg (by decide)).trans hg2)]
      refine lv_iload hx hb dX15_pour_89 (lv_at hl 1 rfl) ?_
      refine lv_iadd hx hb dX15_pour_91 ?_
      refine lv_idiv hx hb dX15_pour_92 hz2 ?_
      rw [show (v (55 + 4 * i)) * (v (53 + 4 * i)) / (v (53 + 4 * i) + z_add (hd i) (v (52 + 4 * i)) (v (53 + 4 * i)) x) = q_quot (v (55 + 4 * i) * v (53 + 4 * i)) (v (53 + 4 * i) + z_add (hd i) (v (52 + 4 * i)) (v (53 + 4 * i)) x) from (if_neg hz2).symm]
      refine q_iast hx hb hA hW hS q_eq (vp_in_nI (by decide) (by decide)) dX15_pour_93 (fun H locs hW hS => ?_)
      rw [show (4 : Int32).toNatClampNeg = 4 from (by decide)] at hW
      rw [q_upup] at hW
      have hW : q_W E (va_up f (pr i) (some (aI E 5 (upd (upd gr 3 (z_fh (v (52 + 4 * i)) (v (53 + 4 * i)) (v (54 + 4 * i)) (z_add (hd i) (v (52 + 4 * i)) (v (53 + 4 * i)) x))) 4 (q_quot (v (55 + 4 * i) * v (53 + 4 * i)) (v (53 + 4 * i) + z_add (hd i) (v (52 + 4 * i)) (v (53 + 4 * i)) x)))))) n H := hW
      refine lv_aload hx hb dX15_pour_94 (lv_at hl 2 rfl) ?_
      refine lv_iload_n hx hb dX15_pour_96 rfl (lv_at hl 5 rfl) ?_
      refine lv_if_eq (tgt := 104) hx hb dX15_pour_97 (by decide) (fun c_97 => absurd c_97 (by decide)) (fun c_97 => ?_)
      refine lv_iconst (v := 2) hx hb dX15_pour_100 (by decide) ?_
      refine lv_goto (tgt := 105) hx hb dX15_pour_101 (by decide) ?_
      refine lv_dup2_11 hx hb dX15_pour_105 rfl rfl ?_
      refine q_iald hx hb hA hW q_eq (vp_in_nI (by decide) (by decide)) dX15_pour_106 ?_
      rw [show (upd (upd gr 3 (z_fh (v (52 + 4 * i)) (v (53 + 4 * i)) (v (54 + 4 * i)) (z_add (hd i) (v (52 + 4 * i)) (v (53 + 4 * i)) x))) 4 (q_quot (v (55 + 4 * i) * v (53 + 4 * i)) (v (53 + 4 * i) + z_add (hd i) (v (52 + 4 * i)) (v (53 + 4 * i)) x))) (2 : Int32).toNatClampNeg = v (53 + 4 * i) from ((if_neg (by decide)).trans ((if_neg (by decide)).trans hg2))]
      refine lv_iload hx hb dX15_pour_107 (lv_at hl 1 rfl) ?_
      refine lv_iadd hx hb dX15_pour_109 ?_
      refine q_iast hx hb hA hW hS q_eq (vp_in_nI (by decide) (by decide)) dX15_pour_110 (fun H locs hW hS => ?_)
      rw [show (2 : Int32).toNatClampNeg = 2 from (by decide)] at hW
      rw [q_upup] at hW
      have hW : q_W E (va_up f (pr i) (some (aI E 5 (upd (upd (upd gr 3 (z_fh (v (52 + 4 * i)) (v (53 + 4 * i)) (v (54 + 4 * i)) (z_add (hd i) (v (52 + 4 * i)) (v (53 + 4 * i)) x))) 4 (q_quot (v (55 + 4 * i) * v (53 + 4 * i)) (v (53 + 4 * i) + z_add (hd i) (v (52 + 4 * i)) (v (53 + 4 * i)) x))) 2 ((v (53 + 4 * i)) + (z_add (hd i) (v (52 + 4 * i)) (v (53 + 4 * i)) x)))))) n H := hW
      refine lv_iload hx hb dX15_pour_111 (lv_at hl 1 rfl) ?_
      exact q_iret hx hb hr hlocks hW hS ⟨(if_pos hpos), (by show LK E _ k pa re ki wa no pn pr hd (if 0 < z_add (hd i) (v (52 + 4 * i)) (v (53 + 4 * i)) x then (if (1 : Int32) = 0 then _ else z_pan v i (v (52 + 4 * i)) (v (53 + 4 * i) + z_add (hd i) (v (52 + 4 * i)) (v (53 + 4 * i)) x) (z_fh (v (52 + 4 * i)) (v (53 + 4 * i)) (v (54 + 4 * i)) (z_add (hd i) (v (52 + 4 * i)) (v (53 + 4 * i)) x)) (q_quot (v (55 + 4 * i) * v (53 + 4 * i)) (v (53 + 4 * i) + z_add (hd i) (v (52 + 4 * i)) (v (53 + 4 * i)) x))) else v) b w; rw [if_pos hpos, if_neg (by decide)]; exact LK.pan hK hs hi ((if_neg (by decide)).trans ((if_neg (by decide)).trans ((if_neg (by decide)).trans hg0))) ((if_neg (by decide)).trans ((if_neg (by decide)).trans ((if_neg (by decide)).trans hg1))) (if_pos rfl) ((if_neg (by decide)).trans ((if_neg (by decide)).trans (if_pos rfl))) ((if_neg (by decide)).trans (if_pos rfl))), rfl, (fun z9 g0 => (q_ne g0 rfl))⟩ (Nat.le_of_ble_eq_true rfl) (Nat.le_of_ble_eq_true rfl) dX15_pour_113
    · refine lv_iconst (v := 0) hx hb dX15_pour_33 (by decide) ?_
      exact q_iret hx hb hr hlocks hW hS ⟨(if_neg (by rw [c_30]; decide)), (by show LK E f k pa re ki wa no pn pr hd (if 0 < z_add (hd i) (v (52 + 4 * i)) (v (53 + 4 * i)) x then _ else v) b w; rw [if_neg (by rw [c_30]; decide)]; exact hK), rfl, (fun z9 _ => rfl)⟩ (Nat.le_of_ble_eq_true rfl) (Nat.le_of_ble_eq_true rfl) dX15_pour_34
  · refine lv_iload_n hx hb dX15_pour_17 rfl (lv_at hl 4 rfl) ?_
    refine lv_goto (tgt := 26) hx hb dX15_pour_18 (by decide) ?_
    have eA : x = z_add (hd i) (v (52 + 4 * i)) (v (53 + 4 * i)) x := pin_F c_14
    refine w_top eA ?_
    refine lv_istore (lv' := [(5, .int (z_add (hd i) (v (52 + 4 * i)) (v (53 + 4 * i)) x)), (4, .ref (pr i)), (0, .ref k), (1, .int (nI i)), (2, .int 1), (3, .int x)]) hx hb dX15_pour_26 hl (by decide) rfl (fun ls hl => ?_)
    refine lv_iload hx hb dX15_pour_28 (lv_at hl 0 rfl) ?_
    refine lv_if_ne (tgt := 35) hx hb dX15_pour_30 (by decide) (fun c_30 => ?_) (fun c_30 => ?_)
    · have hpos : 0 < z_add (hd i) (v (52 + 4 * i)) (v (53 + 4 * i)) x := i_pos (pin_0 hx0 hrm) c_30
      have hz := v_ok_hz hv hi (x := x)
      have hz1 := hz.1 hpos
      have hz2 := hz.2 hpos
      refine lv_aload hx hb dX15_pour_35 (lv_at hl 1 rfl) ?_
      refine lv_iconst (v := 1) hx hb dX15_pour_37 (by decide) ?_
      refine q_iald hx hb hA hW hr_i (vp_in_nI (by decide) (by decide)) dX15_pour_38 ?_
      rw [show gr (1 : Int32).toNatClampNeg = v (52 + 4 * i) from hg1]
      refine lv_aload hx hb dX15_pour_39 (lv_at hl 1 rfl) ?_
      refine lv_iconst (v := 2) hx hb dX15_pour_41 (by decide) ?_
      refine q_iald hx hb hA hW hr_i (vp_in_nI (by decide) (by decide)) dX15_pour_42 ?_
      rw [show gr (2 : Int32).toNatClampNeg = v (53 + 4 * i) from hg2]
      refine lv_iadd hx hb dX15_pour_43 ?_
      refine lv_istore (lv' := [(6, .int ((v (52 + 4 * i)) + (v (53 + 4 * i)))), (5, .int (z_add (hd i) (v (52 + 4 * i)) (v (53 + 4 * i)) x)), (4, .ref (pr i)), (0, .ref k), (1, .int (nI i)), (2, .int 1), (3, .int x)]) hx hb dX15_pour_44 hl (by decide) rfl (fun ls hl => ?_)
      refine lv_aload hx hb dX15_pour_46 (lv_at hl 2 rfl) ?_
      refine lv_iconst (v := 3) hx hb dX15_pour_48 (by decide) ?_
      refine lv_iload hx hb dX15_pour_49 (lv_at hl 0 rfl) ?_
      refine lv_aload hx hb dX15_pour_51 (lv_at hl 2 rfl) ?_
      refine lv_iconst (v := 3) hx hb dX15_pour_53 (by decide) ?_
      refine q_iald hx hb hA hW hr_i (vp_in_nI (by decide) (by decide)) dX15_pour_54 ?_
      rw [show gr (3 : Int32).toNatClampNeg = v (54 + 4 * i) from hg3]
      refine lv_imul hx hb dX15_pour_55 ?_
      refine lv_iload hx hb dX15_pour_56 (lv_at hl 1 rfl) ?_
      refine lv_bipush (v := 20) hx hb dX15_pour_58 (by decide) ?_
      refine lv_imul hx hb dX15_pour_60 ?_
      refine lv_iadd hx hb dX15_pour_61 ?_
      refine lv_iload hx hb dX15_pour_62 (lv_at hl 0 rfl) ?_
      refine lv_iload hx hb dX15_pour_64 (lv_at hl 1 rfl) ?_
      refine lv_iadd hx hb dX15_pour_66 ?_
      refine lv_idiv hx hb dX15_pour_67 hz1 ?_
      rw [z_fh_eq hz1]
      refine q_iast hx hb hA hW hS hr_i (vp_in_nI (by decide) (by decide)) dX15_pour_68 (fun H locs hW hS => ?_)
      rw [show (3 : Int32).toNatClampNeg = 3 from (by decide)] at hW
      have hW : q_W E (va_up f (pr i) (some (aI E 5 (upd gr 3 (z_fh (v (52 + 4 * i)) (v (53 + 4 * i)) (v (54 + 4 * i)) (z_add (hd i) (v (52 + 4 * i)) (v (53 + 4 * i)) x)))))) n H := hW
      refine lv_iload_n hx hb dX15_pour_69 rfl (lv_at hl 5 rfl) ?_
      refine lv_if_eq (tgt := 94) hx hb dX15_pour_70 (by decide) (fun c_70 => absurd c_70 (by decide)) (fun c_70 => ?_)
      refine lv_aload hx hb dX15_pour_73 (lv_at hl 2 rfl) ?_
      refine lv_iconst (v := 4) hx hb dX15_pour_75 (by decide) ?_
      refine lv_aload hx hb dX15_pour_76 (lv_at hl 2 rfl) ?_
      refine lv_iconst (v := 4) hx hb dX15_pour_78 (by decide) ?_
      refine q_iald hx hb hA hW q_eq (vp_in_nI (by decide) (by decide)) dX15_pour_79 ?_
      rw [show (upd gr 3 (z_fh (v (52 + 4 * i)) (v (53 + 4 * i)) (v (54 + 4 * i)) (z_add (hd i) (v (52 + 4 * i)) (v (53 + 4 * i)) x))) (4 : Int32).toNatClampNeg = v (55 + 4 * i) from ((if_neg (by decide)).trans hg4)]
      refine lv_aload hx hb dX15_pour_80 (lv_at hl 2 rfl) ?_
      refine lv_iconst (v := 2) hx hb dX15_pour_82 (by decide) ?_
      refine q_iald hx hb hA hW q_eq (vp_in_nI (by decide) (by decide)) dX15_pour_83 ?_
      rw [show (upd gr 3 (z_fh (v (52 + 4 * i)) (v (53 + 4 * i)) (v (54 + 4 * i)) (z_add (hd i) (v (52 + 4 * i)) (v (53 + 4 * i)) x))) (2 : Int32).toNatClampNeg = v (53 + 4 * i) from ((if_neg (by decide)).trans hg2)]
      refine lv_imul hx hb dX15_pour_84 ?_
      refine lv_aload hx hb dX15_pour_85 (lv_at hl 2 rfl) ?_
      refine lv_iconst (v := 2) hx hb dX15_pour_87 (by decide) ?_
      refine q_iald hx hb hA hW q_eq (vp_in_nI (by decide) (by decide)) dX15_pour_88 ?_
      rw [show (upd gr 3 (z_fh (v (52 + 4 * i)) (v (53 + 4 * i)) (v (54 + 4 * i)) (z_add (hd i) (v (52 + 4 * i)) (v (53 + 4 * i)) x))) (2 : Int32).toNatClampNeg = v (53 + 4 * i) from ((if_neg (by decide)).trans hg2)]
      refine lv_iload hx hb dX15_pour_89 (lv_at hl 1 rfl) ?_
      refine lv_iadd hx hb dX15_pour_91 ?_
      refine lv_idiv hx hb dX15_pour_92 hz2 ?_
      rw [show (v (55 + 4 * i)) * (v (53 + 4 * i)) / (v (53 + 4 * i) + z_add (hd i) (v (52 + 4 * i)) (v (53 + 4 * i)) x) = q_quot (v (55 + 4 * i) * v (53 + 4 * i)) (v (53 + 4 * i) + z_add (hd i) (v (52 + 4 * i)) (v (53 + 4 * i)) x) from (if_neg hz2).symm]
      refine q_iast hx hb hA hW hS q_eq (vp_in_nI (by decide) (by decide)) dX15_pour_93 (fun H locs hW hS => ?_)
      rw [show (4 : Int32).toNatClampNeg = 4 from (by decide)] at hW
      rw [q_upup] at hW
      have hW : q_W E (va_up f (pr i) (some (aI E 5 (upd (upd gr 3 (z_fh (v (52 + 4 * i)) (v (53 + 4 * i)) (v (54 + 4 * i)) (z_add (hd i) (v (52 + 4 * i)) (v (53 + 4 * i)) x))) 4 (q_quot (v (55 + 4 * i) * v (53 + 4 * i)) (v (53 + 4 * i) + z_add (hd i) (v (52 + 4 * i)) (v (53 + 4 * i)) x)))))) n H := hW
      refine lv_aload hx hb dX15_pour_94 (lv_at hl 2 rfl) ?_
      refine lv_iload_n hx hb dX15_pour_96 rfl (lv_at hl 5 rfl) ?_
      refine lv_if_eq (tgt := 104) hx hb dX15_pour_97 (by decide) (fun c_97 => absurd c_97 (by decide)) (fun c_97 => ?_)
      refine lv_iconst (v := 2) hx hb dX15_pour_100 (by decide) ?_
      refine lv_goto (tgt := 105) hx hb dX15_pour_101 (by decide) ?_
      refine lv_dup2_11 hx hb dX15_pour_105 rfl rfl ?_
      refine q_iald hx hb hA hW q_eq (vp_in_nI (by decide) (by decide)) dX15_pour_106 ?_
      rw [show (upd (upd gr 3 (z_fh (v (52 + 4 * i)) (v (53 + 4 * i)) (v (54 + 4 * i)) (z_add (hd i) (v (52 + 4 * i)) (v (53 + 4 * i)) x))) 4 (q_quot (v (55 + 4 * i) * v (53 + 4 * i)) (v (53 + 4 * i) + z_add (hd i) (v (52 + 4 * i)) (v (53 + 4 * i)) x))) (2 : Int32).toNatClampNeg = v (53 + 4 * i) from ((if_neg (by decide)).trans ((if_neg (by decide)).trans hg2))]
      refine lv_iload hx hb dX15_pour_107 (lv_at hl 1 rfl) ?_
      refine lv_iadd hx hb dX15_pour_109 ?_
      refine q_iast hx hb hA hW hS q_eq (vp_in_nI (by decide) (by decide)) dX15_pour_110 (fun H locs hW hS => ?_)
      rw [show (2 : Int32).toNatClampNeg = 2 from (by decide)] at hW
      rw [q_upup] at hW
      have hW : q_W E (va_up f (pr i) (some (aI E 5 (upd (upd (upd gr 3 (z_fh (v (52 + 4 * i)) (v (53 + 4 * i)) (v (54 + 4 * i)) (z_add (hd i) (v (52 + 4 * i)) (v (53 + 4 * i)) x))) 4 (q_quot (v (55 + 4 * i) * v (53 + 4 * i)) (v (53 + 4 * i) + z_add (hd i) (v (52 + 4 * i)) (v (53 + 4 * i)) x))) 2 ((v (53 + 4 * i)) + (z_add (hd i) (v (52 + 4 * i)) (v (53 + 4 * i)) x)))))) n H := hW
      refine lv_iload hx hb dX15_pour_111 (lv_at hl 1 rfl) ?_
      exact q_iret hx hb hr hlocks hW hS ⟨(if_pos hpos), (by show LK E _ k pa re ki wa no pn pr hd (if 0 < z_add (hd i) (v (52 + 4 * i)) (v (53 + 4 * i)) x then (if (1 : Int32) = 0 then _ else z_pan v i (v (52 + 4 * i)) (v (53 + 4 * i) + z_add (hd i) (v (52 + 4 * i)) (v (53 + 4 * i)) x) (z_fh (v (52 + 4 * i)) (v (53 + 4 * i)) (v (54 + 4 * i)) (z_add (hd i) (v (52 + 4 * i)) (v (53 + 4 * i)) x)) (q_quot (v (55 + 4 * i) * v (53 + 4 * i)) (v (53 + 4 * i) + z_add (hd i) (v (52 + 4 * i)) (v (53 + 4 * i)) x))) else v) b w; rw [if_pos hpos, if_neg (by decide)]; exact LK.pan hK hs hi ((if_neg (by decide)).trans ((if_neg (by decide)).trans ((if_neg (by decide)).trans hg0))) ((if_neg (by decide)).trans ((if_neg (by decide)).trans ((if_neg (by decide)).trans hg1))) (if_pos rfl) ((if_neg (by decide)).trans ((if_neg (by decide)).trans (if_pos rfl))) ((if_neg (by decide)).trans (if_pos rfl))), rfl, (fun z9 g0 => (q_ne g0 rfl))⟩ (Nat.le_of_ble_eq_true rfl) (Nat.le_of_ble_eq_true rfl) dX15_pour_113
    · refine lv_iconst (v := 0) hx hb dX15_pour_33 (by decide) ?_
      exact q_iret hx hb hr hlocks hW hS ⟨(if_neg (by rw [c_30]; decide)), (by show LK E f k pa re ki wa no pn pr hd (if 0 < z_add (hd i) (v (52 + 4 * i)) (v (53 + 4 * i)) x then _ else v) b w; rw [if_neg (by rw [c_30]; decide)]; exact hK), rfl, (fun z9 _ => rfl)⟩ (Nat.le_of_ble_eq_true rfl) (Nat.le_of_ble_eq_true rfl) dX15_pour_34

theorem ah_min (N : Nat) : min (N + 1) 20 = if N < 20 then N + 1 else 20 := by split <;> omega

set_option maxHeartbeats 4000000 in
set_option maxRecDepth 100000 in
theorem kX15_ahead (l : Launch) (E : q_E) (f : q_H) (n : Nat) (r N : Nat) (x : Int32) (g : Nat → Int32) (h0 : f r = some (aI E N g)) (hN : N ≤ 20) : Met l yX15_ahead wsX15_ahead ({ frames := 0, cells := 1, slots := 20, locals := 0 }) (q_P E [.ref r, .int x] f n) (q_Qq E (fun r0 f1 n1 => ∃ (g1 : Nat → Int32), some n = r0 ∧ f1 n = some (aI E (min (N + 1) 20) g1) ∧ g1 0 = x ∧ (∀ j, j + 1 < min (N + 1) 20 → g1 (j + 1) = g j) ∧ n1 = n + 1 ∧ ∀ z9, z9 < n → f1 z9 = f z9)) 1 20 (q_ge E) := by
  refine Met.ofW (cc := cX15_ahead) (maxL := 4) (ret := (some (.array .int))) (by decide) rfl ?_
  intro p0_ e0_ s0_ m0_ args0_ below0_ meth0_ c0_ s1_ B hml hv
  obtain ⟨rfl, hA, hW⟩ := hv
  have hx := B.exec
  have hb := B.bytes
  have hr := B.returns
  have hts := atoms_spec (ws := wsX15_ahead) B.pre
  have hown : s0_.vm.findClass RX15 = some m0_.cls := findClass_of_methodNamed B.named
  have hlocks := B.notSynchronized
  have hS : va_S (q_ge E) s0_.heap s0_.heap [] := va_S.rf
  have hl := lv_entry ([.ref r, .int x]) (n := 4) (Nat.le_of_ble_eq_true rfl)
  rw [lg_entry_eq]
  generalize (lg_sl ([.ref r, .int x]) ++ List.replicate (4 - (lg_sl ([.ref r, .int x])).length) Slot.unset).toArray = ls at hl ⊢
  have hl : lv_has ls 4 [(0, .ref r), (1, .int x)] := hl
  have l_h0 := hW.lt h0
  obtain ⟨M, hM⟩ : ∃ M, M = min (N + 1) 20 := ⟨_, rfl⟩
  have hM1 : 1 ≤ M ∧ M ≤ 20 ∧ M ≤ N + 1 := by omega
  refine lv_aload_n hx hb dX15_ahead_0 rfl (lv_at hl 0 rfl) ?_
  refine q_alen hx hb hA hW 0 rfl h0 (v := nI N) rfl dX15_ahead_1 ?_
  refine lv_bipush (v := 20) hx hb dX15_ahead_2 (by decide) ?_
  refine lv_icmp_ge (tgt := 14) hx hb dX15_ahead_4 (by decide) (fun c_4 => ?_) (fun c_4 => ?_)
  · have h20 : 20 ≤ N := q_leN (a := 20) (b := N) (by decide) c_4 (by omega)
    refine lv_bipush (v := 20) hx hb dX15_ahead_14 (by decide) ?_
    refine w_top (show (20 : Int32) = nI M from by rw [show M = 20 by omega]; rfl) ?_
    refine q_newa (atype := .int) hx hb hA hW hS (hts (.arrayClass .int) (by decide +kernel)) (ty := .int) rfl 0 rfl (fun C h9 => by cases h9) (N' := M) (a0 := (M, .inl (fun _ => 0))) (fun _ => rfl) (nI_pos (by omega)) (nI_clamp (by omega)) (by show M * 4 ≤ 536870912; omega) (by show _ ≤ 1; omega) (by show _ ≤ 20; omega) dX15_ahead_16 (fun H hW hS => ?_)
    have hW : q_W E (va_up f n (some (aI E M (fun _ => 0)))) (n + 1) H := hW
    refine lv_astore_n (lv' := [(2, .ref n), (0, .ref r), (1, .int x)]) hx hb dX15_ahead_18 rfl hl (by decide) rfl (fun ls hl => ?_)
    refine lv_aload_n hx hb dX15_ahead_19 rfl (lv_at hl 0 rfl) ?_
    refine lv_iconst (v := 0) hx hb dX15_ahead_20 (by decide) ?_
    refine lv_iload_n hx hb dX15_ahead_21 rfl (lv_at hl 2 rfl) ?_
    refine q_iast hx hb hA hW hS q_eq (vp_in_nI (n := 0) (by omega) (by omega)) dX15_ahead_22 (fun H locs hW hS => ?_)
    rw [show (0 : Int32).toNatClampNeg = 0 from (by decide)] at hW
    rw [q_upup] at hW
    have hW : q_W E (va_up f n (some (aI E M (upd (fun _ => 0) 0 x)))) (n + 1) H := hW
    refine lv_iconst (v := 1) hx hb dX15_ahead_23 (by decide) ?_
    refine lv_istore_n (lv' := [(3, .int 1), (2, .ref n), (0, .ref r), (1, .int x)]) hx hb dX15_ahead_24 rfl hl (by decide) rfl (fun ls hl => ?_)
    have K25 : ∀ (fu : Nat) (i : Nat) (G : Nat → Int32) (hi1 : 1 ≤ i) (hi2 : i ≤ M) (hG0 : G 0 = x) (hG : ∀ j, j + 1 < i → G (j + 1) = g j) (hm : M - i < fu) (H : Heap) (locs : List Loc) (ls : Array Slot), q_W E (va_up f n (some (aI E M G))) (n + 1) H → va_S (q_ge E) s0_.heap H locs → lv_has ls 4 [(0, .ref r), (1, .int x), (2, .ref n), (3, .int (nI i))] → W p0_ l e0_ (headSpec wsX15_ahead ({ frames := 0, cells := 1, slots := 20, locals := 0 })).room s0_ m0_ ([.ref r, .int x] : List Value).toArray below0_ meth0_ c0_ H locs 1 M (MQ below0_ (q_Qq E (fun r0 f1 n1 => ∃ (g1 : Nat → Int32), some n = r0 ∧ f1 n = some (aI E (min (N + 1) 20) g1) ∧ g1 0 = x ∧ (∀ j, j + 1 < min (N + 1) 20 → g1 (j + 1) = g j) ∧ n1 = n + 1 ∧ ∀ z9, z9 < n → f1 z9 = f z9)) ([.ref r, .int x] : List Value).toArray s0_ 1 20 (q_ge E)) (F0 m0_ 25 ls []) := by
      intro fu
      induction fu with
      | zero =>
        intro i G hi1 hi2 hG0 hG hm
        exact absurd hm (Nat.not_lt_zero _)
      | succ fu ih =>
        intro i G hi1 hi2 hG0 hG hm H locs ls hW hS hl
        refine lv_iload_n hx hb dX15_ahead_25 rfl (lv_at hl 3 rfl) ?_
        refine lv_aload_n hx hb dX15_ahead_26 rfl (lv_at hl 2 rfl) ?_
        refine q_alen hx hb hA hW 0 rfl q_eq (v := nI M) rfl dX15_ahead_27 ?_
        refine lv_icmp_ge (tgt := 45) hx hb dX15_ahead_28 (by decide) (fun c_28 => ?_) (fun c_28 => ?_)
        · have hiM : i = M := Nat.le_antisymm hi2 (q_leN (by omega) c_28)
          refine lv_aload_n hx hb dX15_ahead_45 rfl (lv_at hl 2 rfl) ?_
          exact q_aret (v := some n) hx hb hr (Or.inr ⟨_, rfl⟩) hlocks hW hS ⟨G, rfl, (by rw [← hM]; exact q_eq), hG0, (fun j hj => hG j (by omega)), rfl, (fun z9 g0 => (q_ne (by omega) rfl))⟩ (by show _ ≤ 1; omega) (by show _ ≤ 20; omega) dX15_ahead_46
        · have hlt : i < M := q_gtn (by omega) c_28
          refine lv_aload_n hx hb dX15_ahead_31 rfl (lv_at hl 2 rfl) ?_
          refine lv_iload_n hx hb dX15_ahead_32 rfl (lv_at hl 3 rfl) ?_
          refine lv_aload_n hx hb dX15_ahead_33 rfl (lv_at hl 0 rfl) ?_
          refine lv_iload_n hx hb dX15_ahead_34 rfl (lv_at hl 3 rfl) ?_
          refine lv_iconst (v := 1) hx hb dX15_ahead_35 (by decide) ?_
          refine lv_isub hx hb dX15_ahead_36 ?_
          rw [show nI i - 1 = nI (i - 1) from pk_sub (a := i) (b := 1) hi1]
          refine q_iald hx hb hA hW (q_ne (by omega) h0) (vp_in_nI (by omega) (by omega)) dX15_ahead_37 ?_
          rw [nI_clamp (by omega)]
          refine q_iast hx hb hA hW hS q_eq (vp_in_nI hlt (by omega)) dX15_ahead_38 (fun H locs hW hS => ?_)
          rw [show (nI i).toNatClampNeg = i from (nI_clamp (by omega))] at hW
          rw [q_upup] at hW
          have hW : q_W E (va_up f n (some (aI E M (upd G i (g (i - 1)))))) (n + 1) H := hW
          refine lv_iinc (v := nI (i + 1)) (lv' := [(3, .int (nI (i + 1))), (0, .ref r), (1, .int x), (2, .ref n)]) hx hb dX15_ahead_39 hl (k := 3) rfl (nI_1 i) (by decide) rfl (fun ls hl => ?_)
          refine lv_goto (tgt := 25) hx hb dX15_ahead_42 (by decide) ?_
          exact ih (i + 1) (upd G i (g (i - 1))) (by omega) (by omega) ((if_neg (by omega)).trans hG0) (fun j hj => by by_cases e9 : j + 1 = i; (rw [e9]; exact (if_pos rfl).trans (by rw [show i - 1 = j by omega])); exact (if_neg e9).trans (hG j (by omega))) (by omega) _ _ _ hW hS (lv_sub hl [1, 2, 3, 0] rfl)
    refine w_eqc (c2 := 1) (s2 := M) (by omega) (by omega) ?_
    exact K25 _ 1 (upd (fun _ => 0) 0 x) (Nat.le_refl _) hM1.1 (if_pos rfl) (fun j hj => absurd hj (by omega)) (Nat.lt_succ_self _) _ _ _ hW hS (lv_sub hl [2, 3, 1, 0] rfl)
  · have h20 : N < 20 := q_gtn (a := 20) (b := N) (by decide) c_4 (by omega)
    refine lv_aload_n hx hb dX15_ahead_7 rfl (lv_at hl 0 rfl) ?_
    refine q_alen hx hb hA hW 0 rfl h0 (v := nI N) rfl dX15_ahead_8 ?_
    refine lv_iconst (v := 1) hx hb dX15_ahead_9 (by decide) ?_
    refine lv_iadd hx hb dX15_ahead_10 ?_
    refine lv_goto (tgt := 16) hx hb dX15_ahead_11 (by decide) ?_
    refine w_top (show nI N + 1 = nI M from by rw [nI_1]; congr 1; omega) ?_
    refine q_newa (atype := .int) hx hb hA hW hS (hts (.arrayClass .int) (by decide +kernel)) (ty := .int) rfl 0 rfl (fun C h9 => by cases h9) (N' := M) (a0 := (M, .inl (fun _ => 0))) (fun _ => rfl) (nI_pos (by omega)) (nI_clamp (by omega)) (by show M * 4 ≤ 536870912; omega) (by show _ ≤ 1; omega) (by show _ ≤ 20; omega) dX15_ahead_16 (fun H hW hS => ?_)
    have hW : q_W E (va_up f n (some (aI E M (fun _ => 0)))) (n + 1) H := hW
    refine lv_astore_n (lv' := [(2, .ref n), (0, .ref r), (1, .int x)]) hx hb dX15_ahead_18 rfl hl (by decide) rfl (fun ls hl => ?_)
    refine lv_aload_n hx hb dX15_ahead_19 rfl (lv_at hl 0 rfl) ?_
    refine lv_iconst (v := 0) hx hb dX15_ahead_20 (by decide) ?_
    refine lv_iload_n hx hb dX15_ahead_21 rfl (lv_at hl 2 rfl) ?_
    refine q_iast hx hb hA hW hS q_eq (vp_in_nI (n := 0) (by omega) (by omega)) dX15_ahead_22 (fun H locs hW hS => ?_)
    rw [show (0 : Int32).toNatClampNeg = 0 from (by decide)] at hW
    rw [q_upup] at hW
    have hW : q_W E (va_up f n (some (aI E M (upd (fun _ => 0) 0 x)))) (n + 1) H := hW
    refine lv_iconst (v := 1) hx hb dX15_ahead_23 (by decide) ?_
    refine lv_istore_n (lv' := [(3, .int 1), (2, .ref n), (0, .ref r), (1, .int x)]) hx hb dX15_ahead_24 rfl hl (by decide) rfl (fun ls hl => ?_)
    have K25 : ∀ (fu : Nat) (i : Nat) (G : Nat → Int32) (hi1 : 1 ≤ i) (hi2 : i ≤ M) (hG0 : G 0 = x) (hG : ∀ j, j + 1 < i → G (j + 1) = g j) (hm : M - i < fu) (H : Heap) (locs : List Loc) (ls : Array Slot), q_W E (va_up f n (some (aI E M G))) (n + 1) H → va_S (q_ge E) s0_.heap H locs → lv_has ls 4 [(0, .ref r), (1, .int x), (2, .ref n), (3, .int (nI i))] → W p0_ l e0_ (headSpec wsX15_ahead ({ frames := 0, cells := 1, slots := 20, locals := 0 })).room s0_ m0_ ([.ref r, .int x] : List Value).toArray below0_ meth0_ c0_ H locs 1 M (MQ below0_ (q_Qq E (fun r0 f1 n1 => ∃ (g1 : Nat → Int32), some n = r0 ∧ f1 n = some (aI E (min (N + 1) 20) g1) ∧ g1 0 = x ∧ (∀ j, j + 1 < min (N + 1) 20 → g1 (j + 1) = g j) ∧ n1 = n + 1 ∧ ∀ z9, z9 < n → f1 z9 = f z9)) ([.ref r, .int x] : List Value).toArray s0_ 1 20 (q_ge E)) (F0 m0_ 25 ls []) := by
      intro fu
      induction fu with
      | zero =>
        intro i G hi1 hi2 hG0 hG hm
        exact absurd hm (Nat.not_lt_zero _)
      | succ fu ih =>
        intro i G hi1 hi2 hG0 hG hm H locs ls hW hS hl
        refine lv_iload_n hx hb dX15_ahead_25 rfl (lv_at hl 3 rfl) ?_
        refine lv_aload_n hx hb dX15_ahead_26 rfl (lv_at hl 2 rfl) ?_
        refine q_alen hx hb hA hW 0 rfl q_eq (v := nI M) rfl dX15_ahead_27 ?_
        refine lv_icmp_ge (tgt := 45) hx hb dX15_ahead_28 (by decide) (fun c_28 => ?_) (fun c_28 => ?_)
        · have hiM : i = M := Nat.le_antisymm hi2 (q_leN (by omega) c_28)
          refine lv_aload_n hx hb dX15_ahead_45 rfl (lv_at hl 2 rfl) ?_
          exact q_aret (v := some n) hx hb hr (Or.inr ⟨_, rfl⟩) hlocks hW hS ⟨G, rfl, (by rw [← hM]; exact q_eq), hG0, (fun j hj => hG j (by omega)), rfl, (fun z9 g0 => (q_ne (by omega) rfl))⟩ (by show _ ≤ 1; omega) (by show _ ≤ 20; omega) dX15_ahead_46
        · have hlt : i < M := q_gtn (by omega) c_28
          refine lv_aload_n hx hb dX15_ahead_31 rfl (lv_at hl 2 rfl) ?_
          refine lv_iload_n hx hb dX15_ahead_32 rfl (lv_at hl 3 rfl) ?_
          refine lv_aload_n hx hb dX15_ahead_33 rfl (lv_at hl 0 rfl) ?_
          refine lv_iload_n hx hb dX15_ahead_34 rfl (lv_at hl 3 rfl) ?_
          refine lv_iconst (v := 1) hx hb dX15_ahead_35 (by decide) ?_
          refine lv_isub hx hb dX15_ahead_36 ?_
          rw [show nI i - 1 = nI (i - 1) from pk_sub (a := i) (b := 1) hi1]
          refine q_iald hx hb hA hW (q_ne (by omega) h0) (vp_in_nI (by omega) (by omega)) dX15_ahead_37 ?_
          rw [nI_clamp (by omega)]
          refine q_iast hx hb hA hW hS q_eq (vp_in_nI hlt (by omega)) dX15_ahead_38 (fun H locs hW hS => ?_)
          rw [show (nI i).toNatClampNeg = i from (nI_clamp (by omega))] at hW
          rw [q_upup] at hW
          have hW : q_W E (va_up f n (some (aI E M (upd G i (g (i - 1)))))) (n + 1) H := hW
          refine lv_iinc (v := nI (i + 1)) (lv' := [(3, .int (nI (i + 1))), (0, .ref r), (1, .int x), (2, .ref n)]) hx hb dX15_ahead_39 hl (k := 3) rfl (nI_1 i) (by decide) rfl (fun ls hl => ?_)
          refine lv_goto (tgt := 25) hx hb dX15_ahead_42 (by decide) ?_
          exact ih (i + 1) (upd G i (g (i - 1))) (by omega) (by omega) ((if_neg (by omega)).trans hG0) (fun j hj => by by_cases e9 : j + 1 = i; (rw [e9]; exact (if_pos rfl).trans (by rw [show i - 1 = j by omega])); exact (if_neg e9).trans (hG j (by omega))) (by omega) _ _ _ hW hS (lv_sub hl [1, 2, 3, 0] rfl)
    refine w_eqc (c2 := 1) (s2 := M) (by omega) (by omega) ?_
    exact K25 _ 1 (upd (fun _ => 0) 0 x) (Nat.le_refl _) hM1.1 (if_pos rfl) (fun j hj => absurd hj (by omega)) (Nat.lt_succ_self _) _ _ _ hW hS (lv_sub hl [2, 3, 1, 0] rfl)

