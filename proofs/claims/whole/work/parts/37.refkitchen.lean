/-! the reference's kitchen -/
def b_in (x lo hi : Int32) : Bool := !decide (x < lo) && !decide (hi < x)
theorem of_eq {i w : Nat} : (52 : Int32) + 4 * nI i + nI w = nI (52 + w + 4 * i) := by
  show nI 52 + nI 4 * nI i + nI w = _
  rw [pk_mul, nI_add, nI_add]
  congr 1
  omega
theorem i_sub2 (a b c : Int32) : a - (b + c) = a - b - c := by
  apply Int32.toBitVec_inj.1
  apply BitVec.eq_of_toNat_eq
  simp only [Int32.toBitVec_sub, Int32.toBitVec_add, BitVec.toNat_sub, BitVec.toNat_add]
  have h1 := a.toBitVec.isLt
  have h2 := b.toBitVec.isLt
  have h3 := c.toBitVec.isLt
  omega
theorem i_pos1 {x : Int32} : 1 ≤ x ↔ 0 < x := by
  rw [Int32.le_iff_toInt_le, Int32.lt_iff_toInt_lt, show (1 : Int32).toInt = 1 from rfl, show (0 : Int32).toInt = 0 from rfl]
  omega
theorem z_pan_u {v W : Nat → Int32} {i : Nat} {a b c d : Int32} (h0 : W (52 + 4 * i) = a) (h1 : W (53 + 4 * i) = b) (h2 : W (54 + 4 * i) = c) (h3 : W (55 + 4 * i) = d) (ho : ∀ q, (q < 52 + 4 * i ∨ 56 + 4 * i ≤ q) → W q = v q) : z_pan v i a b c d = W := by
  funext q
  by_cases e0 : q = 52 + 4 * i
  · subst e0; rw [z_pan_0, h0]
  · by_cases e1 : q = 53 + 4 * i
    · subst e1; rw [z_pan_1, h1]
    · by_cases e2 : q = 54 + 4 * i
      · subst e2; rw [z_pan_2, h2]
      · by_cases e3 : q = 55 + 4 * i
        · subst e3; rw [z_pan_3, h3]
        · rw [z_pan_n (by omega), ho q (by omega)]
theorem z_pass_us {v : Nat → Int32} {mi : Int32} {but j : Nat} (h : j ≠ but) : upd (z_pass v mi but j) (54 + 4 * j) (q_max 20 (z_pass v mi but j (54 + 4 * j) - mi / 2)) = z_pass v mi but (j + 1) := by
  rw [← z_pass_s h]
  exact (z_pan_u (z_un (by omega)) (z_un (by omega)) z_us (z_un (by omega)) (fun q hq => z_un (by omega))).symm
theorem z_move_us {v : Nat → Int32} {to : Int32} {j : Nat} (h : 0 < z_move v to j (52 + 4 * j)) : upd (z_move v to j) (54 + 4 * j) (q_min (z_move v to j (54 + 4 * j)) (z_boil (z_move v to j 0))) = z_move v to (j + 1) := by
  rw [← z_move_s h]
  exact (z_pan_u (z_un (by omega)) (z_un (by omega)) z_us (z_un (by omega)) (fun q hq => z_un (by omega))).symm

set_option maxHeartbeats 4000000 in
set_option maxRecDepth 100000 in
theorem kX14_isIn (l : Launch) (E : q_E) (f : q_H) (n : Nat) (x lo hi : Int32)  : Met l yX14_isIn wsX14_isIn ({ frames := 0, cells := 0, slots := 0, locals := 0 }) (q_P E [.int x, .int lo, .int hi] f n) (q_Qi E (fun r f1 n1 => b01 (b_in x lo hi) = r ∧ f = f1 ∧ n = n1)) 0 0 (q_ge E) := by
  refine Met.ofW (cc := cX14_isIn) (maxL := 3) (ret := (some .boolean)) (by decide) rfl ?_
  intro p e s m args below meth c s₁ B hml hv
  obtain ⟨rfl, hA, hW⟩ := hv
  have hx := B.exec
  have hb := B.bytes
  have hr := B.returns
  have hts := atoms_spec (ws := wsX14_isIn) B.pre
  have hown : s.vm.findClass RX14 = some m.cls := findClass_of_methodNamed B.named
  have hlocks := B.notSynchronized
  have hS : va_S (q_ge E) s.heap s.heap [] := va_S.rf
  have hl := lv_entry ([.int x, .int lo, .int hi]) (n := 3) (Nat.le_of_ble_eq_true rfl)
  rw [lg_entry_eq]
  generalize (lg_sl ([.int x, .int lo, .int hi]) ++ List.replicate (3 - (lg_sl ([.int x, .int lo, .int hi])).length) Slot.unset).toArray = ls at hl ⊢
  have hl : lv_has ls 3 [(0, .int x), (1, .int lo), (2, .int hi)] := hl
  refine lv_iload_n hx hb dX14_isIn_0 rfl (lv_at hl 0 rfl) ?_
  refine lv_iload_n hx hb dX14_isIn_1 rfl (lv_at hl 1 rfl) ?_
  refine lv_icmp_lt (tgt := 14) hx hb dX14_isIn_2 (by decide) (fun c_2 => ?_) (fun c_2 => ?_)
  · refine lv_iconst (v := 0) hx hb dX14_isIn_14 (by decide) ?_
    exact q_zret hx hb hr hlocks hW hS rfl ⟨by simp [b01, b_in, c_2], rfl, rfl⟩ (Nat.le_of_ble_eq_true rfl) (Nat.le_of_ble_eq_true rfl) dX14_isIn_15
  · refine lv_iload_n hx hb dX14_isIn_5 rfl (lv_at hl 0 rfl) ?_
    refine lv_iload_n hx hb dX14_isIn_6 rfl (lv_at hl 2 rfl) ?_
    refine lv_icmp_gt (tgt := 14) hx hb dX14_isIn_7 (by decide) (fun c_7 => ?_) (fun c_7 => ?_)
    · refine lv_iconst (v := 0) hx hb dX14_isIn_14 (by decide) ?_
      exact q_zret hx hb hr hlocks hW hS rfl ⟨by simp [b01, b_in, c_2, c_7], rfl, rfl⟩ (Nat.le_of_ble_eq_true rfl) (Nat.le_of_ble_eq_true rfl) dX14_isIn_15
    · refine lv_iconst (v := 1) hx hb dX14_isIn_10 (by decide) ?_
      refine lv_goto (tgt := 15) hx hb dX14_isIn_11 (by decide) ?_
      exact q_zret hx hb hr hlocks hW hS rfl ⟨by simp [b01, b_in, c_2, c_7], rfl, rfl⟩ (Nat.le_of_ble_eq_true rfl) (Nat.le_of_ble_eq_true rfl) dX14_isIn_15

set_option maxHeartbeats 4000000 in
set_option maxRecDepth 100000 in
theorem kX14_held (l : Launch) (E : q_E) (f : q_H) (n : Nat) (x lo hi : Int32)  : Met l yX14_held wsX14_held ({ frames := 1, cells := 0, slots := 0, locals := 21 }) (q_P E [.int x, .int lo, .int hi] f n) (q_Qi E (fun r f1 n1 => q_clamp x lo hi = r ∧ f = f1 ∧ n = n1)) 0 0 (q_ge E) := by
  refine Met.ofW (cc := cX14_held) (maxL := 3) (ret := (some .int)) (by decide) rfl ?_
  intro p e s m args below meth c s₁ B hml hv
  obtain ⟨rfl, hA, hW⟩ := hv
  have hx := B.exec
  have hb := B.bytes
  have hr := B.returns
  have hts := atoms_spec (ws := wsX14_held) B.pre
  have hown : s.vm.findClass RX14 = some m.cls := findClass_of_methodNamed B.named
  have hlocks := B.notSynchronized
  have hS : va_S (q_ge E) s.heap s.heap [] := va_S.rf
  have hl := lv_entry ([.int x, .int lo, .int hi]) (n := 3) (Nat.le_of_ble_eq_true rfl)
  rw [lg_entry_eq]
  generalize (lg_sl ([.int x, .int lo, .int hi]) ++ List.replicate (3 - (lg_sl ([.int x, .int lo, .int hi])).length) Slot.unset).toArray = ls at hl ⊢
  have hl : lv_has ls 3 [(0, .int x), (1, .int lo), (2, .int hi)] := hl
  refine lv_iload_n hx hb dX14_held_0 rfl (lv_at hl 1 rfl) ?_
  refine lv_iload_n hx hb dX14_held_1 rfl (lv_at hl 2 rfl) ?_
  refine lv_iload_n hx hb dX14_held_2 rfl (lv_at hl 0 rfl) ?_
  refine va_mmin hx hb (hml.trans hl.1.symm) hown (hts (.methodLink RX14 57 Lib.Math.min.name) (by decide +kernel)) (hts (.static Lib.Math.min.name) (by decide +kernel)) (hts (.initialized "java/lang/Math") (by decide +kernel)) (hts (.code Lib.Math.min.name Lib.Math.min.code 2 (some .int)) (by decide +kernel)) (Nat.le_of_ble_eq_true rfl) (Nat.le_of_ble_eq_true rfl) (Nat.le_of_ble_eq_true rfl) (Nat.le_of_ble_eq_true rfl) dX14_held_3 ?_
  refine va_mmax hx hb (hml.trans hl.1.symm) hown (hts (.methodLink RX14 63 Lib.Math.max.name) (by decide +kernel)) (hts (.static Lib.Math.max.name) (by decide +kernel)) (hts (.initialized "java/lang/Math") (by decide +kernel)) (hts (.code Lib.Math.max.name Lib.Math.max.code 2 (some .int)) (by decide +kernel)) (Nat.le_of_ble_eq_true rfl) (Nat.le_of_ble_eq_true rfl) (Nat.le_of_ble_eq_true rfl) (Nat.le_of_ble_eq_true rfl) dX14_held_6 ?_
  exact q_iret hx hb hr hlocks hW hS ⟨rfl, rfl, rfl⟩ (Nat.le_of_ble_eq_true rfl) (Nat.le_of_ble_eq_true rfl) dX14_held_9

set_option maxHeartbeats 4000000 in
set_option maxRecDepth 100000 in
theorem kX14_of_0 (l : Launch) (E : q_E) (f : q_H) (n : Nat) (i : Nat)  : Met l yX14_of wsX14_of ({ frames := 0, cells := 0, slots := 0, locals := 0 }) (q_P E [.int (nI i), .int 0] f n) (q_Qi E (fun r f1 n1 => nI (52 + 4 * i) = r ∧ f = f1 ∧ n = n1)) 0 0 (q_ge E) := by
  refine Met.ofW (cc := cX14_of) (maxL := 2) (ret := (some .int)) (by decide) rfl ?_
  intro p e s m args below meth c s₁ B hml hv
  obtain ⟨rfl, hA, hW⟩ := hv
  have hx := B.exec
  have hb := B.bytes
  have hr := B.returns
  have hts := atoms_spec (ws := wsX14_of) B.pre
  have hown : s.vm.findClass RX14 = some m.cls := findClass_of_methodNamed B.named
  have hlocks := B.notSynchronized
  have hS : va_S (q_ge E) s.heap s.heap [] := va_S.rf
  have hl := lv_entry ([.int (nI i), .int 0]) (n := 2) (Nat.le_of_ble_eq_true rfl)
  rw [lg_entry_eq]
  generalize (lg_sl ([.int (nI i), .int 0]) ++ List.replicate (2 - (lg_sl ([.int (nI i), .int 0])).length) Slot.unset).toArray = ls at hl ⊢
  have hl : lv_has ls 2 [(0, .int (nI i)), (1, .int 0)] := hl
  refine lv_bipush (v := 52) hx hb dX14_of_0 (by decide) ?_
  refine lv_iconst (v := 4) hx hb dX14_of_2 (by decide) ?_
  refine lv_iload_n hx hb dX14_of_3 rfl (lv_at hl 0 rfl) ?_
  refine lv_imul hx hb dX14_of_4 ?_
  refine lv_iadd hx hb dX14_of_5 ?_
  refine lv_iload_n hx hb dX14_of_6 rfl (lv_at hl 1 rfl) ?_
  refine lv_iadd hx hb dX14_of_7 ?_
  exact q_iret hx hb hr hlocks hW hS ⟨(of_eq (w := 0)).symm, rfl, rfl⟩ (Nat.le_of_ble_eq_true rfl) (Nat.le_of_ble_eq_true rfl) dX14_of_8

set_option maxHeartbeats 4000000 in
set_option maxRecDepth 100000 in
theorem kX14_of_1 (l : Launch) (E : q_E) (f : q_H) (n : Nat) (i : Nat)  : Met l yX14_of wsX14_of ({ frames := 0, cells := 0, slots := 0, locals := 0 }) (q_P E [.int (nI i), .int 1] f n) (q_Qi E (fun r f1 n1 => nI (53 + 4 * i) = r ∧ f = f1 ∧ n = n1)) 0 0 (q_ge E) := by
  refine Met.ofW (cc := cX14_of) (maxL := 2) (ret := (some .int)) (by decide) rfl ?_
  intro p e s m args below meth c s₁ B hml hv
  obtain ⟨rfl, hA, hW⟩ := hv
  have hx := B.exec
  have hb := B.bytes
  have hr := B.returns
  have hts := atoms_spec (ws := wsX14_of) B.pre
  have hown : s.vm.findClass RX14 = some m.cls := findClass_of_methodNamed B.named
  have hlocks := B.notSynchronized
  have hS : va_S (q_ge E) s.heap s.heap [] := va_S.rf
  have hl := lv_entry ([.int (nI i), .int 1]) (n := 2) (Nat.le_of_ble_eq_true rfl)
  rw [lg_entry_eq]
  generalize (lg_sl ([.int (nI i), .int 1]) ++ List.replicate (2 - (lg_sl ([.int (nI i), .int 1])).length) Slot.unset).toArray = ls at hl ⊢
  have hl : lv_has ls 2 [(0, .int (nI i)), (1, .int 1)] := hl
  refine lv_bipush (v := 52) hx hb dX14_of_0 (by decide) ?_
  refine lv_iconst (v := 4) hx hb dX14_of_2 (by decide) ?_
  refine lv_iload_n hx hb dX14_of_3 rfl (lv_at hl 0 rfl) ?_
  refine lv_imul hx hb dX14_of_4 ?_
  refine lv_iadd hx hb dX14_of_5 ?_
  refine lv_iload_n hx hb dX14_of_6 rfl (lv_at hl 1 rfl) ?_
  refine lv_iadd hx hb dX14_of_7 ?_
  exact q_iret hx hb hr hlocks hW hS ⟨(of_eq (w := 1)).symm, rfl, rfl⟩ (Nat.le_of_ble_eq_true rfl) (Nat.le_of_ble_eq_true rfl) dX14_of_8

set_option maxHeartbeats 4000000 in
set_option maxRecDepth 100000 in
theorem kX14_of_2 (l : Launch) (E : q_E) (f : q_H) (n : Nat) (i : Nat)  : Met l yX14_of wsX14_of ({ frames := 0, cells := 0, slots := 0, locals := 0 }) (q_P E [.int (nI i), .int 2] f n) (q_Qi E (fun r f1 n1 => nI (54 + 4 * i) = r ∧ f = f1 ∧ n = n1)) 0 0 (q_ge E) := by
  refine Met.ofW (cc := cX14_of) (maxL := 2) (ret := (some .int)) (by decide) rfl ?_
  intro p e s m args below meth c s₁ B hml hv
  obtain ⟨rfl, hA, hW⟩ := hv
  have hx := B.exec
  have hb := B.bytes
  have hr := B.returns
  have hts := atoms_spec (ws := wsX14_of) B.pre
  have hown : s.vm.findClass RX14 = some m.cls := findClass_of_methodNamed B.named
  have hlocks := B.notSynchronized
  have hS : va_S (q_ge E) s.heap s.heap [] := va_S.rf
  have hl := lv_entry ([.int (nI i), .int 2]) (n := 2) (Nat.le_of_ble_eq_true rfl)
  rw [lg_entry_eq]
  generalize (lg_sl ([.int (nI i), .int 2]) ++ List.replicate (2 - (lg_sl ([.int (nI i), .int 2])).length) Slot.unset).toArray = ls at hl ⊢
  have hl : lv_has ls 2 [(0, .int (nI i)), (1, .int 2)] := hl
  refine lv_bipush (v := 52) hx hb dX14_of_0 (by decide) ?_
  refine lv_iconst (v := 4) hx hb dX14_of_2 (by decide) ?_
  refine lv_iload_n hx hb dX14_of_3 rfl (lv_at hl 0 rfl) ?_
  refine lv_imul hx hb dX14_of_4 ?_
  refine lv_iadd hx hb dX14_of_5 ?_
  refine lv_iload_n hx hb dX14_of_6 rfl (lv_at hl 1 rfl) ?_
  refine lv_iadd hx hb dX14_of_7 ?_
  exact q_iret hx hb hr hlocks hW hS ⟨(of_eq (w := 2)).symm, rfl, rfl⟩ (Nat.le_of_ble_eq_true rfl) (Nat.le_of_ble_eq_true rfl) dX14_of_8

set_option maxHeartbeats 4000000 in
set_option maxRecDepth 100000 in
theorem kX14_of_3 (l : Launch) (E : q_E) (f : q_H) (n : Nat) (i : Nat)  : Met l yX14_of wsX14_of ({ frames := 0, cells := 0, slots := 0, locals := 0 }) (q_P E [.int (nI i), .int 3] f n) (q_Qi E (fun r f1 n1 => nI (55 + 4 * i) = r ∧ f = f1 ∧ n = n1)) 0 0 (q_ge E) := by
  refine Met.ofW (cc := cX14_of) (maxL := 2) (ret := (some .int)) (by decide) rfl ?_
  intro p e s m args below meth c s₁ B hml hv
  obtain ⟨rfl, hA, hW⟩ := hv
  have hx := B.exec
  have hb := B.bytes
  have hr := B.returns
  have hts := atoms_spec (ws := wsX14_of) B.pre
  have hown : s.vm.findClass RX14 = some m.cls := findClass_of_methodNamed B.named
  have hlocks := B.notSynchronized
  have hS : va_S (q_ge E) s.heap s.heap [] := va_S.rf
  have hl := lv_entry ([.int (nI i), .int 3]) (n := 2) (Nat.le_of_ble_eq_true rfl)
  rw [lg_entry_eq]
  generalize (lg_sl ([.int (nI i), .int 3]) ++ List.replicate (2 - (lg_sl ([.int (nI i), .int 3])).length) Slot.unset).toArray = ls at hl ⊢
  have hl : lv_has ls 2 [(0, .int (nI i)), (1, .int 3)] := hl
  refine lv_bipush (v := 52) hx hb dX14_of_0 (by decide) ?_
  refine lv_iconst (v := 4) hx hb dX14_of_2 (by decide) ?_
  refine lv_iload_n hx hb dX14_of_3 rfl (lv_at hl 0 rfl) ?_
  refine lv_imul hx hb dX14_of_4 ?_
  refine lv_iadd hx hb dX14_of_5 ?_
  refine lv_iload_n hx hb dX14_of_6 rfl (lv_at hl 1 rfl) ?_
  refine lv_iadd hx hb dX14_of_7 ?_
  exact q_iret hx hb hr hlocks hW hS ⟨(of_eq (w := 3)).symm, rfl, rfl⟩ (Nat.le_of_ble_eq_true rfl) (Nat.le_of_ble_eq_true rfl) dX14_of_8

set_option maxHeartbeats 4000000 in
set_option maxRecDepth 100000 in
theorem kX14_of (l : Launch) (E : q_E) (f : q_H) (n : Nat) (i w : Nat)  : Met l yX14_of wsX14_of ({ frames := 0, cells := 0, slots := 0, locals := 0 }) (q_P E [.int (nI i), .int (nI w)] f n) (q_Qi E (fun r f1 n1 => nI (52 + w + 4 * i) = r ∧ f = f1 ∧ n = n1)) 0 0 (q_ge E) := by
  refine Met.ofW (cc := cX14_of) (maxL := 2) (ret := (some .int)) (by decide) rfl ?_
  intro p e s m args below meth c s₁ B hml hv
  obtain ⟨rfl, hA, hW⟩ := hv
  have hx := B.exec
  have hb := B.bytes
  have hr := B.returns
  have hts := atoms_spec (ws := wsX14_of) B.pre
  have hown : s.vm.findClass RX14 = some m.cls := findClass_of_methodNamed B.named
  have hlocks := B.notSynchronized
  have hS : va_S (q_ge E) s.heap s.heap [] := va_S.rf
  have hl := lv_entry ([.int (nI i), .int (nI w)]) (n := 2) (Nat.le_of_ble_eq_true rfl)
  rw [lg_entry_eq]
  generalize (lg_sl ([.int (nI i), .int (nI w)]) ++ List.replicate (2 - (lg_sl ([.int (nI i), .int (nI w)])).length) Slot.unset).toArray = ls at hl ⊢
  have hl : lv_has ls 2 [(0, .int (nI i)), (1, .int (nI w))] := hl
  refine lv_bipush (v := 52) hx hb dX14_of_0 (by decide) ?_
  refine lv_iconst (v := 4) hx hb dX14_of_2 (by decide) ?_
  refine lv_iload_n hx hb dX14_of_3 rfl (lv_at hl 0 rfl) ?_
  refine lv_imul hx hb dX14_of_4 ?_
  refine lv_iadd hx hb dX14_of_5 ?_
  refine lv_iload_n hx hb dX14_of_6 rfl (lv_at hl 1 rfl) ?_
  refine lv_iadd hx hb dX14_of_7 ?_
  exact q_iret hx hb hr hlocks hW hS ⟨of_eq.symm, rfl, rfl⟩ (Nat.le_of_ble_eq_true rfl) (Nat.le_of_ble_eq_true rfl) dX14_of_8

set_option maxHeartbeats 4000000 in
set_option maxRecDepth 100000 in
theorem kX14_boils (l : Launch) (E : q_E) (f : q_H) (n : Nat) (x : Int32)  : Met l yX14_boils wsX14_boils ({ frames := 0, cells := 0, slots := 0, locals := 0 }) (q_P E [.int x] f n) (q_Qi E (fun r f1 n1 => z_boil x = r ∧ f = f1 ∧ n = n1)) 0 0 (q_ge E) := by
  refine Met.ofW (cc := cX14_boils) (maxL := 1) (ret := (some .int)) (by decide) rfl ?_
  intro p e s m args below meth c s₁ B hml hv
  obtain ⟨rfl, hA, hW⟩ := hv
  have hx := B.exec
  have hb := B.bytes
  have hr := B.returns
  have hts := atoms_spec (ws := wsX14_boils) B.pre
  have hown : s.vm.findClass RX14 = some m.cls := findClass_of_methodNamed B.named
  have hlocks := B.notSynchronized
  have hS : va_S (q_ge E) s.heap s.heap [] := va_S.rf
  have hl := lv_entry ([.int x]) (n := 1) (Nat.le_of_ble_eq_true rfl)
  rw [lg_entry_eq]
  generalize (lg_sl ([.int x]) ++ List.replicate (1 - (lg_sl ([.int x])).length) Slot.unset).toArray = ls at hl ⊢
  have hl : lv_has ls 1 [(0, .int x)] := hl
  refine lv_bipush (v := 100) hx hb dX14_boils_0 (by decide) ?_
  refine lv_iload_n hx hb dX14_boils_2 rfl (lv_at hl 0 rfl) ?_
  refine lv_iconst (v := 3) hx hb dX14_boils_3 (by decide) ?_
  refine lv_idiv hx hb dX14_boils_4 (by decide) ?_
  refine lv_isub hx hb dX14_boils_5 ?_
  exact q_iret hx hb hr hlocks hW hS ⟨rfl, rfl, rfl⟩ (Nat.le_of_ble_eq_true rfl) (Nat.le_of_ble_eq_true rfl) dX14_boils_6

set_option maxHeartbeats 4000000 in
set_option maxRecDepth 100000 in
theorem kX14_factor (l : Launch) (E : q_E) (f : q_H) (n : Nat) (x : Int32)  : Met l yX14_factor wsX14_factor ({ frames := 1, cells := 0, slots := 0, locals := 20 }) (q_P E [.int x] f n) (q_Qi E (fun r f1 n1 => z_slow x = r ∧ f = f1 ∧ n = n1)) 0 0 (q_ge E) := by
  refine Met.ofW (cc := cX14_factor) (maxL := 1) (ret := (some .int)) (by decide) rfl ?_
  intro p e s m args below meth c s₁ B hml hv
  obtain ⟨rfl, hA, hW⟩ := hv
  have hx := B.exec
  have hb := B.bytes
  have hr := B.returns
  have hts := atoms_spec (ws := wsX14_factor) B.pre
  have hown : s.vm.findClass RX14 = some m.cls := findClass_of_methodNamed B.named
  have hlocks := B.notSynchronized
  have hS : va_S (q_ge E) s.heap s.heap [] := va_S.rf
  have hl := lv_entry ([.int x]) (n := 1) (Nat.le_of_ble_eq_true rfl)
  rw [lg_entry_eq]
  generalize (lg_sl ([.int x]) ++ List.replicate (1 - (lg_sl ([.int x])).length) Slot.unset).toArray = ls at hl ⊢
  have hl : lv_has ls 1 [(0, .int x)] := hl
  refine lv_bipush (v := 100) hx hb dX14_factor_0 (by decide) ?_
  refine lv_iconst (v := 5) hx hb dX14_factor_2 (by decide) ?_
  refine lv_bipush (v := 100) hx hb dX14_factor_3 (by decide) ?_
  refine lv_iload_n hx hb dX14_factor_5 rfl (lv_at hl 0 rfl) ?_
  refine q_ci (va_runS (As := [.int x]) (rest := [.int 100, .int 5, .int 100]) ⟨hx, hb, hml, hown, hts⟩ (kX14_boils l E f n x) (va_cwS 1 hts gX14_factor_X14_boils rfl rfl rfl (by decide +kernel) ⟨(Nat.le_of_ble_eq_true rfl), (Nat.le_of_ble_eq_true rfl)⟩) (q_pS hA hW hS) rfl rfl hl.1 rfl (lv_room (Nat.le_of_ble_eq_true rfl)) dX14_factor_6 ⟨Nat.le_of_ble_eq_true rfl, Nat.le_of_ble_eq_true rfl⟩) hS (fun r_6 f_6 n_6 H locs hp hW hS => ?_)
  obtain ⟨rfl, rfl, rfl⟩ := hp
  have hW : q_W E (f) n H := hW
  refine lv_isub hx hb dX14_factor_9 ?_
  refine lv_imul hx hb dX14_factor_10 ?_
  refine lv_iadd hx hb dX14_factor_11 ?_
  exact q_iret hx hb hr hlocks hW hS ⟨rfl, rfl, rfl⟩ (Nat.le_of_ble_eq_true rfl) (Nat.le_of_ble_eq_true rfl) dX14_factor_12

set_option maxHeartbeats 4000000 in
set_option maxRecDepth 100000 in
theorem kX14_longer (l : Launch) (E : q_E) (f : q_H) (n : Nat) (t x : Int32)  : Met l yX14_longer wsX14_longer ({ frames := 2, cells := 0, slots := 0, locals := 40 }) (q_P E [.int t, .int x] f n) (q_Qi E (fun r f1 n1 => z_long t x = r ∧ f = f1 ∧ n = n1)) 0 0 (q_ge E) := by
  refine Met.ofW (cc := cX14_longer) (maxL := 2) (ret := (some .int)) (by decide) rfl ?_
  intro p e s m args below meth c s₁ B hml hv
  obtain ⟨rfl, hA, hW⟩ := hv
  have hx := B.exec
  have hb := B.bytes
  have hr := B.returns
  have hts := atoms_spec (ws := wsX14_longer) B.pre
  have hown : s.vm.findClass RX14 = some m.cls := findClass_of_methodNamed B.named
  have hlocks := B.notSynchronized
  have hS : va_S (q_ge E) s.heap s.heap [] := va_S.rf
  have hl := lv_entry ([.int t, .int x]) (n := 2) (Nat.le_of_ble_eq_true rfl)
  rw [lg_entry_eq]
  generalize (lg_sl ([.int t, .int x]) ++ List.replicate (2 - (lg_sl ([.int t, .int x])).length) Slot.unset).toArray = ls at hl ⊢
  have hl : lv_has ls 2 [(0, .int t), (1, .int x)] := hl
  refine lv_iload_n hx hb dX14_longer_0 rfl (lv_at hl 0 rfl) ?_
  refine lv_iload_n hx hb dX14_longer_1 rfl (lv_at hl 1 rfl) ?_
  refine q_ci (va_runS (As := [.int x]) (rest := [.int t]) ⟨hx, hb, hml, hown, hts⟩ (kX14_factor l E f n x) (va_cwS 1 hts gX14_longer_X14_factor rfl rfl rfl (by decide +kernel) ⟨(Nat.le_of_ble_eq_true rfl), (Nat.le_of_ble_eq_true rfl)⟩) (q_pS hA hW hS) rfl rfl hl.1 rfl (lv_room (Nat.le_of_ble_eq_true rfl)) dX14_longer_2 ⟨Nat.le_of_ble_eq_true rfl, Nat.le_of_ble_eq_true rfl⟩) hS (fun r_2 f_2 n_2 H locs hp hW hS => ?_)
  obtain ⟨rfl, rfl, rfl⟩ := hp
  have hW : q_W E (f) n H := hW
  refine lv_imul hx hb dX14_longer_5 ?_
  refine lv_bipush (v := 99) hx hb dX14_longer_6 (by decide) ?_
  refine lv_iadd hx hb dX14_longer_8 ?_
  refine lv_bipush (v := 100) hx hb dX14_longer_9 (by decide) ?_
  refine lv_idiv hx hb dX14_longer_11 (by decide) ?_
  exact q_iret hx hb hr hlocks hW hS ⟨rfl, rfl, rfl⟩ (Nat.le_of_ble_eq_true rfl) (Nat.le_of_ble_eq_true rfl) dX14_longer_12

set_option maxHeartbeats 4000000 in
set_option maxRecDepth 100000 in
theorem kX14_thrown (l : Launch) (E : q_E) (f : q_H) (n : Nat) (M : Nat) (r : q_R)  (hm : RM E f M r) : Met l yX14_thrown wsX14_thrown ({ frames := 0, cells := 0, slots := 0, locals := 0 }) (q_P E [.ref M] f n) (q_Qi E (fun r0 f1 n1 => (r 100 0) = r0 ∧ f = f1 ∧ n = n1)) 0 0 (q_ge E) := by
  refine Met.ofW (cc := cX14_thrown) (maxL := 1) (ret := (some .int)) (by decide) rfl ?_
  intro p e s m args below meth c s₁ B hml hv
  obtain ⟨rfl, hA, hW⟩ := hv
  have hx := B.exec
  have hb := B.bytes
  have hr := B.returns
  have hts := atoms_spec (ws := wsX14_thrown) B.pre
  have hown : s.vm.findClass RX14 = some m.cls := findClass_of_methodNamed B.named
  have hlocks := B.notSynchronized
  have hS : va_S (q_ge E) s.heap s.heap [] := va_S.rf
  have iX14 : ∀ w ∈ wsX140, w ∈ wsX14_thrown := by decide +kernel
  have hl := lv_entry ([.ref M]) (n := 1) (Nat.le_of_ble_eq_true rfl)
  rw [lg_entry_eq]
  generalize (lg_sl ([.ref M]) ++ List.replicate (1 - (lg_sl ([.ref M])).length) Slot.unset).toArray = ls at hl ⊢
  have hl : lv_has ls 1 [(0, .ref M)] := hl
  have hmE := hm.eq
  rw [hm.eq] at hW
  refine lv_aload_n hx hb dX14_thrown_0 rfl (lv_at hl 0 rfl) ?_
  refine q_get hx hb hts hown hA hW iX14 rO_0 rfl 0 (by decide) (hts (.fieldLink RX14 54 "HighRecipesModel" "thrown" "I") (by decide +kernel)) (fun _ h9 => h9) (v := .int (r 100 0)) rfl dX14_thrown_1 ?_
  exact q_iret hx hb hr hlocks hW hS ⟨rfl, hmE, rfl⟩ (Nat.le_of_ble_eq_true rfl) (Nat.le_of_ble_eq_true rfl) dX14_thrown_4

set_option maxHeartbeats 4000000 in
set_option maxRecDepth 100000 in
theorem kX14_no (l : Launch) (E : q_E) (f : q_H) (n : Nat) (M : Nat) (r : q_R) (x : Int32)  (hm : RM E f M r) : Met l yX14_no wsX14_no ({ frames := 0, cells := 0, slots := 0, locals := 0 }) (q_P E [.ref M, .int x] f n) (q_Qi E (fun r0 f1 n1 => 0 = r0 ∧ rO E f M (rp r 100 (fun _ => x)) = f1 ∧ n = n1)) 0 0 (q_ge E) := by
  refine Met.ofW (cc := cX14_no) (maxL := 2) (ret := (some .int)) (by decide) rfl ?_
  intro p e s m args below meth c s₁ B hml hv
  obtain ⟨rfl, hA, hW⟩ := hv
  have hx := B.exec
  have hb := B.bytes
  have hr := B.returns
  have hts := atoms_spec (ws := wsX14_no) B.pre
  have hown : s.vm.findClass RX14 = some m.cls := findClass_of_methodNamed B.named
  have hlocks := B.notSynchronized
  have hS : va_S (q_ge E) s.heap s.heap [] := va_S.rf
  have iX14 : ∀ w ∈ wsX140, w ∈ wsX14_no := by decide +kernel
  have hl := lv_entry ([.ref M, .int x]) (n := 2) (Nat.le_of_ble_eq_true rfl)
  rw [lg_entry_eq]
  generalize (lg_sl ([.ref M, .int x]) ++ List.replicate (2 - (lg_sl ([.ref M, .int x])).length) Slot.unset).toArray = ls at hl ⊢
  have hl : lv_has ls 2 [(0, .ref M), (1, .int x)] := hl
  have hmE := hm.eq
  rw [hm.eq] at hW
  refine lv_aload_n hx hb dX14_no_0 rfl (lv_at hl 0 rfl) ?_
  refine lv_iload_n hx hb dX14_no_1 rfl (lv_at hl 1 rfl) ?_
  refine q_put hx hb hts hown hA hW hS iX14 tyX14 tyX14_ok nmX14 rO_0 rfl 0 (by decide) (hts (.fieldLink RX14 54 "HighRecipesModel" "thrown" "I") (by decide +kernel)) (fun _ h9 => h9) rfl rfl rfl (Nat.le_of_ble_eq_true rfl) dX14_no_2 (fun H locs hW hS => ?_)
  have hW := q_s0 100 (x) hW rfl (by decide)
  refine lv_iconst (v := 0) hx hb dX14_no_5 (by decide) ?_
  exact q_iret hx hb hr hlocks hW hS ⟨rfl, rfl, rfl⟩ (Nat.le_of_ble_eq_true rfl) (Nat.le_of_ble_eq_true rfl) dX14_no_6

set_option maxHeartbeats 4000000 in
set_option maxRecDepth 100000 in
theorem kX14_ok (l : Launch) (E : q_E) (f : q_H) (n : Nat) (M : Nat) (r : q_R) (x : Int32)  (hm : RM E f M r) : Met l yX14_ok wsX14_ok ({ frames := 0, cells := 0, slots := 0, locals := 0 }) (q_P E [.ref M, .int x] f n) (q_Qi E (fun r0 f1 n1 => x = r0 ∧ rO E f M (rp r 100 (fun _ => 0)) = f1 ∧ n = n1)) 0 0 (q_ge E) := by
  refine Met.ofW (cc := cX14_ok) (maxL := 2) (ret := (some .int)) (by decide) rfl ?_
  intro p e s m args below meth c s₁ B hml hv
  obtain ⟨rfl, hA, hW⟩ := hv
  have hx := B.exec
  have hb := B.bytes
  have hr := B.returns
  have hts := atoms_spec (ws := wsX14_ok) B.pre
  have hown : s.vm.findClass RX14 = some m.cls := findClass_of_methodNamed B.named
  have hlocks := B.notSynchronized
  have hS : va_S (q_ge E) s.heap s.heap [] := va_S.rf
  have iX14 : ∀ w ∈ wsX140, w ∈ wsX14_ok := by decide +kernel
  have hl := lv_entry ([.ref M, .int x]) (n := 2) (Nat.le_of_ble_eq_true rfl)
  rw [lg_entry_eq]
  generalize (lg_sl ([.ref M, .int x]) ++ List.replicate (2 - (lg_sl ([.ref M, .int x])).length) Slot.unset).toArray = ls at hl ⊢
  have hl : lv_has ls 2 [(0, .ref M), (1, .int x)] := hl
  have hmE := hm.eq
  rw [hm.eq] at hW
  refine lv_aload_n hx hb dX14_ok_0 rfl (lv_at hl 0 rfl) ?_
  refine lv_iconst (v := 0) hx hb dX14_ok_1 (by decide) ?_
  refine q_put hx hb hts hown hA hW hS iX14 tyX14 tyX14_ok nmX14 rO_0 rfl 0 (by decide) (hts (.fieldLink RX14 54 "HighRecipesModel" "thrown" "I") (by decide +kernel)) (fun _ h9 => h9) rfl rfl rfl (Nat.le_of_ble_eq_true rfl) dX14_ok_2 (fun H locs hW hS => ?_)
  have hW := q_s0 100 (0) hW rfl (by decide)
  refine lv_iload_n hx hb dX14_ok_5 rfl (lv_at hl 1 rfl) ?_
  exact q_iret hx hb hr hlocks hW hS ⟨rfl, rfl, rfl⟩ (Nat.le_of_ble_eq_true rfl) (Nat.le_of_ble_eq_true rfl) dX14_ok_6

set_option maxHeartbeats 4000000 in
set_option maxRecDepth 100000 in
theorem kX14_boiling (l : Launch) (E : q_E) (f : q_H) (n : Nat) (M : Nat) (r : q_R)  (hm : RM E f M r) : Met l yX14_boiling wsX14_boiling ({ frames := 1, cells := 0, slots := 0, locals := 20 }) (q_P E [.ref M] f n) (q_Qi E (fun r0 f1 n1 => z_boil ((r 42) 0) = r0 ∧ f = f1 ∧ n = n1)) 0 0 (q_ge E) := by
  refine Met.ofW (cc := cX14_boiling) (maxL := 1) (ret := (some .int)) (by decide) rfl ?_
  intro p e s m args below meth c s₁ B hml hv
  obtain ⟨rfl, hA, hW⟩ := hv
  have hx := B.exec
  have hb := B.bytes
  have hr := B.returns
  have hts := atoms_spec (ws := wsX14_boiling) B.pre
  have hown : s.vm.findClass RX14 = some m.cls := findClass_of_methodNamed B.named
  have hlocks := B.notSynchronized
  have hS : va_S (q_ge E) s.heap s.heap [] := va_S.rf
  have iX14 : ∀ w ∈ wsX140, w ∈ wsX14_boiling := by decide +kernel
  have hl := lv_entry ([.ref M]) (n := 1) (Nat.le_of_ble_eq_true rfl)
  rw [lg_entry_eq]
  generalize (lg_sl ([.ref M]) ++ List.replicate (1 - (lg_sl ([.ref M])).length) Slot.unset).toArray = ls at hl ⊢
  have hl : lv_has ls 1 [(0, .ref M)] := hl
  have hmE := hm.eq
  rw [hm.eq] at hW
  refine lv_aload_n hx hb dX14_boiling_0 rfl (lv_at hl 0 rfl) ?_
  refine q_get hx hb hts hown hA hW iX14 rO_0 rfl 19 (by decide) (hts (.fieldLink RX14 45 "HighRecipesModel" "now" "[I") (by decide +kernel)) (fun _ h9 => h9) (v := .ref (M + 42)) rfl dX14_boiling_1 ?_
  refine lv_iconst (v := 0) hx hb dX14_boiling_4 (by decide) ?_
  refine q_ald hx hb hA hW (rO_42 (g := r 42) rfl) 0 rfl (by decide) (by decide) (x := (r 42) 0) rfl dX14_boiling_5 ?_
  refine q_ci (va_runS (As := [.int ((r 42) 0)]) (rest := []) ⟨hx, hb, hml, hown, hts⟩ (kX14_boils l E (rO E f M r) n ((r 42) 0)) (va_cwS 1 hts gX14_boiling_X14_boils rfl rfl rfl (by decide +kernel) ⟨(Nat.le_of_ble_eq_true rfl), (Nat.le_of_ble_eq_true rfl)⟩) (q_pS hA hW hS) rfl rfl hl.1 rfl (lv_room (Nat.le_of_ble_eq_true rfl)) dX14_boiling_6 ⟨Nat.le_of_ble_eq_true rfl, Nat.le_of_ble_eq_true rfl⟩) hS (fun r_6 f_6 n_6 H locs hp hW hS => ?_)
  obtain ⟨rfl, rfl, rfl⟩ := hp
  have hW : q_W E (rO E f M r) n H := hW
  exact q_iret hx hb hr hlocks hW hS ⟨rfl, hmE, rfl⟩ (Nat.le_of_ble_eq_true rfl) (Nat.le_of_ble_eq_true rfl) dX14_boiling_9

set_option maxHeartbeats 4000000 in
set_option maxRecDepth 100000 in
theorem kX14_inside (l : Launch) (E : q_E) (f : q_H) (n : Nat) (M : Nat) (r : q_R) (pn i : Nat)  (hm : RM E f M r) (hi : i < pn) (hpn : pn ≤ 8) : Met l yX14_inside wsX14_inside ({ frames := 1, cells := 0, slots := 0, locals := 21 }) (q_P E [.ref M, .int (nI i)] f n) (q_Qi E (fun r0 f1 n1 => (r 42) (52 + 4 * i) + (r 42) (53 + 4 * i) = r0 ∧ f = f1 ∧ n = n1)) 0 0 (q_ge E) := by
  refine Met.ofW (cc := cX14_inside) (maxL := 2) (ret := (some .int)) (by decide) rfl ?_
  intro p e s m args below meth c s₁ B hml hv
  obtain ⟨rfl, hA, hW⟩ := hv
  have hx := B.exec
  have hb := B.bytes
  have hr := B.returns
  have hts := atoms_spec (ws := wsX14_inside) B.pre
  have hown : s.vm.findClass RX14 = some m.cls := findClass_of_methodNamed B.named
  have hlocks := B.notSynchronized
  have hS : va_S (q_ge E) s.heap s.heap [] := va_S.rf
  have iX14 : ∀ w ∈ wsX140, w ∈ wsX14_inside := by decide +kernel
  have hl := lv_entry ([.ref M, .int (nI i)]) (n := 2) (Nat.le_of_ble_eq_true rfl)
  rw [lg_entry_eq]
  generalize (lg_sl ([.ref M, .int (nI i)]) ++ List.replicate (2 - (lg_sl ([.ref M, .int (nI i)])).length) Slot.unset).toArray = ls at hl ⊢
  have hl : lv_has ls 2 [(0, .ref M), (1, .int (nI i))] := hl
  have hmE := hm.eq
  rw [hm.eq] at hW
  refine lv_aload_n hx hb dX14_inside_0 rfl (lv_at hl 0 rfl) ?_
  refine q_get hx hb hts hown hA hW iX14 rO_0 rfl 19 (by decide) (hts (.fieldLink RX14 45 "HighRecipesModel" "now" "[I") (by decide +kernel)) (fun _ h9 => h9) (v := .ref (M + 42)) rfl dX14_inside_1 ?_
  refine lv_iload_n hx hb dX14_inside_4 rfl (lv_at hl 1 rfl) ?_
  refine lv_iconst (v := 0) hx hb dX14_inside_5 (by decide) ?_
  refine q_ci (va_runS (As := [.int (nI i), .int 0]) (rest := [.ref (M + 42)]) ⟨hx, hb, hml, hown, hts⟩ (kX14_of_0 l E (rO E f M r) n i) (va_cwS 2 hts gX14_inside_X14_of rfl rfl rfl (by decide +kernel) ⟨(Nat.le_of_ble_eq_true rfl), (Nat.le_of_ble_eq_true rfl)⟩) (q_pS hA hW hS) rfl rfl hl.1 rfl (lv_room (Nat.le_of_ble_eq_true rfl)) dX14_inside_6 ⟨Nat.le_of_ble_eq_true rfl, Nat.le_of_ble_eq_true rfl⟩) hS (fun r_6 f_6 n_6 H locs hp hW hS => ?_)
  obtain ⟨rfl, rfl, rfl⟩ := hp
  have hW : q_W E (rO E f M r) n H := hW
  refine q_ald hx hb hA hW (rO_42 (g := r 42) rfl) (52 + 4 * i) rfl (by omega) (by decide) (x := (r 42) (52 + 4 * i)) rfl dX14_inside_9 ?_
  refine lv_aload_n hx hb dX14_inside_10 rfl (lv_at hl 0 rfl) ?_
  refine q_get hx hb hts hown hA hW iX14 rO_0 rfl 19 (by decide) (hts (.fieldLink RX14 45 "HighRecipesModel" "now" "[I") (by decide +kernel)) (fun _ h9 => h9) (v := .ref (M + 42)) rfl dX14_inside_11 ?_
  refine lv_iload_n hx hb dX14_inside_14 rfl (lv_at hl 1 rfl) ?_
  refine lv_iconst (v := 1) hx hb dX14_inside_15 (by decide) ?_
  refine q_ci (va_runS (As := [.int (nI i), .int 1]) (rest := [.ref (M + 42), .int ((r 42) (52 + 4 * i))]) ⟨hx, hb, hml, hown, hts⟩ (kX14_of_1 l E (rO E f M r) n i) (va_cwS 2 hts gX14_inside_X14_of rfl rfl rfl (by decide +kernel) ⟨(Nat.le_of_ble_eq_true rfl), (Nat.le_of_ble_eq_true rfl)⟩) (q_pS hA hW hS) rfl rfl hl.1 rfl (lv_room (Nat.le_of_ble_eq_true rfl)) dX14_inside_16 ⟨Nat.le_of_ble_eq_true rfl, Nat.le_of_ble_eq_true rfl⟩) hS (fun r_16 f_16 n_16 H locs hp hW hS => ?_)
  obtain ⟨rfl, rfl, rfl⟩ := hp
  have hW : q_W E (rO E f M r) n H := hW
  refine q_ald hx hb hA hW (rO_42 (g := r 42) rfl) (53 + 4 * i) rfl (by omega) (by decide) (x := (r 42) (53 + 4 * i)) rfl dX14_inside_19 ?_
  refine lv_iadd hx hb dX14_inside_20 ?_
  exact q_iret hx hb hr hlocks hW hS ⟨rfl, hmE, rfl⟩ (Nat.le_of_ble_eq_true rfl) (Nat.le_of_ble_eq_true rfl) dX14_inside_21

set_option maxHeartbeats 4000000 in
set_option maxRecDepth 100000 in
theorem kX14_room (l : Launch) (E : q_E) (f : q_H) (n : Nat) (M : Nat) (r : q_R) (pn i : Nat)  (hm : RM E f M r) (hi : i < pn) (hpn : pn ≤ 8) : Met l yX14_room wsX14_room ({ frames := 2, cells := 0, slots := 0, locals := 42 }) (q_P E [.ref M, .int (nI i)] f n) (q_Qi E (fun r0 f1 n1 => (r 9) i - (r 42) (52 + 4 * i) - (r 42) (53 + 4 * i) = r0 ∧ f = f1 ∧ n = n1)) 0 0 (q_ge E) := by
  refine Met.ofW (cc := cX14_room) (maxL := 2) (ret := (some .int)) (by decide) rfl ?_
  intro p e s m args below meth c s₁ B hml hv
  obtain ⟨rfl, hA, hW⟩ := hv
  have hx := B.exec
  have hb := B.bytes
  have hr := B.returns
  have hts := atoms_spec (ws := wsX14_room) B.pre
  have hown : s.vm.findClass RX14 = some m.cls := findClass_of_methodNamed B.named
  have hlocks := B.notSynchronized
  have hS : va_S (q_ge E) s.heap s.heap [] := va_S.rf
  have iX13 : ∀ w ∈ wsX130, w ∈ wsX14_room := by decide +kernel
  have iX14 : ∀ w ∈ wsX140, w ∈ wsX14_room := by decide +kernel
  have hl := lv_entry ([.ref M, .int (nI i)]) (n := 2) (Nat.le_of_ble_eq_true rfl)
  rw [lg_entry_eq]
  generalize (lg_sl ([.ref M, .int (nI i)]) ++ List.replicate (2 - (lg_sl ([.ref M, .int (nI i)])).length) Slot.unset).toArray = ls at hl ⊢
  have hl : lv_has ls 2 [(0, .ref M), (1, .int (nI i))] := hl
  have hmE := hm.eq
  rw [hm.eq] at hW
  refine lv_aload_n hx hb dX14_room_0 rfl (lv_at hl 0 rfl) ?_
  refine q_get hx hb hts hown hA hW iX14 rO_0 rfl 17 (by decide) (hts (.fieldLink RX14 38 "HighRecipesModel" "told" "LHighRecipesModel$Book;") (by decide +kernel)) (fun _ h9 => h9) (v := .ref (M + 8)) rfl dX14_room_1 ?_
  refine q_getN hx hb hts hown hA hW iX13 rO_8 rfl 1 (by decide) (va_Nw.use rfl (hA.2.2.2.1 ("HighRecipesModel", 260, "HighRecipesModel$Book", "holds", "[I", "HighRecipesModel") (by decide +kernel))) (fun _ h9 => h9) (v := .ref (M + 9)) rfl dX14_room_4 ?_
  refine lv_iload_n hx hb dX14_room_7 rfl (lv_at hl 1 rfl) ?_
  refine q_ald hx hb hA hW (rO_9 (g := r 9) rfl) i rfl (by omega) (by decide) (x := (r 9) i) rfl dX14_room_8 ?_
  refine lv_aload_n hx hb dX14_room_9 rfl (lv_at hl 0 rfl) ?_
  refine lv_iload_n hx hb dX14_room_10 rfl (lv_at hl 1 rfl) ?_
  refine q_ci (va_runV (As := [.int (nI i)]) (rest := [.int ((r 9) i)]) ⟨hx, hb, hml, hown, hts⟩ (kX14_inside l E (rO E f M r) n M r pn i rO_K (by assumption) (by assumption)) (cwV 1 hts gX14_room_X14_inside rfl rfl rfl (by decide +kernel) ⟨(Nat.le_of_ble_eq_true rfl), (Nat.le_of_ble_eq_true rfl)⟩) (q_pV hA hW hS (ci := 12) rfl rO_0) rfl rfl hl.1 rfl (lv_room (Nat.le_of_ble_eq_true rfl)) dX14_room_11 ⟨Nat.le_of_ble_eq_true rfl, Nat.le_of_ble_eq_true rfl⟩) hS (fun r_11 f_11 n_11 H locs hp hW hS => ?_)
  obtain ⟨rfl, rfl, rfl⟩ := hp
  have hW : q_W E (rO E f M r) n H := hW
  refine lv_isub hx hb dX14_room_14 ?_
  exact q_iret hx hb hr hlocks hW hS ⟨(i_sub2 _ _ _).symm, hmE, rfl⟩ (Nat.le_of_ble_eq_true rfl) (Nat.le_of_ble_eq_true rfl) dX14_room_15

set_option maxHeartbeats 4000000 in
set_option maxRecDepth 100000 in
theorem kX14_translated (l : Launch) (E : q_E) (f : q_H) (n : Nat) (M : Nat) (r : q_R) (x : Int32)  (hm : RM E f M r) (hsp : ¬ 4 * (r 42) 2 = 0) : Met l yX14_translated wsX14_translated ({ frames := 2, cells := 0, slots := 0, locals := 43 }) (q_P E [.ref M, .int x] f n) (q_Qi E (fun r0 f1 n1 => z_tr (r 42) x = r0 ∧ f = f1 ∧ n = n1)) 0 0 (q_ge E) := by
  refine Met.ofW (cc := cX14_translated) (maxL := 3) (ret := (some .int)) (by decide) rfl ?_
  intro p e s m args below meth c s₁ B hml hv
  obtain ⟨rfl, hA, hW⟩ := hv
  have hx := B.exec
  have hb := B.bytes
  have hr := B.returns
  have hts := atoms_spec (ws := wsX14_translated) B.pre
  have hown : s.vm.findClass RX14 = some m.cls := findClass_of_methodNamed B.named
  have hlocks := B.notSynchronized
  have hS : va_S (q_ge E) s.heap s.heap [] := va_S.rf
  have iX14 : ∀ w ∈ wsX140, w ∈ wsX14_translated := by decide +kernel
  have hl := lv_entry ([.ref M, .int x]) (n := 3) (Nat.le_of_ble_eq_true rfl)
  rw [lg_entry_eq]
  generalize (lg_sl ([.ref M, .int x]) ++ List.replicate (3 - (lg_sl ([.ref M, .int x])).length) Slot.unset).toArray = ls at hl ⊢
  have hl : lv_has ls 3 [(0, .ref M), (1, .int x)] := hl
  have hmE := hm.eq
  rw [hm.eq] at hW
  refine lv_aload_n hx hb dX14_translated_0 rfl (lv_at hl 0 rfl) ?_
  refine q_get hx hb hts hown hA hW iX14 rO_0 rfl 19 (by decide) (hts (.fieldLink RX14 45 "HighRecipesModel" "now" "[I") (by decide +kernel)) (fun _ h9 => h9) (v := .ref (M + 42)) rfl dX14_translated_1 ?_
  refine lv_iconst (v := 2) hx hb dX14_translated_4 (by decide) ?_
  refine q_ald hx hb hA hW (rO_42 (g := r 42) rfl) 2 rfl (by decide) (by decide) (x := (r 42) 2) rfl dX14_translated_5 ?_
  refine lv_istore_n (lv' := [(2, .int ((r 42) 2)), (0, .ref M), (1, .int x)]) hx hb dX14_translated_6 rfl hl (by decide) rfl (fun ls hl => ?_)
  refine lv_iload_n hx hb dX14_translated_7 rfl (lv_at hl 2 rfl) ?_
  refine lv_iconst (v := 0) hx hb dX14_translated_8 (by decide) ?_
  refine lv_sipush (v := 999) hx hb dX14_translated_9 (by decide) ?_
  refine q_ci (va_runS (As := [.int x, .int 0, .int 999]) (rest := []) ⟨hx, hb, hml, hown, hts⟩ (kX14_held l E (rO E f M r) n x 0 999) (va_cwS 3 hts gX14_translated_X14_held rfl rfl rfl (by decide +kernel) ⟨(Nat.le_of_ble_eq_true rfl), (Nat.le_of_ble_eq_true rfl)⟩) (q_pS hA hW hS) rfl rfl hl.1 rfl (lv_room (Nat.le_of_ble_eq_true rfl)) dX14_translated_12 ⟨Nat.le_of_ble_eq_true rfl, Nat.le_of_ble_eq_true rfl⟩) hS (fun r_12 f_12 n_12 H locs hp hW hS => ?_)
  obtain ⟨rfl, rfl, rfl⟩ := hp
  have hW : q_W E (rO E f M r) n H := hW
  refine lv_aload_n hx hb dX14_translated_15 rfl (lv_at hl 1 rfl) ?_
  refine q_get hx hb hts hown hA hW iX14 rO_0 rfl 19 (by decide) (hts (.fieldLink RX14 45 "HighRecipesModel" "now" "[I") (by decide +kernel)) (fun _ h9 => h9) (v := .ref (M + 42)) rfl dX14_translated_16 ?_
  refine lv_iconst (v := 1) hx hb dX14_translated_19 (by decide) ?_
  refine q_ald hx hb hA hW (rO_42 (g := r 42) rfl) 1 rfl (by decide) (by decide) (x := (r 42) 1) rfl dX14_translated_20 ?_
  refine lv_imul hx hb dX14_translated_21 ?_
  refine lv_iconst (v := 2) hx hb dX14_translated_22 (by decide) ?_
  refine lv_iload_n hx hb dX14_translated_23 rfl (lv_at hl 0 rfl) ?_
  refine lv_imul hx hb dX14_translated_24 ?_
  refine lv_iadd hx hb dX14_translated_25 ?_
  refine lv_iconst (v := 4) hx hb dX14_translated_26 (by decide) ?_
  refine lv_iload_n hx hb dX14_translated_27 rfl (lv_at hl 0 rfl) ?_
  refine lv_imul hx hb dX14_translated_28 ?_
  refine lv_idiv hx hb dX14_translated_29 hsp ?_
  refine lv_iload_n hx hb dX14_translated_30 rfl (lv_at hl 0 rfl) ?_
  refine lv_imul hx hb dX14_translated_31 ?_
  exact q_iret hx hb hr hlocks hW hS ⟨(by show q_quot _ _ * _ = _; unfold q_quot; rw [if_neg hsp]), hmE, rfl⟩ (Nat.le_of_ble_eq_true rfl) (Nat.le_of_ble_eq_true rfl) dX14_translated_32

set_option maxHeartbeats 4000000 in
set_option maxRecDepth 100000 in
theorem kX14_bare (l : Launch) (E : q_E) (f : q_H) (n : Nat) (M : Nat) (r : q_R) (pn i : Nat)  (hm : RM E f M r) (hi : i < pn) (hpn : pn ≤ 8) : Met l yX14_bare wsX14_bare ({ frames := 1, cells := 0, slots := 0, locals := 21 }) (q_P E [.ref M, .int (nI i)] f n) (q_Qv E (fun f1 n1 => rO E f M (rp r 42 (z_pan (r 42) i 0 0 20 0)) = f1 ∧ n = n1)) 0 0 (q_ge E) := by
  refine Met.ofW (cc := cX14_bare) (maxL := 2) (ret := none) (by decide) rfl ?_
  intro p e s m args below meth c s₁ B hml hv
  obtain ⟨rfl, hA, hW⟩ := hv
  have hx := B.exec
  have hb := B.bytes
  have hr := B.returns
  have hts := atoms_spec (ws := wsX14_bare) B.pre
  have hown : s.vm.findClass RX14 = some m.cls := findClass_of_methodNamed B.named
  have hlocks := B.notSynchronized
  have hS : va_S (q_ge E) s.heap s.heap [] := va_S.rf
  have iX14 : ∀ w ∈ wsX140, w ∈ wsX14_bare := by decide +kernel
  have hl := lv_entry ([.ref M, .int (nI i)]) (n := 2) (Nat.le_of_ble_eq_true rfl)
  rw [lg_entry_eq]
  generalize (lg_sl ([.ref M, .int (nI i)]) ++ List.replicate (2 - (lg_sl ([.ref M, .int (nI i)])).length) Slot.unset).toArray = ls at hl ⊢
  have hl : lv_has ls 2 [(0, .ref M), (1, .int (nI i))] := hl
  have hmE := hm.eq
  rw [hm.eq] at hW
  refine lv_aload_n hx hb dX14_bare_0 rfl (lv_at hl 0 rfl) ?_
  refine q_get hx hb hts hown hA hW iX14 rO_0 rfl 19 (by decide) (hts (.fieldLink RX14 45 "HighRecipesModel" "now" "[I") (by decide +kernel)) (fun _ h9 => h9) (v := .ref (M + 42)) rfl dX14_bare_1 ?_
  refine lv_iload_n hx hb dX14_bare_4 rfl (lv_at hl 1 rfl) ?_
  refine lv_iconst (v := 0) hx hb dX14_bare_5 (by decide) ?_
  refine q_ci (va_runS (As := [.int (nI i), .int 0]) (rest := [.ref (M + 42)]) ⟨hx, hb, hml, hown, hts⟩ (kX14_of_0 l E (rO E f M r) n i) (va_cwS 2 hts gX14_bare_X14_of rfl rfl rfl (by decide +kernel) ⟨(Nat.le_of_ble_eq_true rfl), (Nat.le_of_ble_eq_true rfl)⟩) (q_pS hA hW hS) rfl rfl hl.1 rfl (lv_room (Nat.le_of_ble_eq_true rfl)) dX14_bare_6 ⟨Nat.le_of_ble_eq_true rfl, Nat.le_of_ble_eq_true rfl⟩) hS (fun r_6 f_6 n_6 H locs hp hW hS => ?_)
  obtain ⟨rfl, rfl, rfl⟩ := hp
  have hW : q_W E (rO E f M r) n H := hW
  refine lv_iconst (v := 0) hx hb dX14_bare_9 (by decide) ?_
  refine q_ast hx hb hA hW hS (rO_42 (g := r 42) rfl) (52 + 4 * i) rfl (by omega) (by decide) dX14_bare_10 (fun H locs hW hS => ?_)
  have hW := q_sa 42 hW rfl rfl
  refine lv_aload_n hx hb dX14_bare_11 rfl (lv_at hl 0 rfl) ?_
  refine q_get hx hb hts hown hA hW iX14 rO_0 rfl 19 (by decide) (hts (.fieldLink RX14 45 "HighRecipesModel" "now" "[I") (by decide +kernel)) (fun _ h9 => h9) (v := .ref (M + 42)) rfl dX14_bare_12 ?_
  refine lv_iload_n hx hb dX14_bare_15 rfl (lv_at hl 1 rfl) ?_
  refine lv_iconst (v := 1) hx hb dX14_bare_16 (by decide) ?_
  refine q_ci (va_runS (As := [.int (nI i), .int 1]) (rest := [.ref (M + 42)]) ⟨hx, hb, hml, hown, hts⟩ (kX14_of_1 l E (rO E f M (rp r 42 (upd (r 42) (52 + 4 * i) 0))) n i) (va_cwS 2 hts gX14_bare_X14_of rfl rfl rfl (by decide +kernel) ⟨(Nat.le_of_ble_eq_true rfl), (Nat.le_of_ble_eq_true rfl)⟩) (q_pS hA hW hS) rfl rfl hl.1 rfl (lv_room (Nat.le_of_ble_eq_true rfl)) dX14_bare_17 ⟨Nat.le_of_ble_eq_true rfl, Nat.le_of_ble_eq_true rfl⟩) hS (fun r_17 f_17 n_17 H locs hp hW hS => ?_)
  obtain ⟨rfl, rfl, rfl⟩ := hp
  have hW : q_W E (rO E f M (rp r 42 (upd (r 42) (52 + 4 * i) 0))) n H := hW
  refine lv_iconst (v := 0) hx hb dX14_bare_20 (by decide) ?_
  refine q_ast hx hb hA hW hS (rO_42 (g := upd (r 42) (52 + 4 * i) 0) rfl) (53 + 4 * i) rfl (by omega) (by decide) dX14_bare_21 (fun H locs hW hS => ?_)
  have hW := q_sa 42 hW rfl rfl
  rw [rp_d0] at hW
  refine lv_aload_n hx hb dX14_bare_22 rfl (lv_at hl 0 rfl) ?_
  refine q_get hx hb hts hown hA hW iX14 rO_0 rfl 19 (by decide) (hts (.fieldLink RX14 45 "HighRecipesModel" "now" "[I") (by decide +kernel)) (fun _ h9 => h9) (v := .ref (M + 42)) rfl dX14_bare_23 ?_
  refine lv_iload_n hx hb dX14_bare_26 rfl (lv_at hl 1 rfl) ?_
  refine lv_iconst (v := 2) hx hb dX14_bare_27 (by decide) ?_
  refine q_ci (va_runS (As := [.int (nI i), .int 2]) (rest := [.ref (M + 42)]) ⟨hx, hb, hml, hown, hts⟩ (kX14_of_2 l E (rO E f M (rp r 42 (upd (upd (r 42) (52 + 4 * i) 0) (53 + 4 * i) 0))) n i) (va_cwS 2 hts gX14_bare_X14_of rfl rfl rfl (by decide +kernel) ⟨(Nat.le_of_ble_eq_true rfl), (Nat.le_of_ble_eq_true rfl)⟩) (q_pS hA hW hS) rfl rfl hl.1 rfl (lv_room (Nat.le_of_ble_eq_true rfl)) dX14_bare_28 ⟨Nat.le_of_ble_eq_true rfl, Nat.le_of_ble_eq_true rfl⟩) hS (fun r_28 f_28 n_28 H locs hp hW hS => ?_)
  obtain ⟨rfl, rfl, rfl⟩ := hp
  have hW : q_W E (rO E f M (rp r 42 (upd (upd (r 42) (52 + 4 * i) 0) (53 + 4 * i) 0))) n H := hW
  refine lv_bipush (v := 20) hx hb dX14_bare_31 (by decide) ?_
  refine q_ast hx hb hA hW hS (rO_42 (g := upd (upd (r 42) (52 + 4 * i) 0) (53 + 4 * i) 0) rfl) (54 + 4 * i) rfl (by omega) (by decide) dX14_bare_33 (fun H locs hW hS => ?_)
  have hW := q_sa 42 hW rfl rfl
  rw [rp_d0] at hW
  refine lv_aload_n hx hb dX14_bare_34 rfl (lv_at hl 0 rfl) ?_
  refine q_get hx hb hts hown hA hW iX14 rO_0 rfl 19 (by decide) (hts (.fieldLink RX14 45 "HighRecipesModel" "now" "[I") (by decide +kernel)) (fun _ h9 => h9) (v := .ref (M + 42)) rfl dX14_bare_35 ?_
  refine lv_iload_n hx hb dX14_bare_38 rfl (lv_at hl 1 rfl) ?_
  refine lv_iconst (v := 3) hx hb dX14_bare_39 (by decide) ?_
  refine q_ci (va_runS (As := [.int (nI i), .int 3]) (rest := [.ref (M + 42)]) ⟨hx, hb, hml, hown, hts⟩ (kX14_of_3 l E (rO E f M (rp r 42 (upd (upd (upd (r 42) (52 + 4 * i) 0) (53 + 4 * i) 0) (54 + 4 * i) 20))) n i) (va_cwS 2 hts gX14_bare_X14_of rfl rfl rfl (by decide +kernel) ⟨(Nat.le_of_ble_eq_true rfl), (Nat.le_of_ble_eq_true rfl)⟩) (q_pS hA hW hS) rfl rfl hl.1 rfl (lv_room (Nat.le_of_ble_eq_true rfl)) dX14_bare_40 ⟨Nat.le_of_ble_eq_true rfl, Nat.le_of_ble_eq_true rfl⟩) hS (fun r_40 f_40 n_40 H locs hp hW hS => ?_)
  obtain ⟨rfl, rfl, rfl⟩ := hp
  have hW : q_W E (rO E f M (rp r 42 (upd (upd (upd (r 42) (52 + 4 * i) 0) (53 + 4 * i) 0) (54 + 4 * i) 20))) n H := hW
  refine lv_iconst (v := 0) hx hb dX14_bare_43 (by decide) ?_
  refine q_ast hx hb hA hW hS (rO_42 (g := upd (upd (upd (r 42) (52 + 4 * i) 0) (53 + 4 * i) 0) (54 + 4 * i) 20) rfl) (55 + 4 * i) rfl (by omega) (by decide) dX14_bare_44 (fun H locs hW hS => ?_)
  have hW := q_sa 42 hW rfl rfl
  rw [rp_d0] at hW
  exact q_vret hx hb hr hlocks hW hS ⟨(congrArg (fun z => rO E f M (rp r 42 z)) (z_pan_u (by rw [z_un (by omega), z_un (by omega), z_un (by omega), z_us]) (by rw [z_un (by omega), z_un (by omega), z_us]) (by rw [z_un (by omega), z_us]) z_us (fun q hq => by rw [z_un (by omega), z_un (by omega), z_un (by omega), z_un (by omega)]))), rfl⟩ (Nat.le_of_ble_eq_true rfl) (Nat.le_of_ble_eq_true rfl) dX14_bare_45

set_option maxHeartbeats 4000000 in
set_option maxRecDepth 100000 in
theorem kX14_goBy (l : Launch) (E : q_E) (f : q_H) (n : Nat) (M : Nat) (r : q_R) (pn : Nat) (mi : Int32) (but : Nat)  (hm : RM E f M r) (hpn9 : (r 120 0) = nI pn) (hpn : pn ≤ 8) (hbut : but < 2 ^ 31) : Met l yX14_goBy wsX14_goBy ({ frames := 1, cells := 0, slots := 0, locals := 21 }) (q_P E [.ref M, .int mi, .int (nI but)] f n) (q_Qv E (fun f1 n1 => rO E f M (rp r 42 (z_pass (r 42) mi but pn)) = f1 ∧ n = n1)) 0 0 (q_ge E) := by
  refine Met.ofW (cc := cX14_goBy) (maxL := 4) (ret := none) (by decide) rfl ?_
  intro p e s m args below meth c s₁ B hml hv
  obtain ⟨rfl, hA, hW⟩ := hv
  have hx := B.exec
  have hb := B.bytes
  have hr := B.returns
  have hts := atoms_spec (ws := wsX14_goBy) B.pre
  have hown : s.vm.findClass RX14 = some m.cls := findClass_of_methodNamed B.named
  have hlocks := B.notSynchronized
  have hS : va_S (q_ge E) s.heap s.heap [] := va_S.rf
  have iX13 : ∀ w ∈ wsX130, w ∈ wsX14_goBy := by decide +kernel
  have iX14 : ∀ w ∈ wsX140, w ∈ wsX14_goBy := by decide +kernel
  have hl := lv_entry ([.ref M, .int mi, .int (nI but)]) (n := 4) (Nat.le_of_ble_eq_true rfl)
  rw [lg_entry_eq]
  generalize (lg_sl ([.ref M, .int mi, .int (nI but)]) ++ List.replicate (4 - (lg_sl ([.ref M, .int mi, .int (nI but)])).length) Slot.unset).toArray = ls at hl ⊢
  have hl : lv_has ls 4 [(0, .ref M), (1, .int mi), (2, .int (nI but))] := hl
  have hmE := hm.eq
  rw [hm.eq] at hW
  refine lv_aload_n hx hb dX14_goBy_0 rfl (lv_at hl 0 rfl) ?_
  refine q_get hx hb hts hown hA hW iX14 rO_0 rfl 19 (by decide) (hts (.fieldLink RX14 45 "HighRecipesModel" "now" "[I") (by decide +kernel)) (fun _ h9 => h9) (v := .ref (M + 42)) rfl dX14_goBy_1 ?_
  refine lv_iconst (v := 3) hx hb dX14_goBy_4 (by decide) ?_
  refine lv_dup2_11 hx hb dX14_goBy_5 rfl rfl ?_
  refine q_ald hx hb hA hW (rO_42 (g := r 42) rfl) 3 rfl (by decide) (by decide) (x := (r 42) 3) rfl dX14_goBy_6 ?_
  refine lv_iload_n hx hb dX14_goBy_7 rfl (lv_at hl 1 rfl) ?_
  refine lv_iadd hx hb dX14_goBy_8 ?_
  refine q_ast hx hb hA hW hS (rO_42 (g := r 42) rfl) 3 rfl (by decide) (by decide) dX14_goBy_9 (fun H locs hW hS => ?_)
  have hW := q_sa 42 hW rfl rfl
  refine lv_iconst (v := 0) hx hb dX14_goBy_10 (by decide) ?_
  refine lv_istore_n (lv' := [(3, .int 0), (0, .ref M), (1, .int mi), (2, .int (nI but))]) hx hb dX14_goBy_11 rfl hl (by decide) rfl (fun ls hl => ?_)
  have K12 : ∀ (fu : Nat) (j : Nat) (hj : j ≤ pn) (hm : pn - j < fu) (H : Heap) (locs : List Loc) (ls : Array Slot), q_W E (rO E f M (rp r 42 (z_pass (r 42) mi but j))) n H → va_S (q_ge E) s.heap H locs → lv_has ls 4 [(0, .ref M), (1, .int mi), (2, .int (nI but)), (3, .int (nI j))] → W p l e (headSpec wsX14_goBy ({ frames := 1, cells := 0, slots := 0, locals := 21 })).room s m ([.ref M, .int mi, .int (nI but)] : List Value).toArray below meth c H locs 0 0 (MQ below (q_Qv E (fun f1 n1 => rO E f M (rp r 42 (z_pass (r 42) mi but pn)) = f1 ∧ n = n1)) ([.ref M, .int mi, .int (nI but)] : List Value).toArray s 0 0 (q_ge E)) (F0 m 12 ls []) := by
    intro fu
    induction fu with
    | zero =>
      intro j hj hm
      exact absurd hm (Nat.not_lt_zero _)
    | succ fu ih =>
      intro j hj hm H locs ls hW hS hl
      refine lv_iload_n hx hb dX14_goBy_12 rfl (lv_at hl 3 rfl) ?_
      refine lv_aload_n hx hb dX14_goBy_13 rfl (lv_at hl 0 rfl) ?_
      refine q_get hx hb hts hown hA hW iX14 rO_0 rfl 17 (by decide) (hts (.fieldLink RX14 38 "HighRecipesModel" "told" "LHighRecipesModel$Book;") (by decide +kernel)) (fun _ h9 => h9) (v := .ref (M + 8)) rfl dX14_goBy_14 ?_
      refine q_getN hx hb hts hown hA hW iX13 rO_8 rfl 0 (by decide) (va_Nw.use rfl (hA.2.2.2.1 ("HighRecipesModel", 150, "HighRecipesModel$Book", "pans", "I", "HighRecipesModel") (by decide +kernel))) (fun _ h9 => h9) (v := .int (nI pn)) (congrArg (fun z => some (Value.int z)) hpn9) dX14_goBy_17 ?_
      refine lv_icmp_ge (tgt := 63) hx hb dX14_goBy_20 (by decide) (fun c_20 => ?_) (fun c_20 => ?_)
      · have ej : j = pn := by rcases Nat.lt_or_ge j pn with h9 | h9; exact absurd c_20 (nI_ge h9 (by omega)); omega
        subst ej
        exact q_vret hx hb hr hlocks hW hS ⟨rfl, rfl⟩ (Nat.le_of_ble_eq_true rfl) (Nat.le_of_ble_eq_true rfl) dX14_goBy_63
      · have hlt : j < pn := by rcases Nat.lt_or_ge j pn with h9 | h9; exact h9; exact absurd (nI_le h9 (by omega)) c_20
        refine lv_iload_n hx hb dX14_goBy_23 rfl (lv_at hl 3 rfl) ?_
        refine lv_iload_n hx hb dX14_goBy_24 rfl (lv_at hl 2 rfl) ?_
        refine lv_icmp_eq (tgt := 57) hx hb dX14_goBy_25 (by decide) (fun c_25 => ?_) (fun c_25 => ?_)
        · have ejb : j = but := (nI_eq (by omega) (by omega)).1 c_25
          refine lv_iinc (v := nI (j + 1)) (lv' := [(3, .int (nI (j + 1))), (0, .ref M), (1, .int mi), (2, .int (nI but))]) hx hb dX14_goBy_57 hl (k := 3) rfl (nI_1 j) (by decide) rfl (fun ls hl => ?_)
          refine lv_goto (tgt := 12) hx hb dX14_goBy_60 (by decide) ?_
          rw [z_pass_b ejb] at hW
          exact ih (j + 1) hlt (by omega) _ _ _ hW hS (lv_sub hl [1, 2, 3, 0] rfl)
        · have ejb : j ≠ but := fun e9 => c_25 (by rw [e9])
          refine lv_aload_n hx hb dX14_goBy_28 rfl (lv_at hl 0 rfl) ?_
          refine q_get hx hb hts hown hA hW iX14 rO_0 rfl 19 (by decide) (hts (.fieldLink RX14 45 "HighRecipesModel" "now" "[I") (by decide +kernel)) (fun _ h9 => h9) (v := .ref (M + 42)) rfl dX14_goBy_29 ?_
          refine lv_iload_n hx hb dX14_goBy_32 rfl (lv_at hl 3 rfl) ?_
          refine lv_iconst (v := 2) hx hb dX14_goBy_33 (by decide) ?_
          refine q_ci (va_runS (As := [.int (nI j), .int 2]) (rest := [.ref (M + 42)]) ⟨hx, hb, hml, hown, hts⟩ (kX14_of_2 l E (rO E f M (rp r 42 (z_pass (r 42) mi but j))) n j) (va_cwS 2 hts gX14_goBy_X14_of rfl rfl rfl (by decide +kernel) ⟨(Nat.le_of_ble_eq_true rfl), (Nat.le_of_ble_eq_true rfl)⟩) (q_pS hA hW hS) rfl rfl hl.1 rfl (lv_room (Nat.le_of_ble_eq_true rfl)) dX14_goBy_34 ⟨Nat.le_of_ble_eq_true rfl, Nat.le_of_ble_eq_true rfl⟩) hS (fun r_34 f_34 n_34 H locs hp hW hS => ?_)
          obtain ⟨rfl, rfl, rfl⟩ := hp
          have hW : q_W E (rO E f M (rp r 42 (z_pass (r 42) mi but j))) n H := hW
          refine lv_bipush (v := 20) hx hb dX14_goBy_37 (by decide) ?_
          refine lv_aload_n hx hb dX14_goBy_39 rfl (lv_at hl 0 rfl) ?_
          refine q_get hx hb hts hown hA hW iX14 rO_0 rfl 19 (by decide) (hts (.fieldLink RX14 45 "HighRecipesModel" "now" "[I") (by decide +kernel)) (fun _ h9 => h9) (v := .ref (M + 42)) rfl dX14_goBy_40 ?_
          refine lv_iload_n hx hb dX14_goBy_43 rfl (lv_at hl 3 rfl) ?_
          refine lv_iconst (v := 2) hx hb dX14_goBy_44 (by decide) ?_
          refine q_ci (va_runS (As := [.int (nI j), .int 2]) (rest := [.ref (M + 42), .int 20, .int (nI (54 + 4 * j)), .ref (M + 42)]) ⟨hx, hb, hml, hown, hts⟩ (kX14_of_2 l E (rO E f M (rp r 42 (z_pass (r 42) mi but j))) n j) (va_cwS 2 hts gX14_goBy_X14_of rfl rfl rfl (by decide +kernel) ⟨(Nat.le_of_ble_eq_true rfl), (Nat.le_of_ble_eq_true rfl)⟩) (q_pS hA hW hS) rfl rfl hl.1 rfl (lv_room (Nat.le_of_ble_eq_true rfl)) dX14_goBy_45 ⟨Nat.le_of_ble_eq_true rfl, Nat.le_of_ble_eq_true rfl⟩) hS (fun r_45 f_45 n_45 H locs hp hW hS => ?_)
          obtain ⟨rfl, rfl, rfl⟩ := hp
          have hW : q_W E (rO E f M (rp r 42 (z_pass (r 42) mi but j))) n H := hW
          refine q_ald hx hb hA hW (rO_42 (g := z_pass (r 42) mi but j) rfl) (54 + 4 * j) rfl (by omega) (by decide) (x := (z_pass (r 42) mi but j) (54 + 4 * j)) rfl dX14_goBy_48 ?_
          refine lv_iload_n hx hb dX14_goBy_49 rfl (lv_at hl 1 rfl) ?_
          refine lv_iconst (v := 2) hx hb dX14_goBy_50 (by decide) ?_
          refine lv_idiv hx hb dX14_goBy_51 (by decide) ?_
          refine lv_isub hx hb dX14_goBy_52 ?_
          refine va_mmax hx hb (hml.trans hl.1.symm) hown (hts (.methodLink RX14 63 Lib.Math.max.name) (by decide +kernel)) (hts (.static Lib.Math.max.name) (by decide +kernel)) (hts (.initialized "java/lang/Math") (by decide +kernel)) (hts (.code Lib.Math.max.name Lib.Math.max.code 2 (some .int)) (by decide +kernel)) (Nat.le_of_ble_eq_true rfl) (Nat.le_of_ble_eq_true rfl) (Nat.le_of_ble_eq_true rfl) (Nat.le_of_ble_eq_true rfl) dX14_goBy_53 ?_
          refine q_ast hx hb hA hW hS (rO_42 (g := z_pass (r 42) mi but j) rfl) (54 + 4 * j) rfl (by omega) (by decide) dX14_goBy_56 (fun H locs hW hS => ?_)
          have hW := q_sa 42 hW rfl rfl
          rw [rp_d0] at hW
          refine lv_iinc (v := nI (j + 1)) (lv' := [(3, .int (nI (j + 1))), (0, .ref M), (1, .int mi), (2, .int (nI but))]) hx hb dX14_goBy_57 hl (k := 3) rfl (nI_1 j) (by decide) rfl (fun ls hl => ?_)
          refine lv_goto (tgt := 12) hx hb dX14_goBy_60 (by decide) ?_
          rw [z_pass_us ejb] at hW
          exact ih (j + 1) hlt (by omega) _ _ _ hW hS (lv_sub hl [1, 2, 3, 0] rfl)
  rw [z_pass_0 (but := but)] at hW
  exact K12 _ 0 (Nat.zero_le _) (Nat.lt_succ_self _) _ _ _ hW hS (lv_sub hl [1, 2, 3, 0] rfl)

set_option maxHeartbeats 4000000 in
set_option maxRecDepth 100000 in
theorem kX14_goByN (l : Launch) (E : q_E) (f : q_H) (n : Nat) (M : Nat) (r : q_R) (pn : Nat) (mi : Int32)  (hm : RM E f M r) (hpn9 : (r 120 0) = nI pn) (hpn : pn ≤ 8) : Met l yX14_goBy wsX14_goBy ({ frames := 1, cells := 0, slots := 0, locals := 21 }) (q_P E [.ref M, .int mi, .int (-1)] f n) (q_Qv E (fun f1 n1 => rO E f M (rp r 42 (z_pass (r 42) mi 8 pn)) = f1 ∧ n = n1)) 0 0 (q_ge E) := by
  refine Met.ofW (cc := cX14_goBy) (maxL := 4) (ret := none) (by decide) rfl ?_
  intro p e s m args below meth c s₁ B hml hv
  obtain ⟨rfl, hA, hW⟩ := hv
  have hx := B.exec
  have hb := B.bytes
  have hr := B.returns
  have hts := atoms_spec (ws := wsX14_goBy) B.pre
  have hown : s.vm.findClass RX14 = some m.cls := findClass_of_methodNamed B.named
  have hlocks := B.notSynchronized
  have hS : va_S (q_ge E) s.heap s.heap [] := va_S.rf
  have iX13 : ∀ w ∈ wsX130, w ∈ wsX14_goBy := by decide +kernel
  have iX14 : ∀ w ∈ wsX140, w ∈ wsX14_goBy := by decide +kernel
  have hl := lv_entry ([.ref M, .int mi, .int (-1)]) (n := 4) (Nat.le_of_ble_eq_true rfl)
  rw [lg_entry_eq]
  generalize (lg_sl ([.ref M, .int mi, .int (-1)]) ++ List.replicate (4 - (lg_sl ([.ref M, .int mi, .int (-1)])).length) Slot.unset).toArray = ls at hl ⊢
  have hl : lv_has ls 4 [(0, .ref M), (1, .int mi), (2, .int (-1))] := hl
  have hmE := hm.eq
  rw [hm.eq] at hW
  refine lv_aload_n hx hb dX14_goBy_0 rfl (lv_at hl 0 rfl) ?_
  refine q_get hx hb hts hown hA hW iX14 rO_0 rfl 19 (by decide) (hts (.fieldLink RX14 45 "HighRecipesModel" "now" "[I") (by decide +kernel)) (fun _ h9 => h9) (v := .ref (M + 42)) rfl dX14_goBy_1 ?_
  refine lv_iconst (v := 3) hx hb dX14_goBy_4 (by decide) ?_
  refine lv_dup2_11 hx hb dX14_goBy_5 rfl rfl ?_
  refine q_ald hx hb hA hW (rO_42 (g := r 42) rfl) 3 rfl (by decide) (by decide) (x := (r 42) 3) rfl dX14_goBy_6 ?_
  refine lv_iload_n hx hb dX14_goBy_7 rfl (lv_at hl 1 rfl) ?_
  refine lv_iadd hx hb dX14_goBy_8 ?_
  refine q_ast hx hb hA hW hS (rO_42 (g := r 42) rfl) 3 rfl (by decide) (by decide) dX14_goBy_9 (fun H locs hW hS => ?_)
  have hW := q_sa 42 hW rfl rfl
  refine lv_iconst (v := 0) hx hb dX14_goBy_10 (by decide) ?_
  refine lv_istore_n (lv' := [(3, .int 0), (0, .ref M), (1, .int mi), (2, .int (-1))]) hx hb dX14_goBy_11 rfl hl (by decide) rfl (fun ls hl => ?_)
  have K12 : ∀ (fu : Nat) (j : Nat) (hj : j ≤ pn) (hm : pn - j < fu) (H : Heap) (locs : List Loc) (ls : Array Slot), q_W E (rO E f M (rp r 42 (z_pass (r 42) mi 8 j))) n H → va_S (q_ge E) s.heap H locs → lv_has ls 4 [(0, .ref M), (1, .int mi), (2, .int (-1)), (3, .int (nI j))] → W p l e (headSpec wsX14_goBy ({ frames := 1, cells := 0, slots := 0, locals := 21 })).room s m ([.ref M, .int mi, .int (-1)] : List Value).toArray below meth c H locs 0 0 (MQ below (q_Qv E (fun f1 n1 => rO E f M (rp r 42 (z_pass (r 42) mi 8 pn)) = f1 ∧ n = n1)) ([.ref M, .int mi, .int (-1)] : List Value).toArray s 0 0 (q_ge E)) (F0 m 12 ls []) := by
    intro fu
    induction fu with
    | zero =>
      intro j hj hm
      exact absurd hm (Nat.not_lt_zero _)
    | succ fu ih =>
      intro j hj hm H locs ls hW hS hl
      refine lv_iload_n hx hb dX14_goBy_12 rfl (lv_at hl 3 rfl) ?_
      refine lv_aload_n hx hb dX14_goBy_13 rfl (lv_at hl 0 rfl) ?_
      refine q_get hx hb hts hown hA hW iX14 rO_0 rfl 17 (by decide) (hts (.fieldLink RX14 38 "HighRecipesModel" "told" "LHighRecipesModel$Book;") (by decide +kernel)) (fun _ h9 => h9) (v := .ref (M + 8)) rfl dX14_goBy_14 ?_
      refine q_getN hx hb hts hown hA hW iX13 rO_8 rfl 0 (by decide) (va_Nw.use rfl (hA.2.2.2.1 ("HighRecipesModel", 150, "HighRecipesModel$Book", "pans", "I", "HighRecipesModel") (by decide +kernel))) (fun _ h9 => h9) (v := .int (nI pn)) (congrArg (fun z => some (Value.int z)) hpn9) dX14_goBy_17 ?_
      refine lv_icmp_ge (tgt := 63) hx hb dX14_goBy_20 (by decide) (fun c_20 => ?_) (fun c_20 => ?_)
      · have ej : j = pn := by rcases Nat.lt_or_ge j pn with h9 | h9; exact absurd c_20 (nI_ge h9 (by omega)); omega
        subst ej
        exact q_vret hx hb hr hlocks hW hS ⟨rfl, rfl⟩ (Nat.le_of_ble_eq_true rfl) (Nat.le_of_ble_eq_true rfl) dX14_goBy_63
      · have hlt : j < pn := by rcases Nat.lt_or_ge j pn with h9 | h9; exact h9; exact absurd (nI_le h9 (by omega)) c_20
        refine lv_iload_n hx hb dX14_goBy_23 rfl (lv_at hl 3 rfl) ?_
        refine lv_iload_n hx hb dX14_goBy_24 rfl (lv_at hl 2 rfl) ?_
        refine lv_icmp_eq (tgt := 57) hx hb dX14_goBy_25 (by decide) (fun c_25 => False.elim ((fun (h9 : nI j = -1) => absurd (show nI j < 0 from by rw [h9]; decide) (nI_pos (by omega))) c_25)) (fun c_25 => ?_)
        refine lv_aload_n hx hb dX14_goBy_28 rfl (lv_at hl 0 rfl) ?_
        refine q_get hx hb hts hown hA hW iX14 rO_0 rfl 19 (by decide) (hts (.fieldLink RX14 45 "HighRecipesModel" "now" "[I") (by decide +kernel)) (fun _ h9 => h9) (v := .ref (M + 42)) rfl dX14_goBy_29 ?_
        refine lv_iload_n hx hb dX14_goBy_32 rfl (lv_at hl 3 rfl) ?_
        refine lv_iconst (v := 2) hx hb dX14_goBy_33 (by decide) ?_
        refine q_ci (va_runS (As := [.int (nI j), .int 2]) (rest := [.ref (M + 42)]) ⟨hx, hb, hml, hown, hts⟩ (kX14_of_2 l E (rO E f M (rp r 42 (z_pass (r 42) mi 8 j))) n j) (va_cwS 2 hts gX14_goBy_X14_of rfl rfl rfl (by decide +kernel) ⟨(Nat.le_of_ble_eq_true rfl), (Nat.le_of_ble_eq_true rfl)⟩) (q_pS hA hW hS) rfl rfl hl.1 rfl (lv_room (Nat.le_of_ble_eq_true rfl)) dX14_goBy_34 ⟨Nat.le_of_ble_eq_true rfl, Nat.le_of_ble_eq_true rfl⟩) hS (fun r_34 f_34 n_34 H locs hp hW hS => ?_)
        obtain ⟨rfl, rfl, rfl⟩ := hp
        have hW : q_W E (rO E f M (rp r 42 (z_pass (r 42) mi 8 j))) n H := hW
        refine lv_bipush (v := 20) hx hb dX14_goBy_37 (by decide) ?_
        refine lv_aload_n hx hb dX14_goBy_39 rfl (lv_at hl 0 rfl) ?_
        refine q_get hx hb hts hown hA hW iX14 rO_0 rfl 19 (by decide) (hts (.fieldLink RX14 45 "HighRecipesModel" "now" "[I") (by decide +kernel)) (fun _ h9 => h9) (v := .ref (M + 42)) rfl dX14_goBy_40 ?_
        refine lv_iload_n hx hb dX14_goBy_43 rfl (lv_at hl 3 rfl) ?_
        refine lv_iconst (v := 2) hx hb dX14_goBy_44 (by decide) ?_
        refine q_ci (va_runS (As := [.int (nI j), .int 2]) (rest := [.ref (M + 42), .int 20, .int (nI (54 + 4 * j)), .ref (M + 42)]) ⟨hx, hb, hml, hown, hts⟩ (kX14_of_2 l E (rO E f M (rp r 42 (z_pass (r 42) mi 8 j))) n j) (va_cwS 2 hts gX14_goBy_X14_of rfl rfl rfl (by decide +kernel) ⟨(Nat.le_of_ble_eq_true rfl), (Nat.le_of_ble_eq_true rfl)⟩) (q_pS hA hW hS) rfl rfl hl.1 rfl (lv_room (Nat.le_of_ble_eq_true rfl)) dX14_goBy_45 ⟨Nat.le_of_ble_eq_true rfl, Nat.le_of_ble_eq_true rfl⟩) hS (fun r_45 f_45 n_45 H locs hp hW hS => ?_)
        obtain ⟨rfl, rfl, rfl⟩ := hp
        have hW : q_W E (rO E f M (rp r 42 (z_pass (r 42) mi 8 j))) n H := hW
        refine q_ald hx hb hA hW (rO_42 (g := z_pass (r 42) mi 8 j) rfl) (54 + 4 * j) rfl (by omega) (by decide) (x := (z_pass (r 42) mi 8 j) (54 + 4 * j)) rfl dX14_goBy_48 ?_
        refine lv_iload_n hx hb dX14_goBy_49 rfl (lv_at hl 1 rfl) ?_
        refine lv_iconst (v := 2) hx hb dX14_goBy_50 (by decide) ?_
        refine lv_idiv hx hb dX14_goBy_51 (by decide) ?_
        refine lv_isub hx hb dX14_goBy_52 ?_
        refine va_mmax hx hb (hml.trans hl.1.symm) hown (hts (.methodLink RX14 63 Lib.Math.max.name) (by decide +kernel)) (hts (.static Lib.Math.max.name) (by decide +kernel)) (hts (.initialized "java/lang/Math") (by decide +kernel)) (hts (.code Lib.Math.max.name Lib.Math.max.code 2 (some .int)) (by decide +kernel)) (Nat.le_of_ble_eq_true rfl) (Nat.le_of_ble_eq_true rfl) (Nat.le_of_ble_eq_true rfl) (Nat.le_of_ble_eq_true rfl) dX14_goBy_53 ?_
        refine q_ast hx hb hA hW hS (rO_42 (g := z_pass (r 42) mi 8 j) rfl) (54 + 4 * j) rfl (by omega) (by decide) dX14_goBy_56 (fun H locs hW hS => ?_)
        have hW := q_sa 42 hW rfl rfl
        rw [rp_d0] at hW
        refine lv_iinc (v := nI (j + 1)) (lv' := [(3, .int (nI (j + 1))), (0, .ref M), (1, .int mi), (2, .int (-1))]) hx hb dX14_goBy_57 hl (k := 3) rfl (nI_1 j) (by decide) rfl (fun ls hl => ?_)
        refine lv_goto (tgt := 12) hx hb dX14_goBy_60 (by decide) ?_
        rw [z_pass_us (show j ≠ 8 by omega)] at hW
        exact ih (j + 1) hlt (by omega) _ _ _ hW hS (lv_sub hl [1, 2, 3, 0] rfl)
  rw [z_pass_0 (but := 8)] at hW
  exact K12 _ 0 (Nat.zero_le _) (Nat.lt_succ_self _) _ _ _ hW hS (lv_sub hl [1, 2, 3, 0] rfl)

set_option maxHeartbeats 4000000 in
set_option maxRecDepth 100000 in
theorem kX14_climb (l : Launch) (E : q_E) (f : q_H) (n : Nat) (M : Nat) (r : q_R) (pn : Nat) (to : Int32)  (hm : RM E f M r) (hpn9 : (r 120 0) = nI pn) (hpn : pn ≤ 8) : Met l yX14_climb wsX14_climb ({ frames := 2, cells := 0, slots := 0, locals := 40 }) (q_P E [.ref M, .int to] f n) (q_Qv E (fun f1 n1 => rO E f M (rp r 42 (z_move (r 42) to pn)) = f1 ∧ n = n1)) 0 0 (q_ge E) := by
  refine Met.ofW (cc := cX14_climb) (maxL := 3) (ret := none) (by decide) rfl ?_
  intro p e s m args below meth c s₁ B hml hv
  obtain ⟨rfl, hA, hW⟩ := hv
  have hx := B.exec
  have hb := B.bytes
  have hr := B.returns
  have hts := atoms_spec (ws := wsX14_climb) B.pre
  have hown : s.vm.findClass RX14 = some m.cls := findClass_of_methodNamed B.named
  have hlocks := B.notSynchronized
  have hS : va_S (q_ge E) s.heap s.heap [] := va_S.rf
  have iX13 : ∀ w ∈ wsX130, w ∈ wsX14_climb := by decide +kernel
  have iX14 : ∀ w ∈ wsX140, w ∈ wsX14_climb := by decide +kernel
  have hl := lv_entry ([.ref M, .int to]) (n := 3) (Nat.le_of_ble_eq_true rfl)
  rw [lg_entry_eq]
  generalize (lg_sl ([.ref M, .int to]) ++ List.replicate (3 - (lg_sl ([.ref M, .int to])).length) Slot.unset).toArray = ls at hl ⊢
  have hl : lv_has ls 3 [(0, .ref M), (1, .int to)] := hl
  have hmE := hm.eq
  rw [hm.eq] at hW
  refine lv_aload_n hx hb dX14_climb_0 rfl (lv_at hl 0 rfl) ?_
  refine q_get hx hb hts hown hA hW iX14 rO_0 rfl 19 (by decide) (hts (.fieldLink RX14 45 "HighRecipesModel" "now" "[I") (by decide +kernel)) (fun _ h9 => h9) (v := .ref (M + 42)) rfl dX14_climb_1 ?_
  refine lv_iconst (v := 0) hx hb dX14_climb_4 (by decide) ?_
  refine lv_iload_n hx hb dX14_climb_5 rfl (lv_at hl 1 rfl) ?_
  refine q_ast hx hb hA hW hS (rO_42 (g := r 42) rfl) 0 rfl (by decide) (by decide) dX14_climb_6 (fun H locs hW hS => ?_)
  have hW := q_sa 42 hW rfl rfl
  refine lv_iconst (v := 0) hx hb dX14_climb_7 (by decide) ?_
  refine lv_istore_n (lv' := [(2, .int 0), (0, .ref M), (1, .int to)]) hx hb dX14_climb_8 rfl hl (by decide) rfl (fun ls hl => ?_)
  have K9 : ∀ (fu : Nat) (j : Nat) (hj : j ≤ pn) (hm : pn - j < fu) (H : Heap) (locs : List Loc) (ls : Array Slot), q_W E (rO E f M (rp r 42 (z_move (r 42) to j))) n H → va_S (q_ge E) s.heap H locs → lv_has ls 3 [(0, .ref M), (1, .int to), (2, .int (nI j))] → W p l e (headSpec wsX14_climb ({ frames := 2, cells := 0, slots := 0, locals := 40 })).room s m ([.ref M, .int to] : List Value).toArray below meth c H locs 0 0 (MQ below (q_Qv E (fun f1 n1 => rO E f M (rp r 42 (z_move (r 42) to pn)) = f1 ∧ n = n1)) ([.ref M, .int to] : List Value).toArray s 0 0 (q_ge E)) (F0 m 9 ls []) := by
    intro fu
    induction fu with
    | zero =>
      intro j hj hm
      exact absurd hm (Nat.not_lt_zero _)
    | succ fu ih =>
      intro j hj hm H locs ls hW hS hl
      refine lv_iload_n hx hb dX14_climb_9 rfl (lv_at hl 2 rfl) ?_
      refine lv_aload_n hx hb dX14_climb_10 rfl (lv_at hl 0 rfl) ?_
      refine q_get hx hb hts hown hA hW iX14 rO_0 rfl 17 (by decide) (hts (.fieldLink RX14 38 "HighRecipesModel" "told" "LHighRecipesModel$Book;") (by decide +kernel)) (fun _ h9 => h9) (v := .ref (M + 8)) rfl dX14_climb_11 ?_
      refine q_getN hx hb hts hown hA hW iX13 rO_8 rfl 0 (by decide) (va_Nw.use rfl (hA.2.2.2.1 ("HighRecipesModel", 150, "HighRecipesModel$Book", "pans", "I", "HighRecipesModel") (by decide +kernel))) (fun _ h9 => h9) (v := .int (nI pn)) (congrArg (fun z => some (Value.int z)) hpn9) dX14_climb_14 ?_
      refine lv_icmp_ge (tgt := 66) hx hb dX14_climb_17 (by decide) (fun c_17 => ?_) (fun c_17 => ?_)
      · have ej : j = pn := by rcases Nat.lt_or_ge j pn with h9 | h9; exact absurd c_17 (nI_ge h9 (by omega)); omega
        subst ej
        exact q_vret hx hb hr hlocks hW hS ⟨rfl, rfl⟩ (Nat.le_of_ble_eq_true rfl) (Nat.le_of_ble_eq_true rfl) dX14_climb_66
      · have hlt : j < pn := by rcases Nat.lt_or_ge j pn with h9 | h9; exact h9; exact absurd (nI_le h9 (by omega)) c_17
        refine lv_aload_n hx hb dX14_climb_20 rfl (lv_at hl 0 rfl) ?_
        refine q_get hx hb hts hown hA hW iX14 rO_0 rfl 19 (by decide) (hts (.fieldLink RX14 45 "HighRecipesModel" "now" "[I") (by decide +kernel)) (fun _ h9 => h9) (v := .ref (M + 42)) rfl dX14_climb_21 ?_
        refine lv_iload_n hx hb dX14_climb_24 rfl (lv_at hl 2 rfl) ?_
        refine lv_iconst (v := 0) hx hb dX14_climb_25 (by decide) ?_
        refine q_ci (va_runS (As := [.int (nI j), .int 0]) (rest := [.ref (M + 42)]) ⟨hx, hb, hml, hown, hts⟩ (kX14_of_0 l E (rO E f M (rp r 42 (z_move (r 42) to j))) n j) (va_cwS 2 hts gX14_climb_X14_of rfl rfl rfl (by decide +kernel) ⟨(Nat.le_of_ble_eq_true rfl), (Nat.le_of_ble_eq_true rfl)⟩) (q_pS hA hW hS) rfl rfl hl.1 rfl (lv_room (Nat.le_of_ble_eq_true rfl)) dX14_climb_26 ⟨Nat.le_of_ble_eq_true rfl, Nat.le_of_ble_eq_true rfl⟩) hS (fun r_26 f_26 n_26 H locs hp hW hS => ?_)
        obtain ⟨rfl, rfl, rfl⟩ := hp
        have hW : q_W E (rO E f M (rp r 42 (z_move (r 42) to j))) n H := hW
        refine q_ald hx hb hA hW (rO_42 (g := z_move (r 42) to j) rfl) (52 + 4 * j) rfl (by omega) (by decide) (x := (z_move (r 42) to j) (52 + 4 * j)) rfl dX14_climb_29 ?_
        refine lv_if_le (tgt := 60) hx hb dX14_climb_30 (by decide) (fun c_30 => ?_) (fun c_30 => ?_)
        · refine lv_iinc (v := nI (j + 1)) (lv' := [(2, .int (nI (j + 1))), (0, .ref M), (1, .int to)]) hx hb dX14_climb_60 hl (k := 2) rfl (nI_1 j) (by decide) rfl (fun ls hl => ?_)
          refine lv_goto (tgt := 9) hx hb dX14_climb_63 (by decide) ?_
          rw [z_move_b (Int32.not_lt.mpr c_30)] at hW
          exact ih (j + 1) hlt (by omega) _ _ _ hW hS (lv_sub hl [1, 2, 0] rfl)
        · refine lv_aload_n hx hb dX14_climb_33 rfl (lv_at hl 0 rfl) ?_
          refine q_get hx hb hts hown hA hW iX14 rO_0 rfl 19 (by decide) (hts (.fieldLink RX14 45 "HighRecipesModel" "now" "[I") (by decide +kernel)) (fun _ h9 => h9) (v := .ref (M + 42)) rfl dX14_climb_34 ?_
          refine lv_iload_n hx hb dX14_climb_37 rfl (lv_at hl 2 rfl) ?_
          refine lv_iconst (v := 2) hx hb dX14_climb_38 (by decide) ?_
          refine q_ci (va_runS (As := [.int (nI j), .int 2]) (rest := [.ref (M + 42)]) ⟨hx, hb, hml, hown, hts⟩ (kX14_of_2 l E (rO E f M (rp r 42 (z_move (r 42) to j))) n j) (va_cwS 2 hts gX14_climb_X14_of rfl rfl rfl (by decide +kernel) ⟨(Nat.le_of_ble_eq_true rfl), (Nat.le_of_ble_eq_true rfl)⟩) (q_pS hA hW hS) rfl rfl hl.1 rfl (lv_room (Nat.le_of_ble_eq_true rfl)) dX14_climb_39 ⟨Nat.le_of_ble_eq_true rfl, Nat.le_of_ble_eq_true rfl⟩) hS (fun r_39 f_39 n_39 H locs hp hW hS => ?_)
          obtain ⟨rfl, rfl, rfl⟩ := hp
          have hW : q_W E (rO E f M (rp r 42 (z_move (r 42) to j))) n H := hW
          refine lv_aload_n hx hb dX14_climb_42 rfl (lv_at hl 0 rfl) ?_
          refine q_get hx hb hts hown hA hW iX14 rO_0 rfl 19 (by decide) (hts (.fieldLink RX14 45 "HighRecipesModel" "now" "[I") (by decide +kernel)) (fun _ h9 => h9) (v := .ref (M + 42)) rfl dX14_climb_43 ?_
          refine lv_iload_n hx hb dX14_climb_46 rfl (lv_at hl 2 rfl) ?_
          refine lv_iconst (v := 2) hx hb dX14_climb_47 (by decide) ?_
          refine q_ci (va_runS (As := [.int (nI j), .int 2]) (rest := [.ref (M + 42), .int (nI (54 + 4 * j)), .ref (M + 42)]) ⟨hx, hb, hml, hown, hts⟩ (kX14_of_2 l E (rO E f M (rp r 42 (z_move (r 42) to j))) n j) (va_cwS 2 hts gX14_climb_X14_of rfl rfl rfl (by decide +kernel) ⟨(Nat.le_of_ble_eq_true rfl), (Nat.le_of_ble_eq_true rfl)⟩) (q_pS hA hW hS) rfl rfl hl.1 rfl (lv_room (Nat.le_of_ble_eq_true rfl)) dX14_climb_48 ⟨Nat.le_of_ble_eq_true rfl, Nat.le_of_ble_eq_true rfl⟩) hS (fun r_48 f_48 n_48 H locs hp hW hS => ?_)
          obtain ⟨rfl, rfl, rfl⟩ := hp
          have hW : q_W E (rO E f M (rp r 42 (z_move (r 42) to j))) n H := hW
          refine q_ald hx hb hA hW (rO_42 (g := z_move (r 42) to j) rfl) (54 + 4 * j) rfl (by omega) (by decide) (x := (z_move (r 42) to j) (54 + 4 * j)) rfl dX14_climb_51 ?_
          refine lv_aload_n hx hb dX14_climb_52 rfl (lv_at hl 0 rfl) ?_
          refine q_ci (va_runV (As := []) (rest := [.int ((z_move (r 42) to j) (54 + 4 * j)), .int (nI (54 + 4 * j)), .ref (M + 42)]) ⟨hx, hb, hml, hown, hts⟩ (kX14_boiling l E (rO E f M (rp r 42 (z_move (r 42) to j))) n M (rp r 42 (z_move (r 42) to j)) rO_K) (cwV 0 hts gX14_climb_X14_boiling rfl rfl rfl (by decide +kernel) ⟨(Nat.le_of_ble_eq_true rfl), (Nat.le_of_ble_eq_true rfl)⟩) (q_pV hA hW hS (ci := 12) rfl rO_0) rfl rfl hl.1 rfl (lv_room (Nat.le_of_ble_eq_true rfl)) dX14_climb_53 ⟨Nat.le_of_ble_eq_true rfl, Nat.le_of_ble_eq_true rfl⟩) hS (fun r_53 f_53 n_53 H locs hp hW hS => ?_)
          obtain ⟨rfl, rfl, rfl⟩ := hp
          rw [show z_boil (((rp r 42 (z_move (r 42) to j)) 42) 0) = z_boil ((z_move (r 42) to j) 0) from rfl]
          have hW : q_W E (rO E f M (rp r 42 (z_move (r 42) to j))) n H := hW
          refine va_mmin hx hb (hml.trans hl.1.symm) hown (hts (.methodLink RX14 57 Lib.Math.min.name) (by decide +kernel)) (hts (.static Lib.Math.min.name) (by decide +kernel)) (hts (.initialized "java/lang/Math") (by decide +kernel)) (hts (.code Lib.Math.min.name Lib.Math.min.code 2 (some .int)) (by decide +kernel)) (Nat.le_of_ble_eq_true rfl) (Nat.le_of_ble_eq_true rfl) (Nat.le_of_ble_eq_true rfl) (Nat.le_of_ble_eq_true rfl) dX14_climb_56 ?_
          refine q_ast hx hb hA hW hS (rO_42 (g := z_move (r 42) to j) rfl) (54 + 4 * j) rfl (by omega) (by decide) dX14_climb_59 (fun H locs hW hS => ?_)
          have hW := q_sa 42 hW rfl rfl
          rw [rp_d0] at hW
          refine lv_iinc (v := nI (j + 1)) (lv' := [(2, .int (nI (j + 1))), (0, .ref M), (1, .int to)]) hx hb dX14_climb_60 hl (k := 2) rfl (nI_1 j) (by decide) rfl (fun ls hl => ?_)
          refine lv_goto (tgt := 9) hx hb dX14_climb_63 (by decide) ?_
          rw [z_move_us (Int32.not_le.mp c_30)] at hW
          exact ih (j + 1) hlt (by omega) _ _ _ hW hS (lv_sub hl [1, 2, 0] rfl)
  rw [z_move_0] at hW
  exact K9 _ 0 (Nat.zero_le _) (Nat.lt_succ_self _) _ _ _ hW hS (lv_sub hl [1, 2, 0] rfl)

set_option maxHeartbeats 4000000 in
set_option maxRecDepth 100000 in
theorem kX14_warn (l : Launch) (E : q_E) (f : q_H) (n : Nat) (M : Nat) (r : q_R) (kd b : Nat)  (hm : RM E f M r) (hok : k_ok (r 42)) (hkd : kd < 6) (hb9 : (r 110 0) = nI b) (hw : (r 111 0) = -1 ∨ ¬ (r 111 0) < 0) : Met l yX14_warn wsX14_warn ({ frames := 0, cells := 0, slots := 0, locals := 0 }) (q_P E [.ref M, .int (nI kd)] f n) (q_Qv E (fun f1 n1 => rO E f M (rp (rp r 42 ((k_warn kd ((r 42), b, (r 111 0))).1)) 111 (fun _ => (k_warn kd ((r 42), b, (r 111 0))).2.2)) = f1 ∧ n = n1)) 0 0 (q_ge E) := by
  refine Met.ofW (cc := cX14_warn) (maxL := 2) (ret := none) (by decide) rfl ?_
  intro p e s m args below meth c s₁ B hml hv
  obtain ⟨rfl, hA, hW⟩ := hv
  have hx := B.exec
  have hb := B.bytes
  have hr := B.returns
  have hts := atoms_spec (ws := wsX14_warn) B.pre
  have hown : s.vm.findClass RX14 = some m.cls := findClass_of_methodNamed B.named
  have hlocks := B.notSynchronized
  have hS : va_S (q_ge E) s.heap s.heap [] := va_S.rf
  have iX14 : ∀ w ∈ wsX140, w ∈ wsX14_warn := by decide +kernel
  have hl := lv_entry ([.ref M, .int (nI kd)]) (n := 2) (Nat.le_of_ble_eq_true rfl)
  rw [lg_entry_eq]
  generalize (lg_sl ([.ref M, .int (nI kd)]) ++ List.replicate (2 - (lg_sl ([.ref M, .int (nI kd)])).length) Slot.unset).toArray = ls at hl ⊢
  have hl : lv_has ls 2 [(0, .ref M), (1, .int (nI kd))] := hl
  have hmE := hm.eq
  rw [hm.eq] at hW
  refine lv_aload_n hx hb dX14_warn_0 rfl (lv_at hl 0 rfl) ?_
  refine q_get hx hb hts hown hA hW iX14 rO_0 rfl 22 (by decide) (hts (.fieldLink RX14 303 "HighRecipesModel" "firstWarned" "I") (by decide +kernel)) (fun _ h9 => h9) (v := .int (r 111 0)) rfl dX14_warn_1 ?_
  refine lv_iconst (v := (-1)) hx hb dX14_warn_4 (by decide) ?_
  refine lv_icmp_ne (tgt := 16) hx hb dX14_warn_5 (by decide) (fun c_5 => ?_) (fun c_5 => ?_)
  · refine lv_aload_n hx hb dX14_warn_16 rfl (lv_at hl 0 rfl) ?_
    refine q_get hx hb hts hown hA hW iX14 rO_0 rfl 19 (by decide) (hts (.fieldLink RX14 45 "HighRecipesModel" "now" "[I") (by decide +kernel)) (fun _ h9 => h9) (v := .ref (M + 42)) rfl dX14_warn_17 ?_
    refine lv_bipush (v := 12) hx hb dX14_warn_20 (by decide) ?_
    refine lv_aload_n hx hb dX14_warn_22 rfl (lv_at hl 0 rfl) ?_
    refine q_get hx hb hts hown hA hW iX14 rO_0 rfl 19 (by decide) (hts (.fieldLink RX14 45 "HighRecipesModel" "now" "[I") (by decide +kernel)) (fun _ h9 => h9) (v := .ref (M + 42)) rfl dX14_warn_23 ?_
    refine lv_iconst (v := 4) hx hb dX14_warn_26 (by decide) ?_
    refine q_ald hx hb hA hW (rO_42 (g := r 42) rfl) 4 rfl (by decide) (by decide) (x := nI (k_T (r 42))) hok.1.1 dX14_warn_27 ?_
    refine lv_bipush (v := 20) hx hb dX14_warn_28 (by decide) ?_
    refine lv_irem hx hb dX14_warn_30 (by decide) ?_
    rw [q_rem20 (Nat.lt_trans hok.1.2 (by decide)), show (12 : Int32) = nI 12 from rfl]
    refine lv_iadd hx hb dX14_warn_31 ?_
    rw [nI_add]
    refine lv_iload_n hx hb dX14_warn_32 rfl (lv_at hl 1 rfl) ?_
    refine q_ast hx hb hA hW hS (rO_42 (g := r 42) rfl) (12 + (k_T (r 42)) % 20) rfl (by omega) (by decide) dX14_warn_33 (fun H locs hW hS => ?_)
    have hW := q_sa 42 hW rfl rfl
    refine lv_aload_n hx hb dX14_warn_34 rfl (lv_at hl 0 rfl) ?_
    refine q_get hx hb hts hown hA hW iX14 rO_0 rfl 19 (by decide) (hts (.fieldLink RX14 45 "HighRecipesModel" "now" "[I") (by decide +kernel)) (fun _ h9 => h9) (v := .ref (M + 42)) rfl dX14_warn_35 ?_
    refine lv_iconst (v := 4) hx hb dX14_warn_38 (by decide) ?_
    refine lv_dup2_11 hx hb dX14_warn_39 rfl rfl ?_
    refine q_ald hx hb hA hW (rO_42 (g := upd (r 42) (12 + (k_T (r 42)) % 20) (nI kd)) rfl) 4 rfl (by decide) (by decide) (x := nI (k_T (r 42))) ((z_un (by omega)).trans hok.1.1) dX14_warn_40 ?_
    refine lv_iconst (v := 1) hx hb dX14_warn_41 (by decide) ?_
    refine lv_iadd hx hb dX14_warn_42 ?_
    refine q_ast hx hb hA hW hS (rO_42 (g := upd (r 42) (12 + (k_T (r 42)) % 20) (nI kd)) rfl) 4 rfl (by decide) (by decide) dX14_warn_43 (fun H locs hW hS => ?_)
    have hW := q_sa 42 hW rfl rfl
    rw [rp_d0] at hW
    refine lv_aload_n hx hb dX14_warn_44 rfl (lv_at hl 0 rfl) ?_
    refine q_get hx hb hts hown hA hW iX14 rO_0 rfl 19 (by decide) (hts (.fieldLink RX14 45 "HighRecipesModel" "now" "[I") (by decide +kernel)) (fun _ h9 => h9) (v := .ref (M + 42)) rfl dX14_warn_45 ?_
    refine lv_bipush (v := 6) hx hb dX14_warn_48 (by decide) ?_
    refine lv_iload_n hx hb dX14_warn_50 rfl (lv_at hl 1 rfl) ?_
    refine lv_iadd hx hb dX14_warn_51 ?_
    rw [show (6 : Int32) = nI 6 from rfl, nI_add]
    refine lv_dup2_11 hx hb dX14_warn_52 rfl rfl ?_
    refine q_ald hx hb hA hW (rO_42 (g := upd (upd (r 42) (12 + (k_T (r 42)) % 20) (nI kd)) 4 ((nI (k_T (r 42))) + 1)) rfl) (6 + kd) rfl (by omega) (by decide) (x := r 42 (6 + kd)) (z_warn_at hkd) dX14_warn_53 ?_
    refine lv_iconst (v := 1) hx hb dX14_warn_54 (by decide) ?_
    refine lv_iadd hx hb dX14_warn_55 ?_
    refine q_ast hx hb hA hW hS (rO_42 (g := upd (upd (r 42) (12 + (k_T (r 42)) % 20) (nI kd)) 4 ((nI (k_T (r 42))) + 1)) rfl) (6 + kd) rfl (by omega) (by decide) dX14_warn_56 (fun H locs hW hS => ?_)
    have hW := q_sa 42 hW rfl rfl
    rw [rp_d0] at hW
    have hW := q_rr 42 (g := upd (upd (upd (r 42) (12 + (k_T (r 42)) % 20) (nI kd)) 4 ((nI (k_T (r 42))) + 1)) (6 + kd) ((r 42 (6 + kd)) + 1)) hW rfl
    rw [rp_d0] at hW
    have hW := q_sc 111 (x := r 111 0) hW rfl (by decide)
    exact q_vret hx hb hr hlocks hW hS ⟨(congrArg (fun z : q_KS => rO E f M (rp (rp r 42 z.1) 111 (fun _ => z.2.2))) (show k_warn kd (r 42, b, r 111 0) = (upd (upd (upd (r 42) (12 + (k_T (r 42)) % 20) (nI kd)) 4 ((nI (k_T (r 42))) + 1)) (6 + kd) ((r 42 (6 + kd)) + 1), b, r 111 0) from by show (z_warn (r 42) (k_T (r 42)) kd, b, if r 111 0 < 0 then nI b else r 111 0) = _; rw [if_neg (hw.resolve_left c_5)]; rfl)), rfl⟩ (Nat.le_of_ble_eq_true rfl) (Nat.le_of_ble_eq_true rfl) dX14_warn_57
  · refine lv_aload_n hx hb dX14_warn_8 rfl (lv_at hl 0 rfl) ?_
    refine lv_aload_n hx hb dX14_warn_9 rfl (lv_at hl 0 rfl) ?_
    refine q_get hx hb hts hown hA hW iX14 rO_0 rfl 21 (by decide) (hts (.fieldLink RX14 306 "HighRecipesModel" "begun" "I") (by decide +kernel)) (fun _ h9 => h9) (v := .int (nI b)) (congrArg (fun z => some (Value.int z)) hb9) dX14_warn_10 ?_
    refine q_put hx hb hts hown hA hW hS iX14 tyX14 tyX14_ok nmX14 rO_0 rfl 22 (by decide) (hts (.fieldLink RX14 303 "HighRecipesModel" "firstWarned" "I") (by decide +kernel)) (fun _ h9 => h9) rfl rfl rfl (Nat.le_of_ble_eq_true rfl) dX14_warn_13 (fun H locs hW hS => ?_)
    have hW := q_s0 111 (nI b) hW rfl (by decide)
    refine lv_aload_n hx hb dX14_warn_16 rfl (lv_at hl 0 rfl) ?_
    refine q_get hx hb hts hown hA hW iX14 rO_0 rfl 19 (by decide) (hts (.fieldLink RX14 45 "HighRecipesModel" "now" "[I") (by decide +kernel)) (fun _ h9 => h9) (v := .ref (M + 42)) rfl dX14_warn_17 ?_
    refine lv_bipush (v := 12) hx hb dX14_warn_20 (by decide) ?_
    refine lv_aload_n hx hb dX14_warn_22 rfl (lv_at hl 0 rfl) ?_
    refine q_get hx hb hts hown hA hW iX14 rO_0 rfl 19 (by decide) (hts (.fieldLink RX14 45 "HighRecipesModel" "now" "[I") (by decide +kernel)) (fun _ h9 => h9) (v := .ref (M + 42)) rfl dX14_warn_23 ?_
    refine lv_iconst (v := 4) hx hb dX14_warn_26 (by decide) ?_
    refine q_ald hx hb hA hW (rO_42 (g := r 42) rfl) 4 rfl (by decide) (by decide) (x := nI (k_T (r 42))) hok.1.1 dX14_warn_27 ?_
    refine lv_bipush (v := 20) hx hb dX14_warn_28 (by decide) ?_
    refine lv_irem hx hb dX14_warn_30 (by decide) ?_
    rw [q_rem20 (Nat.lt_trans hok.1.2 (by decide)), show (12 : Int32) = nI 12 from rfl]
    refine lv_iadd hx hb dX14_warn_31 ?_
    rw [nI_add]
    refine lv_iload_n hx hb dX14_warn_32 rfl (lv_at hl 1 rfl) ?_
    refine q_ast hx hb hA hW hS (rO_42 (g := r 42) rfl) (12 + (k_T (r 42)) % 20) rfl (by omega) (by decide) dX14_warn_33 (fun H locs hW hS => ?_)
    have hW := q_sa 42 hW rfl rfl
    refine lv_aload_n hx hb dX14_warn_34 rfl (lv_at hl 0 rfl) ?_
    refine q_get hx hb hts hown hA hW iX14 rO_0 rfl 19 (by decide) (hts (.fieldLink RX14 45 "HighRecipesModel" "now" "[I") (by decide +kernel)) (fun _ h9 => h9) (v := .ref (M + 42)) rfl dX14_warn_35 ?_
    refine lv_iconst (v := 4) hx hb dX14_warn_38 (by decide) ?_
    refine lv_dup2_11 hx hb dX14_warn_39 rfl rfl ?_
    refine q_ald hx hb hA hW (rO_42 (g := upd (r 42) (12 + (k_T (r 42)) % 20) (nI kd)) rfl) 4 rfl (by decide) (by decide) (x := nI (k_T (r 42))) ((z_un (by omega)).trans hok.1.1) dX14_warn_40 ?_
    refine lv_iconst (v := 1) hx hb dX14_warn_41 (by decide) ?_
    refine lv_iadd hx hb dX14_warn_42 ?_
    refine q_ast hx hb hA hW hS (rO_42 (g := upd (r 42) (12 + (k_T (r 42)) % 20) (nI kd)) rfl) 4 rfl (by decide) (by decide) dX14_warn_43 (fun H locs hW hS => ?_)
    have hW := q_sa 42 hW rfl rfl
    rw [rp_d0] at hW
    refine lv_aload_n hx hb dX14_warn_44 rfl (lv_at hl 0 rfl) ?_
    refine q_get hx hb hts hown hA hW iX14 rO_0 rfl 19 (by decide) (hts (.fieldLink RX14 45 "HighRecipesModel" "now" "[I") (by decide +kernel)) (fun _ h9 => h9) (v := .ref (M + 42)) rfl dX14_warn_45 ?_
    refine lv_bipush (v := 6) hx hb dX14_warn_48 (by decide) ?_
    refine lv_iload_n hx hb dX14_warn_50 rfl (lv_at hl 1 rfl) ?_
    refine lv_iadd hx hb dX14_warn_51 ?_
    rw [show (6 : Int32) = nI 6 from rfl, nI_add]
    refine lv_dup2_11 hx hb dX14_warn_52 rfl rfl ?_
    refine q_ald hx hb hA hW (rO_42 (g := upd (upd (r 42) (12 + (k_T (r 42)) % 20) (nI kd)) 4 ((nI (k_T (r 42))) + 1)) rfl) (6 + kd) rfl (by omega) (by decide) (x := r 42 (6 + kd)) (z_warn_at hkd) dX14_warn_53 ?_
    refine lv_iconst (v := 1) hx hb dX14_warn_54 (by decide) ?_
    refine lv_iadd hx hb dX14_warn_55 ?_
    refine q_ast hx hb hA hW hS (rO_42 (g := upd (upd (r 42) (12 + (k_T (r 42)) % 20) (nI kd)) 4 ((nI (k_T (r 42))) + 1)) rfl) (6 + kd) rfl (by omega) (by decide) dX14_warn_56 (fun H locs hW hS => ?_)
    have hW := q_sa 42 hW rfl rfl
    rw [rp_d0] at hW
    have hW := q_rr 42 (g := upd (upd (upd (r 42) (12 + (k_T (r 42)) % 20) (nI kd)) 4 ((nI (k_T (r 42))) + 1)) (6 + kd) ((r 42 (6 + kd)) + 1)) hW rfl
    rw [rp_d0] at hW
    have hW := q_sc 111 (x := nI b) hW rfl (by decide)
    rw [rp_d1] at hW
    exact q_vret hx hb hr hlocks hW hS ⟨(congrArg (fun z : q_KS => rO E f M (rp (rp r 42 z.1) 111 (fun _ => z.2.2))) (show k_warn kd (r 42, b, r 111 0) = (upd (upd (upd (r 42) (12 + (k_T (r 42)) % 20) (nI kd)) 4 ((nI (k_T (r 42))) + 1)) (6 + kd) ((r 42 (6 + kd)) + 1), b, nI b) from by show (z_warn (r 42) (k_T (r 42)) kd, b, if r 111 0 < 0 then nI b else r 111 0) = _; rw [if_pos (show r 111 0 < 0 from by rw [c_5]; decide)]; rfl)), rfl⟩ (Nat.le_of_ble_eq_true rfl) (Nat.le_of_ble_eq_true rfl) dX14_warn_57

def z_an (j : Nat) : Nat → Int32 := fun q => if q = 1 then 4 else if q = 2 then 1 else if 54 ≤ q ∧ q % 4 = 2 ∧ (q - 54) / 4 < j then 20 else 0
theorem z_an_0 : upd (upd (fun _ => 0) 1 4) 2 1 = z_an 0 := by
  funext q
  unfold z_an upd
  by_cases h1 : q = 1
  · subst h1; rfl
  · by_cases h2 : q = 2
    · subst h2; rfl
    · rw [if_neg h2, if_neg h1, if_neg h1, if_neg h2, if_neg (by omega)]
theorem z_an_s {j : Nat} : upd (z_an j) (54 + 4 * j) 20 = z_an (j + 1) := by
  funext q
  by_cases h : q = 54 + 4 * j
  · subst h
    rw [z_us]
    unfold z_an
    rw [if_neg (by omega), if_neg (by omega), if_pos (by omega)]
  · rw [z_un h]
    unfold z_an
    by_cases h1 : q = 1
    · rw [if_pos h1, if_pos h1]
    · rw [if_neg h1, if_neg h1]
      by_cases h2 : q = 2
      · rw [if_pos h2, if_pos h2]
      · rw [if_neg h2, if_neg h2]
        by_cases h3 : 54 ≤ q ∧ q % 4 = 2 ∧ (q - 54) / 4 < j
        · rw [if_pos h3, if_pos (by omega)]
        · rw [if_neg h3, if_neg (by omega)]
theorem z_an_8 (i : Nat) (h : i < 84) : z_an 8 i = z_ini i := by
  unfold z_an z_ini
  by_cases h1 : i = 1
  · rw [if_pos h1, if_pos h1]
  · rw [if_neg h1, if_neg h1]
    by_cases h2 : i = 2
    · rw [if_pos h2, if_pos h2]
    · rw [if_neg h2, if_neg h2]
      by_cases h3 : 54 ≤ i ∧ i % 4 = 2
      · rw [if_pos h3, if_pos (by omega)]
      · rw [if_neg h3, if_neg (by omega)]
def z_z (g : Nat → Int32) (j : Nat) : Nat → Int32 := fun q => if q < j then 0 else g q
theorem z_z_0 {g : Nat → Int32} : z_z g 0 = g := rfl
theorem z_z_s {g : Nat → Int32} {j : Nat} : upd (z_z g j) j 0 = z_z g (j + 1) := by
  funext q
  by_cases h : q = j
  · subst h
    rw [z_us]
    exact (if_pos (Nat.lt_succ_self _)).symm
  · rw [z_un h]
    show (if q < j then 0 else g q) = if q < j + 1 then 0 else g q
    by_cases h1 : q < j
    · rw [if_pos h1, if_pos (by omega)]
    · rw [if_neg h1, if_neg (by omega)]

set_option maxHeartbeats 4000000 in
set_option maxRecDepth 100000 in
theorem kX14_anew (l : Launch) (E : q_E) (f : q_H) (n : Nat) (M : Nat) (r : q_R)  (hm : RM E f M r) : Met l yX14_anew wsX14_anew ({ frames := 1, cells := 0, slots := 0, locals := 21 }) (q_P E [.ref M] f n) (q_Qv E (fun f1 n1 => rO E f M (rp r 42 z_ini) = f1 ∧ n = n1)) 0 0 (q_ge E) := by
  refine Met.ofW (cc := cX14_anew) (maxL := 2) (ret := none) (by decide) rfl ?_
  intro p e s m args below meth c s₁ B hml hv
  obtain ⟨rfl, hA, hW⟩ := hv
  have hx := B.exec
  have hb := B.bytes
  have hr := B.returns
  have hts := atoms_spec (ws := wsX14_anew) B.pre
  have hown : s.vm.findClass RX14 = some m.cls := findClass_of_methodNamed B.named
  have hlocks := B.notSynchronized
  have hS : va_S (q_ge E) s.heap s.heap [] := va_S.rf
  have iX14 : ∀ w ∈ wsX140, w ∈ wsX14_anew := by decide +kernel
  have hl := lv_entry ([.ref M]) (n := 2) (Nat.le_of_ble_eq_true rfl)
  rw [lg_entry_eq]
  generalize (lg_sl ([.ref M]) ++ List.replicate (2 - (lg_sl ([.ref M])).length) Slot.unset).toArray = ls at hl ⊢
  have hl : lv_has ls 2 [(0, .ref M)] := hl
  have hmE := hm.eq
  rw [hm.eq] at hW
  refine lv_iconst (v := 0) hx hb dX14_anew_0 (by decide) ?_
  refine lv_istore_n (lv' := [(1, .int 0), (0, .ref M)]) hx hb dX14_anew_1 rfl hl (by decide) rfl (fun ls hl => ?_)
  have K2 : ∀ (fu : Nat) (j : Nat) (hj : j ≤ 84) (hm : 84 - j < fu) (H : Heap) (locs : List Loc) (ls : Array Slot), q_W E (rO E f M (rp r 42 (z_z (r 42) j))) n H → va_S (q_ge E) s.heap H locs → lv_has ls 2 [(0, .ref M), (1, .int (nI j))] → W p l e (headSpec wsX14_anew ({ frames := 1, cells := 0, slots := 0, locals := 21 })).room s m ([.ref M] : List Value).toArray below meth c H locs 0 0 (MQ below (q_Qv E (fun f1 n1 => rO E f M (rp r 42 z_ini) = f1 ∧ n = n1)) ([.ref M] : List Value).toArray s 0 0 (q_ge E)) (F0 m 2 ls []) := by
    intro fu
    induction fu with
    | zero =>
      intro j hj hm
      exact absurd hm (Nat.not_lt_zero _)
    | succ fu ih =>
      intro j hj hm H locs ls hW hS hl
      refine lv_iload_n hx hb dX14_anew_2 rfl (lv_at hl 1 rfl) ?_
      refine lv_bipush (v := 84) hx hb dX14_anew_3 (by decide) ?_
      refine lv_icmp_ge (tgt := 21) hx hb dX14_anew_5 (by decide) (fun c_5 => ?_) (fun c_5 => ?_)
      · have ej : j = 84 := by rcases Nat.lt_or_ge j 84 with h9 | h9; exact absurd (show nI 84 ≤ nI j from c_5) (nI_ge h9 (by decide)); omega
        subst ej
        have hW := q_cg 42 (g' := fun _ => 0) hW rfl (fun i hi => if_pos hi)
        refine lv_aload_n hx hb dX14_anew_21 rfl (lv_at hl 0 rfl) ?_
        refine q_get hx hb hts hown hA hW iX14 rO_0 rfl 19 (by decide) (hts (.fieldLink RX14 45 "HighRecipesModel" "now" "[I") (by decide +kernel)) (fun _ h9 => h9) (v := .ref (M + 42)) rfl dX14_anew_22 ?_
        refine lv_iconst (v := 1) hx hb dX14_anew_25 (by decide) ?_
        refine lv_iconst (v := 4) hx hb dX14_anew_26 (by decide) ?_
        refine q_ast hx hb hA hW hS (rO_42 (g := fun _ => 0) rfl) 1 rfl (by decide) (by decide) dX14_anew_27 (fun H locs hW hS => ?_)
        have hW := q_sa 42 hW rfl rfl
        rw [rp_d0] at hW
        refine lv_aload_n hx hb dX14_anew_28 rfl (lv_at hl 0 rfl) ?_
        refine q_get hx hb hts hown hA hW iX14 rO_0 rfl 19 (by decide) (hts (.fieldLink RX14 45 "HighRecipesModel" "now" "[I") (by decide +kernel)) (fun _ h9 => h9) (v := .ref (M + 42)) rfl dX14_anew_29 ?_
        refine lv_iconst (v := 2) hx hb dX14_anew_32 (by decide) ?_
        refine lv_iconst (v := 1) hx hb dX14_anew_33 (by decide) ?_
        refine q_ast hx hb hA hW hS (rO_42 (g := upd (fun _ => 0) 1 4) rfl) 2 rfl (by decide) (by decide) dX14_anew_34 (fun H locs hW hS => ?_)
        have hW := q_sa 42 hW rfl rfl
        rw [rp_d0] at hW
        refine lv_iconst (v := 0) hx hb dX14_anew_35 (by decide) ?_
        refine lv_istore_n (lv' := [(1, .int 0), (0, .ref M)]) hx hb dX14_anew_36 rfl hl (by decide) rfl (fun ls hl => ?_)
        have K37 : ∀ (fu : Nat) (j : Nat) (hj : j ≤ 8) (hm : 8 - j < fu) (H : Heap) (locs : List Loc) (ls : Array Slot), q_W E (rO E f M (rp r 42 (z_an j))) n H → va_S (q_ge E) s.heap H locs → lv_has ls 2 [(0, .ref M), (1, .int (nI j))] → W p l e (headSpec wsX14_anew ({ frames := 1, cells := 0, slots := 0, locals := 21 })).room s m ([.ref M] : List Value).toArray below meth c H locs 0 0 (MQ below (q_Qv E (fun f1 n1 => rO E f M (rp r 42 z_ini) = f1 ∧ n = n1)) ([.ref M] : List Value).toArray s 0 0 (q_ge E)) (F0 m 37 ls []) := by
          intro fu
          induction fu with
          | zero =>
            intro j hj hm
            exact absurd hm (Nat.not_lt_zero _)
          | succ fu ih =>
            intro j hj hm H locs ls hW hS hl
            refine lv_iload_n hx hb dX14_anew_37 rfl (lv_at hl 1 rfl) ?_
            refine lv_bipush (v := 8) hx hb dX14_anew_38 (by decide) ?_
            refine lv_icmp_ge (tgt := 61) hx hb dX14_anew_40 (by decide) (fun c_40 => ?_) (fun c_40 => ?_)
            · have ej : j = 8 := by rcases Nat.lt_or_ge j 8 with h9 | h9; exact absurd (show nI 8 ≤ nI j from c_40) (nI_ge h9 (by decide)); omega
              subst ej
              have hW := q_cg 42 (g' := z_ini) hW rfl z_an_8
              exact q_vret hx hb hr hlocks hW hS ⟨rfl, rfl⟩ (Nat.le_of_ble_eq_true rfl) (Nat.le_of_ble_eq_true rfl) dX14_anew_61
            · have hlt : j < 8 := by rcases Nat.lt_or_ge j 8 with h9 | h9; exact h9; exact absurd (show nI 8 ≤ nI j from nI_le h9 (by omega)) c_40
              refine lv_aload_n hx hb dX14_anew_43 rfl (lv_at hl 0 rfl) ?_
              refine q_get hx hb hts hown hA hW iX14 rO_0 rfl 19 (by decide) (hts (.fieldLink RX14 45 "HighRecipesModel" "now" "[I") (by decide +kernel)) (fun _ h9 => h9) (v := .ref (M + 42)) rfl dX14_anew_44 ?_
              refine lv_iload_n hx hb dX14_anew_47 rfl (lv_at hl 1 rfl) ?_
              refine lv_iconst (v := 2) hx hb dX14_anew_48 (by decide) ?_
              refine q_ci (va_runS (As := [.int (nI j), .int 2]) (rest := [.ref (M + 42)]) ⟨hx, hb, hml, hown, hts⟩ (kX14_of_2 l E (rO E f M (rp r 42 (z_an j))) n j) (va_cwS 2 hts gX14_anew_X14_of rfl rfl rfl (by decide +kernel) ⟨(Nat.le_of_ble_eq_true rfl), (Nat.le_of_ble_eq_true rfl)⟩) (q_pS hA hW hS) rfl rfl hl.1 rfl (lv_room (Nat.le_of_ble_eq_true rfl)) dX14_anew_49 ⟨Nat.le_of_ble_eq_true rfl, Nat.le_of_ble_eq_true rfl⟩) hS (fun r_49 f_49 n_49 H locs hp hW hS => ?_)
              obtain ⟨rfl, rfl, rfl⟩ := hp
              have hW : q_W E (rO E f M (rp r 42 (z_an j))) n H := hW
              refine lv_bipush (v := 20) hx hb dX14_anew_52 (by decide) ?_
              refine q_ast hx hb hA hW hS (rO_42 (g := z_an j) rfl) (54 + 4 * j) rfl (by omega) (by decide) dX14_anew_54 (fun H locs hW hS => ?_)
              have hW := q_sa 42 hW rfl rfl
              rw [rp_d0] at hW
              refine lv_iinc (v := nI (j + 1)) (lv' := [(1, .int (nI (j + 1))), (0, .ref M)]) hx hb dX14_anew_55 hl (k := 1) rfl (nI_1 j) (by decide) rfl (fun ls hl => ?_)
              refine lv_goto (tgt := 37) hx hb dX14_anew_58 (by decide) ?_
              rw [z_an_s] at hW
              exact ih (j + 1) hlt (by omega) _ _ _ hW hS (lv_sub hl [1, 0] rfl)
        rw [z_an_0] at hW
        exact K37 _ 0 (Nat.zero_le _) (Nat.lt_succ_self _) _ _ _ hW hS (lv_sub hl [1, 0] rfl)
      · have hlt : j < 84 := by rcases Nat.lt_or_ge j 84 with h9 | h9; exact h9; exact absurd (show nI 84 ≤ nI j from nI_le h9 (by omega)) c_5
        refine lv_aload_n hx hb dX14_anew_8 rfl (lv_at hl 0 rfl) ?_
        refine q_get hx hb hts hown hA hW iX14 rO_0 rfl 19 (by decide) (hts (.fieldLink RX14 45 "HighRecipesModel" "now" "[I") (by decide +kernel)) (fun _ h9 => h9) (v := .ref (M + 42)) rfl dX14_anew_9 ?_
        refine lv_iload_n hx hb dX14_anew_12 rfl (lv_at hl 1 rfl) ?_
        refine lv_iconst (v := 0) hx hb dX14_anew_13 (by decide) ?_
        refine q_ast hx hb hA hW hS (rO_42 (g := z_z (r 42) j) rfl) j rfl (by omega) (by decide) dX14_anew_14 (fun H locs hW hS => ?_)
        have hW := q_sa 42 hW rfl rfl
        rw [rp_d0] at hW
        refine lv_iinc (v := nI (j + 1)) (lv' := [(1, .int (nI (j + 1))), (0, .ref M)]) hx hb dX14_anew_15 hl (k := 1) rfl (nI_1 j) (by decide) rfl (fun ls hl => ?_)
        refine lv_goto (tgt := 2) hx hb dX14_anew_18 (by decide) ?_
        rw [z_z_s] at hW
        exact ih (j + 1) hlt (by omega) _ _ _ hW hS (lv_sub hl [1, 0] rfl)
  rw [show rO E f M r = rO E f M (rp r 42 (z_z (r 42) 0)) from by rw [z_z_0, rp_id]] at hW
  exact K2 _ 0 (Nat.zero_le _) (Nat.lt_succ_self _) _ _ _ hW hS (lv_sub hl [1, 0] rfl)

set_option maxHeartbeats 4000000 in
set_option maxRecDepth 100000 in
theorem kX14_pour_0 (l : Launch) (E : q_E) (f : q_H) (n : Nat) (M : Nat) (r : q_R) (pn i : Nat) (x : Int32)  (hm : RM E f M r) (hi : i < pn) (hpn : pn ≤ 8) (hz1 : 0 < z_add ((r 9) i) ((r 42) (52 + 4 * i)) ((r 42) (53 + 4 * i)) x → ¬ (r 42) (52 + 4 * i) + (r 42) (53 + 4 * i) + z_add ((r 9) i) ((r 42) (52 + 4 * i)) ((r 42) (53 + 4 * i)) x = 0) : Met l yX14_pour wsX14_pour ({ frames := 3, cells := 0, slots := 0, locals := 63 }) (q_P E [.ref M, .int (nI i), .int 0, .int x] f n) (q_Qi E (fun r0 f1 n1 => z_frv (r 9) (r 42) i x = r0 ∧ rO E f M (rp r 42 (z_fillv (r 9) (r 42) i 0 x)) = f1 ∧ n = n1)) 0 0 (q_ge E) := by
  refine Met.ofW (cc := cX14_pour) (maxL := 7) (ret := (some .int)) (by decide) rfl ?_
  intro p e s m args below meth c s₁ B hml hv
  obtain ⟨rfl, hA, hW⟩ := hv
  have hx := B.exec
  have hb := B.bytes
  have hr := B.returns
  have hts := atoms_spec (ws := wsX14_pour) B.pre
  have hown : s.vm.findClass RX14 = some m.cls := findClass_of_methodNamed B.named
  have hlocks := B.notSynchronized
  have hS : va_S (q_ge E) s.heap s.heap [] := va_S.rf
  have iX14 : ∀ w ∈ wsX140, w ∈ wsX14_pour := by decide +kernel
  have hl := lv_entry ([.ref M, .int (nI i), .int 0, .int x]) (n := 7) (Nat.le_of_ble_eq_true rfl)
  rw [lg_entry_eq]
  generalize (lg_sl ([.ref M, .int (nI i), .int 0, .int x]) ++ List.replicate (7 - (lg_sl ([.ref M, .int (nI i), .int 0, .int x])).length) Slot.unset).toArray = ls at hl ⊢
  have hl : lv_has ls 7 [(0, .ref M), (1, .int (nI i)), (2, .int 0), (3, .int x)] := hl
  have hmE := hm.eq
  rw [hm.eq] at hW
  refine lv_iload_n hx hb dX14_pour_0 rfl (lv_at hl 3 rfl) ?_
  refine lv_aload_n hx hb dX14_pour_1 rfl (lv_at hl 0 rfl) ?_
  refine lv_iload_n hx hb dX14_pour_2 rfl (lv_at hl 1 rfl) ?_
  refine q_ci (va_runV (As := [.int (nI i)]) (rest := [.int x]) ⟨hx, hb, hml, hown, hts⟩ (kX14_room l E (rO E f M r) n M r pn i rO_K (by assumption) (by assumption)) (cwV 1 hts gX14_pour_X14_room rfl rfl rfl (by decide +kernel) ⟨(Nat.le_of_ble_eq_true rfl), (Nat.le_of_ble_eq_true rfl)⟩) (q_pV hA hW hS (ci := 12) rfl rO_0) rfl rfl hl.1 rfl (lv_room (Nat.le_of_ble_eq_true rfl)) dX14_pour_3 ⟨Nat.le_of_ble_eq_true rfl, Nat.le_of_ble_eq_true rfl⟩) hS (fun r_3 f_3 n_3 H locs hp hW hS => ?_)
  obtain ⟨rfl, rfl, rfl⟩ := hp
  have hW : q_W E (rO E f M r) n H := hW
  refine va_mmin hx hb (hml.trans hl.1.symm) hown (hts (.methodLink RX14 57 Lib.Math.min.name) (by decide +kernel)) (hts (.static Lib.Math.min.name) (by decide +kernel)) (hts (.initialized "java/lang/Math") (by decide +kernel)) (hts (.code Lib.Math.min.name Lib.Math.min.code 2 (some .int)) (by decide +kernel)) (Nat.le_of_ble_eq_true rfl) (Nat.le_of_ble_eq_true rfl) (Nat.le_of_ble_eq_true rfl) (Nat.le_of_ble_eq_true rfl) dX14_pour_6 ?_
  refine lv_istore (lv' := [(4, .int (q_min x ((r 9) i - (r 42) (52 + 4 * i) - (r 42) (53 + 4 * i)))), (0, .ref M), (1, .int (nI i)), (2, .int 0), (3, .int x)]) hx hb dX14_pour_9 hl (by decide) rfl (fun ls hl => ?_)
  refine lv_iload hx hb dX14_pour_11 (lv_at hl 0 rfl) ?_
  refine lv_iconst (v := 1) hx hb dX14_pour_13 (by decide) ?_
  refine lv_icmp_ge (tgt := 19) hx hb dX14_pour_14 (by decide) (fun c_14 => ?_) (fun c_14 => ?_)
  · have h14 : 0 < (z_add (r 9 i) (r 42 (52 + 4 * i)) (r 42 (53 + 4 * i)) x) := i_pos1.1 c_14
    refine lv_aload_n hx hb dX14_pour_19 rfl (lv_at hl 1 rfl) ?_
    refine lv_iload_n hx hb dX14_pour_20 rfl (lv_at hl 2 rfl) ?_
    refine q_ci (va_runV (As := [.int (nI i)]) (rest := []) ⟨hx, hb, hml, hown, hts⟩ (kX14_inside l E (rO E f M r) n M r pn i rO_K (by assumption) (by assumption)) (cwV 1 hts gX14_pour_X14_inside rfl rfl rfl (by decide +kernel) ⟨(Nat.le_of_ble_eq_true rfl), (Nat.le_of_ble_eq_true rfl)⟩) (q_pV hA hW hS (ci := 12) rfl rO_0) rfl rfl hl.1 rfl (lv_room (Nat.le_of_ble_eq_true rfl)) dX14_pour_21 ⟨Nat.le_of_ble_eq_true rfl, Nat.le_of_ble_eq_true rfl⟩) hS (fun r_21 f_21 n_21 H locs hp hW hS => ?_)
    obtain ⟨rfl, rfl, rfl⟩ := hp
    have hW : q_W E (rO E f M r) n H := hW
    refine lv_istore (lv' := [(5, .int ((r 42) (52 + 4 * i) + (r 42) (53 + 4 * i))), (4, .int (q_min x ((r 9) i - (r 42) (52 + 4 * i) - (r 42) (53 + 4 * i)))), (0, .ref M), (1, .int (nI i)), (2, .int 0), (3, .int x)]) hx hb dX14_pour_24 hl (by decide) rfl (fun ls hl => ?_)
    refine lv_aload_n hx hb dX14_pour_26 rfl (lv_at hl 2 rfl) ?_
    refine q_get hx hb hts hown hA hW iX14 rO_0 rfl 19 (by decide) (hts (.fieldLink RX14 45 "HighRecipesModel" "now" "[I") (by decide +kernel)) (fun _ h9 => h9) (v := .ref (M + 42)) rfl dX14_pour_27 ?_
    refine lv_iload_n hx hb dX14_pour_30 rfl (lv_at hl 3 rfl) ?_
    refine lv_iconst (v := 2) hx hb dX14_pour_31 (by decide) ?_
    refine q_ci (va_runS (As := [.int (nI i), .int 2]) (rest := [.ref (M + 42)]) ⟨hx, hb, hml, hown, hts⟩ (kX14_of_2 l E (rO E f M r) n i) (va_cwS 2 hts gX14_pour_X14_of rfl rfl rfl (by decide +kernel) ⟨(Nat.le_of_ble_eq_true rfl), (Nat.le_of_ble_eq_true rfl)⟩) (q_pS hA hW hS) rfl rfl hl.1 rfl (lv_room (Nat.le_of_ble_eq_true rfl)) dX14_pour_32 ⟨Nat.le_of_ble_eq_true rfl, Nat.le_of_ble_eq_true rfl⟩) hS (fun r_32 f_32 n_32 H locs hp hW hS => ?_)
    obtain ⟨rfl, rfl, rfl⟩ := hp
    have hW : q_W E (rO E f M r) n H := hW
    refine lv_aload_n hx hb dX14_pour_35 rfl (lv_at hl 2 rfl) ?_
    refine q_get hx hb hts hown hA hW iX14 rO_0 rfl 19 (by decide) (hts (.fieldLink RX14 45 "HighRecipesModel" "now" "[I") (by decide +kernel)) (fun _ h9 => h9) (v := .ref (M + 42)) rfl dX14_pour_36 ?_
    refine lv_iload_n hx hb dX14_pour_39 rfl (lv_at hl 3 rfl) ?_
    refine lv_iconst (v := 2) hx hb dX14_pour_40 (by decide) ?_
    refine q_ci (va_runS (As := [.int (nI i), .int 2]) (rest := [.ref (M + 42), .int (nI (54 + 4 * i)), .ref (M + 42)]) ⟨hx, hb, hml, hown, hts⟩ (kX14_of_2 l E (rO E f M r) n i) (va_cwS 2 hts gX14_pour_X14_of rfl rfl rfl (by decide +kernel) ⟨(Nat.le_of_ble_eq_true rfl), (Nat.le_of_ble_eq_true rfl)⟩) (q_pS hA hW hS) rfl rfl hl.1 rfl (lv_room (Nat.le_of_ble_eq_true rfl)) dX14_pour_41 ⟨Nat.le_of_ble_eq_true rfl, Nat.le_of_ble_eq_true rfl⟩) hS (fun r_41 f_41 n_41 H locs hp hW hS => ?_)
    obtain ⟨rfl, rfl, rfl⟩ := hp
    have hW : q_W E (rO E f M r) n H := hW
    refine q_ald hx hb hA hW (rO_42 (g := r 42) rfl) (54 + 4 * i) rfl (by omega) (by decide) (x := (r 42) (54 + 4 * i)) rfl dX14_pour_44 ?_
    refine lv_iload hx hb dX14_pour_45 (lv_at hl 0 rfl) ?_
    refine lv_imul hx hb dX14_pour_47 ?_
    refine lv_bipush (v := 20) hx hb dX14_pour_48 (by decide) ?_
    refine lv_iload hx hb dX14_pour_50 (lv_at hl 1 rfl) ?_
    refine lv_imul hx hb dX14_pour_52 ?_
    refine lv_iadd hx hb dX14_pour_53 ?_
    refine lv_iload hx hb dX14_pour_54 (lv_at hl 0 rfl) ?_
    refine lv_iload hx hb dX14_pour_56 (lv_at hl 1 rfl) ?_
    refine lv_iadd hx hb dX14_pour_58 ?_
    refine lv_idiv hx hb dX14_pour_59 (hz1 h14) ?_
    refine q_ast hx hb hA hW hS (rO_42 (g := r 42) rfl) (54 + 4 * i) rfl (by omega) (by decide) dX14_pour_60 (fun H locs hW hS => ?_)
    have hW := q_sa 42 hW rfl rfl
    refine lv_aload_n hx hb dX14_pour_61 rfl (lv_at hl 2 rfl) ?_
    refine q_get hx hb hts hown hA hW iX14 rO_0 rfl 19 (by decide) (hts (.fieldLink RX14 45 "HighRecipesModel" "now" "[I") (by decide +kernel)) (fun _ h9 => h9) (v := .ref (M + 42)) rfl dX14_pour_62 ?_
    refine lv_iload_n hx hb dX14_pour_65 rfl (lv_at hl 3 rfl) ?_
    refine lv_iconst (v := 1) hx hb dX14_pour_66 (by decide) ?_
    refine q_ci (va_runS (As := [.int (nI i), .int 1]) (rest := [.ref (M + 42)]) ⟨hx, hb, hml, hown, hts⟩ (kX14_of_1 l E (rO E f M (rp r 42 (upd (r 42) (54 + 4 * i) (((((r 42) (54 + 4 * i)) * ((r 42) (52 + 4 * i) + (r 42) (53 + 4 * i))) + (20 * (q_min x ((r 9) i - (r 42) (52 + 4 * i) - (r 42) (53 + 4 * i))))) / (((r 42) (52 + 4 * i) + (r 42) (53 + 4 * i)) + (q_min x ((r 9) i - (r 42) (52 + 4 * i) - (r 42) (53 + 4 * i)))))))) n i) (va_cwS 2 hts gX14_pour_X14_of rfl rfl rfl (by decide +kernel) ⟨(Nat.le_of_ble_eq_true rfl), (Nat.le_of_ble_eq_true rfl)⟩) (q_pS hA hW hS) rfl rfl hl.1 rfl (lv_room (Nat.le_of_ble_eq_true rfl)) dX14_pour_67 ⟨Nat.le_of_ble_eq_true rfl, Nat.le_of_ble_eq_true rfl⟩) hS (fun r_67 f_67 n_67 H locs hp hW hS => ?_)
    obtain ⟨rfl, rfl, rfl⟩ := hp
    have hW : q_W E (rO E f M (rp r 42 (upd (r 42) (54 + 4 * i) (((((r 42) (54 + 4 * i)) * ((r 42) (52 + 4 * i) + (r 42) (53 + 4 * i))) + (20 * (q_min x ((r 9) i - (r 42) (52 + 4 * i) - (r 42) (53 + 4 * i))))) / (((r 42) (52 + 4 * i) + (r 42) (53 + 4 * i)) + (q_min x ((r 9) i - (r 42) (52 + 4 * i) - (r 42) (53 + 4 * i)))))))) n H := hW
    refine q_ald hx hb hA hW (rO_42 (g := upd (r 42) (54 + 4 * i) (((((r 42) (54 + 4 * i)) * ((r 42) (52 + 4 * i) + (r 42) (53 + 4 * i))) + (20 * (q_min x ((r 9) i - (r 42) (52 + 4 * i) - (r 42) (53 + 4 * i))))) / (((r 42) (52 + 4 * i) + (r 42) (53 + 4 * i)) + (q_min x ((r 9) i - (r 42) (52 + 4 * i) - (r 42) (53 + 4 * i)))))) rfl) (53 + 4 * i) rfl (by omega) (by decide) (x := r 42 (53 + 4 * i)) (z_un (by omega)) dX14_pour_70 ?_
    refine lv_istore (lv' := [(6, .int (r 42 (53 + 4 * i))), (5, .int ((r 42) (52 + 4 * i) + (r 42) (53 + 4 * i))), (4, .int (q_min x ((r 9) i - (r 42) (52 + 4 * i) - (r 42) (53 + 4 * i)))), (0, .ref M), (1, .int (nI i)), (2, .int 0), (3, .int x)]) hx hb dX14_pour_71 hl (by decide) rfl (fun ls hl => ?_)
    refine lv_aload_n hx hb dX14_pour_73 rfl (lv_at hl 3 rfl) ?_
    refine q_get hx hb hts hown hA hW iX14 rO_0 rfl 19 (by decide) (hts (.fieldLink RX14 45 "HighRecipesModel" "now" "[I") (by decide +kernel)) (fun _ h9 => h9) (v := .ref (M + 42)) rfl dX14_pour_74 ?_
    refine lv_iload_n hx hb dX14_pour_77 rfl (lv_at hl 4 rfl) ?_
    refine lv_iload_n hx hb dX14_pour_78 rfl (lv_at hl 5 rfl) ?_
    refine q_ci (va_runS (As := [.int (nI i), .int 0]) (rest := [.ref (M + 42)]) ⟨hx, hb, hml, hown, hts⟩ (kX14_of_0 l E (rO E f M (rp r 42 (upd (r 42) (54 + 4 * i) (((((r 42) (54 + 4 * i)) * ((r 42) (52 + 4 * i) + (r 42) (53 + 4 * i))) + (20 * (q_min x ((r 9) i - (r 42) (52 + 4 * i) - (r 42) (53 + 4 * i))))) / (((r 42) (52 + 4 * i) + (r 42) (53 + 4 * i)) + (q_min x ((r 9) i - (r 42) (52 + 4 * i) - (r 42) (53 + 4 * i)))))))) n i) (va_cwS 2 hts gX14_pour_X14_of rfl rfl rfl (by decide +kernel) ⟨(Nat.le_of_ble_eq_true rfl), (Nat.le_of_ble_eq_true rfl)⟩) (q_pS hA hW hS) rfl rfl hl.1 rfl (lv_room (Nat.le_of_ble_eq_true rfl)) dX14_pour_79 ⟨Nat.le_of_ble_eq_true rfl, Nat.le_of_ble_eq_true rfl⟩) hS (fun r_79 f_79 n_79 H locs hp hW hS => ?_)
    obtain ⟨rfl, rfl, rfl⟩ := hp
    have hW : q_W E (rO E f M (rp r 42 (upd (r 42) (54 + 4 * i) (((((r 42) (54 + 4 * i)) * ((r 42) (52 + 4 * i) + (r 42) (53 + 4 * i))) + (20 * (q_min x ((r 9) i - (r 42) (52 + 4 * i) - (r 42) (53 + 4 * i))))) / (((r 42) (52 + 4 * i) + (r 42) (53 + 4 * i)) + (q_min x ((r 9) i - (r 42) (52 + 4 * i) - (r 42) (53 + 4 * i)))))))) n H := hW
    refine lv_dup2_11 hx hb dX14_pour_82 rfl rfl ?_
    refine q_ald hx hb hA hW (rO_42 (g := upd (r 42) (54 + 4 * i) (((((r 42) (54 + 4 * i)) * ((r 42) (52 + 4 * i) + (r 42) (53 + 4 * i))) + (20 * (q_min x ((r 9) i - (r 42) (52 + 4 * i) - (r 42) (53 + 4 * i))))) / (((r 42) (52 + 4 * i) + (r 42) (53 + 4 * i)) + (q_min x ((r 9) i - (r 42) (52 + 4 * i) - (r 42) (53 + 4 * i)))))) rfl) (52 + 4 * i) rfl (by omega) (by decide) (x := r 42 (52 + 4 * i)) (z_un (by omega)) dX14_pour_83 ?_
    refine lv_iload hx hb dX14_pour_84 (lv_at hl 2 rfl) ?_
    refine lv_iadd hx hb dX14_pour_86 ?_
    refine q_ast hx hb hA hW hS (rO_42 (g := upd (r 42) (54 + 4 * i) (((((r 42) (54 + 4 * i)) * ((r 42) (52 + 4 * i) + (r 42) (53 + 4 * i))) + (20 * (q_min x ((r 9) i - (r 42) (52 + 4 * i) - (r 42) (53 + 4 * i))))) / (((r 42) (52 + 4 * i) + (r 42) (53 + 4 * i)) + (q_min x ((r 9) i - (r 42) (52 + 4 * i) - (r 42) (53 + 4 * i)))))) rfl) (52 + 4 * i) rfl (by omega) (by decide) dX14_pour_87 (fun H locs hW hS => ?_)
    have hW := q_sa 42 hW rfl rfl
    rw [rp_d0] at hW
    refine lv_iload_n hx hb dX14_pour_88 rfl (lv_at hl 5 rfl) ?_
    refine lv_iconst (v := 1) hx hb dX14_pour_89 (by decide) ?_
    refine lv_icmp_ne (tgt := 122) hx hb dX14_pour_90 (by decide) (fun c_90 => ?_) (fun c_90 => False.elim ((fun h9 => absurd h9 (by decide)) c_90))
    refine lv_iload hx hb dX14_pour_122 (lv_at hl 2 rfl) ?_
    exact q_iret hx hb hr hlocks hW hS ⟨(by show z_fr _ _ _ _ = _; unfold z_fr; exact if_pos h14), (congrArg (fun z => rO E f M (rp r 42 z)) ((by unfold z_fillv; rw [if_pos h14, if_pos rfl]; exact z_pan_u z_us (by rw [z_un (by omega), z_un (by omega)]) (by rw [z_un (by omega), z_us]; unfold z_fh q_quot; rw [if_neg (hz1 h14)]) (by rw [z_un (by omega), z_un (by omega)]) (fun q hq => by rw [z_un (by omega), z_un (by omega)])))), rfl⟩ (Nat.le_of_ble_eq_true rfl) (Nat.le_of_ble_eq_true rfl) dX14_pour_124
  · have h14 : ¬ 0 < (z_add (r 9 i) (r 42 (52 + 4 * i)) (r 42 (53 + 4 * i)) x) := fun h9 => c_14 (i_pos1.2 h9)
    refine lv_iconst (v := 0) hx hb dX14_pour_17 (by decide) ?_
    exact q_iret hx hb hr hlocks hW hS ⟨(by show z_fr _ _ _ _ = _; unfold z_fr; exact if_neg h14), (by show rO E f M (rp r 42 (z_fillv (r 9) (r 42) i 0 x)) = _; unfold z_fillv; rw [if_neg h14, rp_id]), rfl⟩ (Nat.le_of_ble_eq_true rfl) (Nat.le_of_ble_eq_true rfl) dX14_pour_18

set_option maxHeartbeats 4000000 in
set_option maxRecDepth 100000 in
theorem kX14_pour_1 (l : Launch) (E : q_E) (f : q_H) (n : Nat) (M : Nat) (r : q_R) (pn i : Nat) (x : Int32)  (hm : RM E f M r) (hi : i < pn) (hpn : pn ≤ 8) (hz1 : 0 < z_add ((r 9) i) ((r 42) (52 + 4 * i)) ((r 42) (53 + 4 * i)) x → ¬ (r 42) (52 + 4 * i) + (r 42) (53 + 4 * i) + z_add ((r 9) i) ((r 42) (52 + 4 * i)) ((r 42) (53 + 4 * i)) x = 0) (hz2 : 0 < z_add ((r 9) i) ((r 42) (52 + 4 * i)) ((r 42) (53 + 4 * i)) x → ¬ (r 42) (53 + 4 * i) + z_add ((r 9) i) ((r 42) (52 + 4 * i)) ((r 42) (53 + 4 * i)) x = 0) : Met l yX14_pour wsX14_pour ({ frames := 3, cells := 0, slots := 0, locals := 63 }) (q_P E [.ref M, .int (nI i), .int 1, .int x] f n) (q_Qi E (fun r0 f1 n1 => z_frv (r 9) (r 42) i x = r0 ∧ rO E f M (rp r 42 (z_fillv (r 9) (r 42) i 1 x)) = f1 ∧ n = n1)) 0 0 (q_ge E) := by
  refine Met.ofW (cc := cX14_pour) (maxL := 7) (ret := (some .int)) (by decide) rfl ?_
  intro p e s m args below meth c s₁ B hml hv
  obtain ⟨rfl, hA, hW⟩ := hv
  have hx := B.exec
  have hb := B.bytes
  have hr := B.returns
  have hts := atoms_spec (ws := wsX14_pour) B.pre
  have hown : s.vm.findClass RX14 = some m.cls := findClass_of_methodNamed B.named
  have hlocks := B.notSynchronized
  have hS : va_S (q_ge E) s.heap s.heap [] := va_S.rf
  have iX14 : ∀ w ∈ wsX140, w ∈ wsX14_pour := by decide +kernel
  have hl := lv_entry ([.ref M, .int (nI i), .int 1, .int x]) (n := 7) (Nat.le_of_ble_eq_true rfl)
  rw [lg_entry_eq]
  generalize (lg_sl ([.ref M, .int (nI i), .int 1, .int x]) ++ List.replicate (7 - (lg_sl ([.ref M, .int (nI i), .int 1, .int x])).length) Slot.unset).toArray = ls at hl ⊢
  have hl : lv_has ls 7 [(0, .ref M), (1, .int (nI i)), (2, .int 1), (3, .int x)] := hl
  have hmE := hm.eq
  rw [hm.eq] at hW
  refine lv_iload_n hx hb dX14_pour_0 rfl (lv_at hl 3 rfl) ?_
  refine lv_aload_n hx hb dX14_pour_1 rfl (lv_at hl 0 rfl) ?_
  refine lv_iload_n hx hb dX14_pour_2 rfl (lv_at hl 1 rfl) ?_
  refine q_ci (va_runV (As := [.int (nI i)]) (rest := [.int x]) ⟨hx, hb, hml, hown, hts⟩ (kX14_room l E (rO E f M r) n M r pn i rO_K (by assumption) (by assumption)) (cwV 1 hts gX14_pour_X14_room rfl rfl rfl (by decide +kernel) ⟨(Nat.le_of_ble_eq_true rfl), (Nat.le_of_ble_eq_true rfl)⟩) (q_pV hA hW hS (ci := 12) rfl rO_0) rfl rfl hl.1 rfl (lv_room (Nat.le_of_ble_eq_true rfl)) dX14_pour_3 ⟨Nat.le_of_ble_eq_true rfl, Nat.le_of_ble_eq_true rfl⟩) hS (fun r_3 f_3 n_3 H locs hp hW hS => ?_)
  obtain ⟨rfl, rfl, rfl⟩ := hp
  have hW : q_W E (rO E f M r) n H := hW
  refine va_mmin hx hb (hml.trans hl.1.symm) hown (hts (.methodLink RX14 57 Lib.Math.min.name) (by decide +kernel)) (hts (.static Lib.Math.min.name) (by decide +kernel)) (hts (.initialized "java/lang/Math") (by decide +kernel)) (hts (.code Lib.Math.min.name Lib.Math.min.code 2 (some .int)) (by decide +kernel)) (Nat.le_of_ble_eq_true rfl) (Nat.le_of_ble_eq_true rfl) (Nat.le_of_ble_eq_true rfl) (Nat.le_of_ble_eq_true rfl) dX14_pour_6 ?_
  refine lv_istore (lv' := [(4, .int (q_min x ((r 9) i - (r 42) (52 + 4 * i) - (r 42) (53 + 4 * i)))), (0, .ref M), (1, .int (nI i)), (2, .int 1), (3, .int x)]) hx hb dX14_pour_9 hl (by decide) rfl (fun ls hl => ?_)
  refine lv_iload hx hb dX14_pour_11 (lv_at hl 0 rfl) ?_
  refine lv_iconst (v := 1) hx hb dX14_pour_13 (by decide) ?_
  refine lv_icmp_ge (tgt := 19) hx hb dX14_pour_14 (by decide) (fun c_14 => ?_) (fun c_14 => ?_)
  · have h14 : 0 < (z_add (r 9 i) (r 42 (52 + 4 * i)) (r 42 (53 + 4 * i)) x) := i_pos1.1 c_14
    refine lv_aload_n hx hb dX14_pour_19 rfl (lv_at hl 1 rfl) ?_
    refine lv_iload_n hx hb dX14_pour_20 rfl (lv_at hl 2 rfl) ?_
    refine q_ci (va_runV (As := [.int (nI i)]) (rest := []) ⟨hx, hb, hml, hown, hts⟩ (kX14_inside l E (rO E f M r) n M r pn i rO_K (by assumption) (by assumption)) (cwV 1 hts gX14_pour_X14_inside rfl rfl rfl (by decide +kernel) ⟨(Nat.le_of_ble_eq_true rfl), (Nat.le_of_ble_eq_true rfl)⟩) (q_pV hA hW hS (ci := 12) rfl rO_0) rfl rfl hl.1 rfl (lv_room (Nat.le_of_ble_eq_true rfl)) dX14_pour_21 ⟨Nat.le_of_ble_eq_true rfl, Nat.le_of_ble_eq_true rfl⟩) hS (fun r_21 f_21 n_21 H locs hp hW hS => ?_)
    obtain ⟨rfl, rfl, rfl⟩ := hp
    have hW : q_W E (rO E f M r) n H := hW
    refine lv_istore (lv' := [(5, .int ((r 42) (52 + 4 * i) + (r 42) (53 + 4 * i))), (4, .int (q_min x ((r 9) i - (r 42) (52 + 4 * i) - (r 42) (53 + 4 * i)))), (0, .ref M), (1, .int (nI i)), (2, .int 1), (3, .int x)]) hx hb dX14_pour_24 hl (by decide) rfl (fun ls hl => ?_)
    refine lv_aload_n hx hb dX14_pour_26 rfl (lv_at hl 2 rfl) ?_
    refine q_get hx hb hts hown hA hW iX14 rO_0 rfl 19 (by decide) (hts (.fieldLink RX14 45 "HighRecipesModel" "now" "[I") (by decide +kernel)) (fun _ h9 => h9) (v := .ref (M + 42)) rfl dX14_pour_27 ?_
    refine lv_iload_n hx hb dX14_pour_30 rfl (lv_at hl 3 rfl) ?_
    refine lv_iconst (v := 2) hx hb dX14_pour_31 (by decide) ?_
    refine q_ci (va_runS (As := [.int (nI i), .int 2]) (rest := [.ref (M + 42)]) ⟨hx, hb, hml, hown, hts⟩ (kX14_of_2 l E (rO E f M r) n i) (va_cwS 2 hts gX14_pour_X14_of rfl rfl rfl (by decide +kernel) ⟨(Nat.le_of_ble_eq_true rfl), (Nat.le_of_ble_eq_true rfl)⟩) (q_pS hA hW hS) rfl rfl hl.1 rfl (lv_room (Nat.le_of_ble_eq_true rfl)) dX14_pour_32 ⟨Nat.le_of_ble_eq_true rfl, Nat.le_of_ble_eq_true rfl⟩) hS (fun r_32 f_32 n_32 H locs hp hW hS => ?_)
    obtain ⟨rfl, rfl, rfl⟩ := hp
    have hW : q_W E (rO E f M r) n H := hW
    refine lv_aload_n hx hb dX14_pour_35 rfl (lv_at hl 2 rfl) ?_
    refine q_get hx hb hts hown hA hW iX14 rO_0 rfl 19 (by decide) (hts (.fieldLink RX14 45 "HighRecipesModel" "now" "[I") (by decide +kernel)) (fun _ h9 => h9) (v := .ref (M + 42)) rfl dX14_pour_36 ?_
    refine lv_iload_n hx hb dX14_pour_39 rfl (lv_at hl 3 rfl) ?_
    refine lv_iconst (v := 2) hx hb dX14_pour_40 (by decide) ?_
    refine q_ci (va_runS (As := [.int (nI i), .int 2]) (rest := [.ref (M + 42), .int (nI (54 + 4 * i)), .ref (M + 42)]) ⟨hx, hb, hml, hown, hts⟩ (kX14_of_2 l E (rO E f M r) n i) (va_cwS 2 hts gX14_pour_X14_of rfl rfl rfl (by decide +kernel) ⟨(Nat.le_of_ble_eq_true rfl), (Nat.le_of_ble_eq_true rfl)⟩) (q_pS hA hW hS) rfl rfl hl.1 rfl (lv_room (Nat.le_of_ble_eq_true rfl)) dX14_pour_41 ⟨Nat.le_of_ble_eq_true rfl, Nat.le_of_ble_eq_true rfl⟩) hS (fun r_41 f_41 n_41 H locs hp hW hS => ?_)
    obtain ⟨rfl, rfl, rfl⟩ := hp
    have hW : q_W E (rO E f M r) n H := hW
    refine q_ald hx hb hA hW (rO_42 (g := r 42) rfl) (54 + 4 * i) rfl (by omega) (by decide) (x := (r 42) (54 + 4 * i)) rfl dX14_pour_44 ?_
    refine lv_iload hx hb dX14_pour_45 (lv_at hl 0 rfl) ?_
    refine lv_imul hx hb dX14_pour_47 ?_
    refine lv_bipush (v := 20) hx hb dX14_pour_48 (by decide) ?_
    refine lv_iload hx hb dX14_pour_50 (lv_at hl 1 rfl) ?_
    refine lv_imul hx hb dX14_pour_52 ?_
    refine lv_iadd hx hb dX14_pour_53 ?_
    refine lv_iload hx hb dX14_pour_54 (lv_at hl 0 rfl) ?_
    refine lv_iload hx hb dX14_pour_56 (lv_at hl 1 rfl) ?_
    refine lv_iadd hx hb dX14_pour_58 ?_
    refine lv_idiv hx hb dX14_pour_59 (hz1 h14) ?_
    refine q_ast hx hb hA hW hS (rO_42 (g := r 42) rfl) (54 + 4 * i) rfl (by omega) (by decide) dX14_pour_60 (fun H locs hW hS => ?_)
    have hW := q_sa 42 hW rfl rfl
    refine lv_aload_n hx hb dX14_pour_61 rfl (lv_at hl 2 rfl) ?_
    refine q_get hx hb hts hown hA hW iX14 rO_0 rfl 19 (by decide) (hts (.fieldLink RX14 45 "HighRecipesModel" "now" "[I") (by decide +kernel)) (fun _ h9 => h9) (v := .ref (M + 42)) rfl dX14_pour_62 ?_
    refine lv_iload_n hx hb dX14_pour_65 rfl (lv_at hl 3 rfl) ?_
    refine lv_iconst (v := 1) hx hb dX14_pour_66 (by decide) ?_
    refine q_ci (va_runS (As := [.int (nI i), .int 1]) (rest := [.ref (M + 42)]) ⟨hx, hb, hml, hown, hts⟩ (kX14_of_1 l E (rO E f M (rp r 42 (upd (r 42) (54 + 4 * i) (((((r 42) (54 + 4 * i)) * ((r 42) (52 + 4 * i) + (r 42) (53 + 4 * i))) + (20 * (q_min x ((r 9) i - (r 42) (52 + 4 * i) - (r 42) (53 + 4 * i))))) / (((r 42) (52 + 4 * i) + (r 42) (53 + 4 * i)) + (q_min x ((r 9) i - (r 42) (52 + 4 * i) - (r 42) (53 + 4 * i)))))))) n i) (va_cwS 2 hts gX14_pour_X14_of rfl rfl rfl (by decide +kernel) ⟨(Nat.le_of_ble_eq_true rfl), (Nat.le_of_ble_eq_true rfl)⟩) (q_pS hA hW hS) rfl rfl hl.1 rfl (lv_room (Nat.le_of_ble_eq_true rfl)) dX14_pour_67 ⟨Nat.le_of_ble_eq_true rfl, Nat.le_of_ble_eq_true rfl⟩) hS (fun r_67 f_67 n_67 H locs hp hW hS => ?_)
    obtain ⟨rfl, rfl, rfl⟩ := hp
    have hW : q_W E (rO E f M (rp r 42 (upd (r 42) (54 + 4 * i) (((((r 42) (54 + 4 * i)) * ((r 42) (52 + 4 * i) + (r 42) (53 + 4 * i))) + (20 * (q_min x ((r 9) i - (r 42) (52 + 4 * i) - (r 42) (53 + 4 * i))))) / (((r 42) (52 + 4 * i) + (r 42) (53 + 4 * i)) + (q_min x ((r 9) i - (r 42) (52 + 4 * i) - (r 42) (53 + 4 * i)))))))) n H := hW
    refine q_ald hx hb hA hW (rO_42 (g := upd (r 42) (54 + 4 * i) (((((r 42) (54 + 4 * i)) * ((r 42) (52 + 4 * i) + (r 42) (53 + 4 * i))) + (20 * (q_min x ((r 9) i - (r 42) (52 + 4 * i) - (r 42) (53 + 4 * i))))) / (((r 42) (52 + 4 * i) + (r 42) (53 + 4 * i)) + (q_min x ((r 9) i - (r 42) (52 + 4 * i) - (r 42) (53 + 4 * i)))))) rfl) (53 + 4 * i) rfl (by omega) (by decide) (x := r 42 (53 + 4 * i)) (z_un (by omega)) dX14_pour_70 ?_
    refine lv_istore (lv' := [(6, .int (r 42 (53 + 4 * i))), (5, .int ((r 42) (52 + 4 * i) + (r 42) (53 + 4 * i))), (4, .int (q_min x ((r 9) i - (r 42) (52 + 4 * i) - (r 42) (53 + 4 * i)))), (0, .ref M), (1, .int (nI i)), (2, .int 1), (3, .int x)]) hx hb dX14_pour_71 hl (by decide) rfl (fun ls hl => ?_)
    refine lv_aload_n hx hb dX14_pour_73 rfl (lv_at hl 3 rfl) ?_
    refine q_get hx hb hts hown hA hW iX14 rO_0 rfl 19 (by decide) (hts (.fieldLink RX14 45 "HighRecipesModel" "now" "[I") (by decide +kernel)) (fun _ h9 => h9) (v := .ref (M + 42)) rfl dX14_pour_74 ?_
    refine lv_iload_n hx hb dX14_pour_77 rfl (lv_at hl 4 rfl) ?_
    refine lv_iload_n hx hb dX14_pour_78 rfl (lv_at hl 5 rfl) ?_
    refine q_ci (va_runS (As := [.int (nI i), .int 1]) (rest := [.ref (M + 42)]) ⟨hx, hb, hml, hown, hts⟩ (kX14_of_1 l E (rO E f M (rp r 42 (upd (r 42) (54 + 4 * i) (((((r 42) (54 + 4 * i)) * ((r 42) (52 + 4 * i) + (r 42) (53 + 4 * i))) + (20 * (q_min x ((r 9) i - (r 42) (52 + 4 * i) - (r 42) (53 + 4 * i))))) / (((r 42) (52 + 4 * i) + (r 42) (53 + 4 * i)) + (q_min x ((r 9) i - (r 42) (52 + 4 * i) - (r 42) (53 + 4 * i)))))))) n i) (va_cwS 2 hts gX14_pour_X14_of rfl rfl rfl (by decide +kernel) ⟨(Nat.le_of_ble_eq_true rfl), (Nat.le_of_ble_eq_true rfl)⟩) (q_pS hA hW hS) rfl rfl hl.1 rfl (lv_room (Nat.le_of_ble_eq_true rfl)) dX14_pour_79 ⟨Nat.le_of_ble_eq_true rfl, Nat.le_of_ble_eq_true rfl⟩) hS (fun r_79 f_79 n_79 H locs hp hW hS => ?_)
    obtain ⟨rfl, rfl, rfl⟩ := hp
    have hW : q_W E (rO E f M (rp r 42 (upd (r 42) (54 + 4 * i) (((((r 42) (54 + 4 * i)) * ((r 42) (52 + 4 * i) + (r 42) (53 + 4 * i))) + (20 * (q_min x ((r 9) i - (r 42) (52 + 4 * i) - (r 42) (53 + 4 * i))))) / (((r 42) (52 + 4 * i) + (r 42) (53 + 4 * i)) + (q_min x ((r 9) i - (r 42) (52 + 4 * i) - (r 42) (53 + 4 * i)))))))) n H := hW
    refine lv_dup2_11 hx hb dX14_pour_82 rfl rfl ?_
    refine q_ald hx hb hA hW (rO_42 (g := upd (r 42) (54 + 4 * i) (((((r 42) (54 + 4 * i)) * ((r 42) (52 + 4 * i) + (r 42) (53 + 4 * i))) + (20 * (q_min x ((r 9) i - (r 42) (52 + 4 * i) - (r 42) (53 + 4 * i))))) / (((r 42) (52 + 4 * i) + (r 42) (53 + 4 * i)) + (q_min x ((r 9) i - (r 42) (52 + 4 * i) - (r 42) (53 + 4 * i)))))) rfl) (53 + 4 * i) rfl (by omega) (by decide) (x := r 42 (53 + 4 * i)) (z_un (by omega)) dX14_pour_83 ?_
    refine lv_iload hx hb dX14_pour_84 (lv_at hl 2 rfl) ?_
    refine lv_iadd hx hb dX14_pour_86 ?_
    refine q_ast hx hb hA hW hS (rO_42 (g := upd (r 42) (54 + 4 * i) (((((r 42) (54 + 4 * i)) * ((r 42) (52 + 4 * i) + (r 42) (53 + 4 * i))) + (20 * (q_min x ((r 9) i - (r 42) (52 + 4 * i) - (r 42) (53 + 4 * i))))) / (((r 42) (52 + 4 * i) + (r 42) (53 + 4 * i)) + (q_min x ((r 9) i - (r 42) (52 + 4 * i) - (r 42) (53 + 4 * i)))))) rfl) (53 + 4 * i) rfl (by omega) (by decide) dX14_pour_87 (fun H locs hW hS => ?_)
    have hW := q_sa 42 hW rfl rfl
    rw [rp_d0] at hW
    refine lv_iload_n hx hb dX14_pour_88 rfl (lv_at hl 5 rfl) ?_
    refine lv_iconst (v := 1) hx hb dX14_pour_89 (by decide) ?_
    refine lv_icmp_ne (tgt := 122) hx hb dX14_pour_90 (by decide) (fun c_90 => False.elim ((fun h9 => h9 rfl) c_90)) (fun c_90 => ?_)
    refine lv_aload_n hx hb dX14_pour_93 rfl (lv_at hl 3 rfl) ?_
    refine q_get hx hb hts hown hA hW iX14 rO_0 rfl 19 (by decide) (hts (.fieldLink RX14 45 "HighRecipesModel" "now" "[I") (by decide +kernel)) (fun _ h9 => h9) (v := .ref (M + 42)) rfl dX14_pour_94 ?_
    refine lv_iload_n hx hb dX14_pour_97 rfl (lv_at hl 4 rfl) ?_
    refine lv_iconst (v := 3) hx hb dX14_pour_98 (by decide) ?_
    refine q_ci (va_runS (As := [.int (nI i), .int 3]) (rest := [.ref (M + 42)]) ⟨hx, hb, hml, hown, hts⟩ (kX14_of_3 l E (rO E f M (rp r 42 (upd (upd (r 42) (54 + 4 * i) (((((r 42) (54 + 4 * i)) * ((r 42) (52 + 4 * i) + (r 42) (53 + 4 * i))) + (20 * (q_min x ((r 9) i - (r 42) (52 + 4 * i) - (r 42) (53 + 4 * i))))) / (((r 42) (52 + 4 * i) + (r 42) (53 + 4 * i)) + (q_min x ((r 9) i - (r 42) (52 + 4 * i) - (r 42) (53 + 4 * i)))))) (53 + 4 * i) ((r 42 (53 + 4 * i)) + (q_min x ((r 9) i - (r 42) (52 + 4 * i) - (r 42) (53 + 4 * i))))))) n i) (va_cwS 2 hts gX14_pour_X14_of rfl rfl rfl (by decide +kernel) ⟨(Nat.le_of_ble_eq_true rfl), (Nat.le_of_ble_eq_true rfl)⟩) (q_pS hA hW hS) rfl rfl hl.1 rfl (lv_room (Nat.le_of_ble_eq_true rfl)) dX14_pour_99 ⟨Nat.le_of_ble_eq_true rfl, Nat.le_of_ble_eq_true rfl⟩) hS (fun r_99 f_99 n_99 H locs hp hW hS => ?_)
    obtain ⟨rfl, rfl, rfl⟩ := hp
    have hW : q_W E (rO E f M (rp r 42 (upd (upd (r 42) (54 + 4 * i) (((((r 42) (54 + 4 * i)) * ((r 42) (52 + 4 * i) + (r 42) (53 + 4 * i))) + (20 * (q_min x ((r 9) i - (r 42) (52 + 4 * i) - (r 42) (53 + 4 * i))))) / (((r 42) (52 + 4 * i) + (r 42) (53 + 4 * i)) + (q_min x ((r 9) i - (r 42) (52 + 4 * i) - (r 42) (53 + 4 * i)))))) (53 + 4 * i) ((r 42 (53 + 4 * i)) + (q_min x ((r 9) i - (r 42) (52 + 4 * i) - (r 42) (53 + 4 * i))))))) n H := hW
    refine lv_aload_n hx hb dX14_pour_102 rfl (lv_at hl 3 rfl) ?_
    refine q_get hx hb hts hown hA hW iX14 rO_0 rfl 19 (by decide) (hts (.fieldLink RX14 45 "HighRecipesModel" "now" "[I") (by decide +kernel)) (fun _ h9 => h9) (v := .ref (M + 42)) rfl dX14_pour_103 ?_
    refine lv_iload_n hx hb dX14_pour_106 rfl (lv_at hl 4 rfl) ?_
    refine lv_iconst (v := 3) hx hb dX14_pour_107 (by decide) ?_
    refine q_ci (va_runS (As := [.int (nI i), .int 3]) (rest := [.ref (M + 42), .int (nI (55 + 4 * i)), .ref (M + 42)]) ⟨hx, hb, hml, hown, hts⟩ (kX14_of_3 l E (rO E f M (rp r 42 (upd (upd (r 42) (54 + 4 * i) (((((r 42) (54 + 4 * i)) * ((r 42) (52 + 4 * i) + (r 42) (53 + 4 * i))) + (20 * (q_min x ((r 9) i - (r 42) (52 + 4 * i) - (r 42) (53 + 4 * i))))) / (((r 42) (52 + 4 * i) + (r 42) (53 + 4 * i)) + (q_min x ((r 9) i - (r 42) (52 + 4 * i) - (r 42) (53 + 4 * i)))))) (53 + 4 * i) ((r 42 (53 + 4 * i)) + (q_min x ((r 9) i - (r 42) (52 + 4 * i) - (r 42) (53 + 4 * i))))))) n i) (va_cwS 2 hts gX14_pour_X14_of rfl rfl rfl (by decide +kernel) ⟨(Nat.le_of_ble_eq_true rfl), (Nat.le_of_ble_eq_true rfl)⟩) (q_pS hA hW hS) rfl rfl hl.1 rfl (lv_room (Nat.le_of_ble_eq_true rfl)) dX14_pour_108 ⟨Nat.le_of_ble_eq_true rfl, Nat.le_of_ble_eq_true rfl⟩) hS (fun r_108 f_108 n_108 H locs hp hW hS => ?_)
    obtain ⟨rfl, rfl, rfl⟩ := hp
    have hW : q_W E (rO E f M (rp r 42 (upd (upd (r 42) (54 + 4 * i) (((((r 42) (54 + 4 * i)) * ((r 42) (52 + 4 * i) + (r 42) (53 + 4 * i))) + (20 * (q_min x ((r 9) i - (r 42) (52 + 4 * i) - (r 42) (53 + 4 * i))))) / (((r 42) (52 + 4 * i) + (r 42) (53 + 4 * i)) + (q_min x ((r 9) i - (r 42) (52 + 4 * i) - (r 42) (53 + 4 * i)))))) (53 + 4 * i) ((r 42 (53 + 4 * i)) + (q_min x ((r 9) i - (r 42) (52 + 4 * i) - (r 42) (53 + 4 * i))))))) n H := hW
    refine q_ald hx hb hA hW (rO_42 (g := upd (upd (r 42) (54 + 4 * i) (((((r 42) (54 + 4 * i)) * ((r 42) (52 + 4 * i) + (r 42) (53 + 4 * i))) + (20 * (q_min x ((r 9) i - (r 42) (52 + 4 * i) - (r 42) (53 + 4 * i))))) / (((r 42) (52 + 4 * i) + (r 42) (53 + 4 * i)) + (q_min x ((r 9) i - (r 42) (52 + 4 * i) - (r 42) (53 + 4 * i)))))) (53 + 4 * i) ((r 42 (53 + 4 * i)) + (q_min x ((r 9) i - (r 42) (52 + 4 * i) - (r 42) (53 + 4 * i))))) rfl) (55 + 4 * i) rfl (by omega) (by decide) (x := r 42 (55 + 4 * i)) ((z_un (by omega)).trans (z_un (by omega))) dX14_pour_111 ?_
    refine lv_iload hx hb dX14_pour_112 (lv_at hl 0 rfl) ?_
    refine lv_imul hx hb dX14_pour_114 ?_
    refine lv_iload hx hb dX14_pour_115 (lv_at hl 0 rfl) ?_
    refine lv_iload hx hb dX14_pour_117 (lv_at hl 2 rfl) ?_
    refine lv_iadd hx hb dX14_pour_119 ?_
    refine lv_idiv hx hb dX14_pour_120 (hz2 h14) ?_
    refine q_ast hx hb hA hW hS (rO_42 (g := upd (upd (r 42) (54 + 4 * i) (((((r 42) (54 + 4 * i)) * ((r 42) (52 + 4 * i) + (r 42) (53 + 4 * i))) + (20 * (q_min x ((r 9) i - (r 42) (52 + 4 * i) - (r 42) (53 + 4 * i))))) / (((r 42) (52 + 4 * i) + (r 42) (53 + 4 * i)) + (q_min x ((r 9) i - (r 42) (52 + 4 * i) - (r 42) (53 + 4 * i)))))) (53 + 4 * i) ((r 42 (53 + 4 * i)) + (q_min x ((r 9) i - (r 42) (52 + 4 * i) - (r 42) (53 + 4 * i))))) rfl) (55 + 4 * i) rfl (by omega) (by decide) dX14_pour_121 (fun H locs hW hS => ?_)
    have hW := q_sa 42 hW rfl rfl
    rw [rp_d0] at hW
    refine lv_iload hx hb dX14_pour_122 (lv_at hl 2 rfl) ?_
    exact q_iret hx hb hr hlocks hW hS ⟨(by show z_fr _ _ _ _ = _; unfold z_fr; exact if_pos h14), (congrArg (fun z => rO E f M (rp r 42 z)) ((by unfold z_fillv; rw [if_pos h14, if_neg (by decide)]; exact z_pan_u (by rw [z_un (by omega), z_un (by omega), z_un (by omega)]) (by rw [z_un (by omega), z_us]) (by rw [z_un (by omega), z_un (by omega), z_us]; unfold z_fh q_quot; rw [if_neg (hz1 h14)]) (by rw [z_us]; unfold q_quot; rw [if_neg (hz2 h14)]) (fun q hq => by rw [z_un (by omega), z_un (by omega), z_un (by omega)])))), rfl⟩ (Nat.le_of_ble_eq_true rfl) (Nat.le_of_ble_eq_true rfl) dX14_pour_124
  · have h14 : ¬ 0 < (z_add (r 9 i) (r 42 (52 + 4 * i)) (r 42 (53 + 4 * i)) x) := fun h9 => c_14 (i_pos1.2 h9)
    refine lv_iconst (v := 0) hx hb dX14_pour_17 (by decide) ?_
    exact q_iret hx hb hr hlocks hW hS ⟨(by show z_fr _ _ _ _ = _; unfold z_fr; exact if_neg h14), (by show rO E f M (rp r 42 (z_fillv (r 9) (r 42) i 1 x)) = _; unfold z_fillv; rw [if_neg h14, rp_id]), rfl⟩ (Nat.le_of_ble_eq_true rfl) (Nat.le_of_ble_eq_true rfl) dX14_pour_18
