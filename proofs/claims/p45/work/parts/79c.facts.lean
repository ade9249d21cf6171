/-! what the law asks of a kitchen's numbers -/
theorem trn {v : q_V} {se sp j : Nat} (hv1 : v 1 = nI se) (hv2 : v 2 = nI sp) (hse : se ≤ 12) (h1 : 1 ≤ sp) (h2 : sp ≤ 10) (hj : j ≤ 999) : z_tr v (nI j) = nI ((j * se + 2 * sp) / (4 * sp) * sp) := by
  have hm : j * se ≤ 999 * 12 := Nat.mul_le_mul hj hse
  have hc : q_clamp (nI j) 0 999 = nI j := (held_in (nI_pos' (by omega)) (nI_le (b := 999) hj (by decide))).symm
  unfold z_tr q_quot
  rw [hc, hv1, hv2, nI_mul, show (2 : Int32) * nI sp = nI (2 * sp) from nI_mul 2 sp, nI_add, show (4 : Int32) * nI sp = nI (4 * sp) from nI_mul 4 sp, if_neg (show ¬ nI (4 * sp) = 0 from nI_ne (b := 0) (by omega) (by decide) (by omega)), pk_div (by omega) (by omega) (by omega), nI_mul]
theorem trn_le {se sp j : Nat} (hse : se ≤ 12) (h1 : 1 ≤ sp) (hj : j ≤ 999) : (j * se + 2 * sp) / (4 * sp) * sp ≤ 13000 := by
  have hm : j * se ≤ 999 * 12 := Nat.mul_le_mul hj hse
  have h3 : (j * se + 2 * sp) / (4 * sp) * (4 * sp) ≤ j * se + 2 * sp := Nat.div_mul_le_self _ _
  have h4 : (j * se + 2 * sp) / (4 * sp) * (4 * sp) = 4 * ((j * se + 2 * sp) / (4 * sp) * sp) := by rw [Nat.mul_left_comm]
  rcases Nat.lt_or_ge sp 11 with h5 | h5
  · omega
  · rcases Nat.lt_or_ge (j * se + 2 * sp) (4 * sp) with h6 | h6
    · rw [Nat.div_eq_of_lt h6]; omega
    · omega
/-- a translated amount is a multiple of the spoonful -/
theorem am_mod {v : q_V} {se sp j : Nat} (hv1 : v 1 = nI se) (hv2 : v 2 = nI sp) (hse : se ≤ 12) (h1 : 1 ≤ sp) (h2 : sp ≤ 10) (hj : j ≤ 999) : z_tr v (nI j) - z_tr v (nI j) / v 2 * v 2 = 0 := by
  have hb := trn_le (se := se) (sp := sp) (j := j) hse h1 hj
  rw [trn hv1 hv2 hse h1 h2 hj, hv2, pk_div (by omega) (by omega) (by omega), Nat.mul_div_cancel _ h1, nI_mul]
  exact Int32.sub_self _
theorem am_mono {v : q_V} {se sp j : Nat} (hv1 : v 1 = nI se) (hv2 : v 2 = nI sp) (hse : se ≤ 12) (h1 : 1 ≤ sp) (h2 : sp ≤ 10) (hj : j < 999) : ¬ z_tr v (nI (j + 1)) < z_tr v (nI j) := by
  rw [trn hv1 hv2 hse h1 h2 (show j + 1 ≤ 999 by omega), trn hv1 hv2 hse h1 h2 (show j ≤ 999 by omega)]
  refine nI_nlt (Nat.mul_le_mul_right _ (Nat.div_le_div_right ?_)) (by have := trn_le (se := se) (sp := sp) (j := j + 1) hse h1 (by omega); omega)
  have : j * se ≤ (j + 1) * se := Nat.mul_le_mul_right _ (Nat.le_succ j)
  omega
theorem lgn {a al : Nat} (ha : a ≤ 999) (hal : al ≤ 60) : z_long (nI a) (nI al) = nI ((a * (100 + al / 3 * 5) + 99) / 100) := by
  have hm : a * (100 + al / 3 * 5) ≤ 999 * 200 := Nat.mul_le_mul ha (by omega)
  show (nI a * z_slow (nI al) + 99) / 100 = _
  rw [slow_nI hal, nI_mul, show nI (a * (100 + al / 3 * 5)) + 99 = nI (a * (100 + al / 3 * 5) + 99) from nI_add _ 99]
  exact pk_div (d := 100) (by omega) (by decide) (by decide)
theorem lgn_le {a al : Nat} (ha : a ≤ 999) (hal : al ≤ 60) : (a * (100 + al / 3 * 5) + 99) / 100 ≤ 2000 := by
  have hm : a * (100 + al / 3 * 5) ≤ 999 * 200 := Nat.mul_le_mul ha (by omega)
  omega
theorem lg_up {a al : Nat} (ha : a ≤ 999) (hal : al < 60) : ¬ z_long (nI a) (nI (al + 1)) < z_long (nI a) (nI al) := by
  rw [lgn ha (show al + 1 ≤ 60 by omega), lgn ha (show al ≤ 60 by omega)]
  refine nI_nlt (Nat.div_le_div_right ?_) (by have := lgn_le ha (show al + 1 ≤ 60 by omega); omega)
  have : a * (100 + al / 3 * 5) ≤ a * (100 + (al + 1) / 3 * 5) := Nat.mul_le_mul_left _ (by omega)
  omega
theorem lg_in {a al : Nat} (ha : a < 999) (hal : al ≤ 60) : ¬ z_long (nI (a + 1)) (nI al) ≤ z_long (nI a) (nI al) := by
  rw [lgn (show a + 1 ≤ 999 by omega) hal, lgn (show a ≤ 999 by omega) hal]
  refine Int32.not_le.mpr (nI_lt ?_ (by have := lgn_le (show a + 1 ≤ 999 by omega) hal; omega))
  have : (a + 1) * (100 + al / 3 * 5) = a * (100 + al / 3 * 5) + (100 + al / 3 * 5) := by rw [Nat.add_mul, Nat.one_mul]
  omega
theorem bo_dn {al : Nat} (hal : al < 60) : z_boil (nI (al + 1)) ≤ z_boil (nI al) := by
  rw [boil_nI (show al + 1 ≤ 60 by omega), boil_nI (show al ≤ 60 by omega)]
  exact nI_le (by omega) (by omega)
theorem best_of {P : Nat → Bool} : ∀ n, z_best P n = -1 ∨ ∃ h, h < n ∧ z_best P n = nI h ∧ P h = true
  | 0 => Or.inl rfl
  | n + 1 => by
    show (if P n = true then nI n else z_best P n) = -1 ∨ ∃ h, h < n + 1 ∧ (if P n = true then nI n else z_best P n) = nI h ∧ P h = true
    by_cases e : P n = true
    · rw [if_pos e]; exact Or.inr ⟨n, Nat.lt_succ_self _, rfl, e⟩
    · rw [if_neg e]
      rcases best_of (P := P) n with h | ⟨h, h1, h2, h3⟩
      · exact Or.inl h
      · exact Or.inr ⟨h, by omega, h2, h3⟩
theorem best1_of {P : Nat → Bool} : ∀ n, z_best1 P n = -1 ∨ ∃ h, 1 ≤ h ∧ h ≤ n ∧ z_best1 P n = nI h ∧ P h = true
  | 0 => Or.inl rfl
  | n + 1 => by
    show (if P (n + 1) = true then nI (n + 1) else z_best1 P n) = -1 ∨ ∃ h, 1 ≤ h ∧ h ≤ n + 1 ∧ (if P (n + 1) = true then nI (n + 1) else z_best1 P n) = nI h ∧ P h = true
    by_cases e : P (n + 1) = true
    · rw [if_pos e]; exact Or.inr ⟨n + 1, by omega, Nat.le_refl _, rfl, e⟩
    · rw [if_neg e]
      rcases best1_of (P := P) n with h | ⟨h, h1, h2, h3, h4⟩
      · exact Or.inl h
      · exact Or.inr ⟨h, h1, by omega, h3, h4⟩
/-- what a recipe brings: minutes, warnings, the first of them -/
theorem rec_f {pn BB : Nat} {hd v : q_V} {S : q_S} (hg : w_gB pn S) (he : w_b pn S) (hB : BB ≤ 2 ^ 29) (h : VG BB pn hd v) : ∃ mm dW, mm ≤ 210000 ∧ dW ≤ 100 ∧ (S hd (v, 0, (-1))).1 3 = v 3 + nI mm ∧ (S hd (v, 0, (-1))).1 4 = v 4 + nI dW ∧ (((S hd (v, 0, (-1))).2.2 = -1 ∧ dW = 0) ∨ ∃ j, (S hd (v, 0, (-1))).2.2 = nI j ∧ 1 ≤ j ∧ j ≤ 100 ∧ 1 ≤ dW) := by
  obtain ⟨a1, a2, a3⟩ := hg BB hd (v, 0, (-1)) hB h.2.2 h.1
  obtain ⟨b1, ⟨mm, b2, b3⟩, b4, b5, b6⟩ := he BB hd (v, 0, (-1)) hB h.2.2 h.1
  have hb : (S hd (v, 0, (-1))).2.1 ≤ 100 := a1.1
  have hs4 : (S hd (v, 0, (-1))).1 4 = nI (k_T (S hd (v, 0, (-1))).1) := a1.2.1.1
  have hv4 : v 4 = nI (k_T v) := h.2.2.2.1.1
  have b2 : mm ≤ 2100 * ((S hd (v, 0, (-1))).2.1 - 0) := b2
  have b6 : k_T (S hd (v, 0, (-1))).1 ≤ k_T v + ((S hd (v, 0, (-1))).2.1 - 0) := b6
  have key : ∀ T, k_T (S hd (v, 0, (-1))).1 = k_T v + T → (S hd (v, 0, (-1))).1 4 = v 4 + nI T := fun T e => by rw [hs4, hv4, e, nI_add]
  rcases b5 (k_T v) (Or.inl ⟨rfl, rfl⟩) with ⟨e1, e2⟩ | ⟨j, e1, e2, e3, e4⟩
  · exact ⟨mm, 0, by omega, by omega, b3, key 0 (by omega), Or.inl ⟨e1, rfl⟩⟩
  · obtain ⟨T, hTe⟩ : ∃ T, k_T (S hd (v, 0, (-1))).1 = k_T v + T := ⟨k_T (S hd (v, 0, (-1))).1 - k_T v, by omega⟩
    exact ⟨mm, T, by omega, by omega, b3, key T hTe, Or.inr ⟨j, e1, e2, by omega, by omega⟩⟩
/-- doubles that are small whole numbers -/
theorem i2d_nn (x : Int32) : vf_n64 (FP.i2d x) := by
  obtain ⟨S, E, T, h1, h2⟩ := fl_any x.toInt
  exact fl_bits h1 h2
theorem zs_nI {pn : Nat} {hd v : q_V} (h : w_ok pn hd v) : ∀ p, p ≤ pn → ∃ a, a ≤ 100 * p ∧ z_sum v p = nI a
  | 0, _ => ⟨0, Nat.le_refl _, rfl⟩
  | p + 1, hp => by
    obtain ⟨a, h1, h2⟩ := zs_nI h p (by omega)
    obtain ⟨t, e, -, h3⟩ := h.hot p (by omega)
    exact ⟨a + t, by omega, by show z_sum v p + v (54 + 4 * p) = _; rw [h2, e, nI_add]⟩
theorem isub3 (a b c : Int32) : a - b - c = a - (b + c) := by
  exact Int32.sub_sub a b c
theorem room_nI {x a m : Nat} (h : a + m ≤ x) : nI x - nI a - nI m = nI (x - a - m) := by
  rw [show nI x - nI a = nI (x - a) from pk_sub (by omega), show nI (x - a) - nI m = nI (x - a - m) from pk_sub (by omega)]
theorem sub_add_nI {v3 : Int32} {m : Nat} : v3 + nI m - v3 = nI m := by rw [Int32.add_comm, Int32.add_sub_cancel]
