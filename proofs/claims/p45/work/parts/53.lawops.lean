/-! what holds of the kitchen's numbers, whatever is done -/
theorem nI_mul (a b : Nat) : nI a * nI b = nI (a * b) := (Int32.ofNat_mul a b).symm
theorem clamp_nI (x : Int32) : ∃ h, h ≤ 999 ∧ q_clamp x 0 999 = nI h := by
  by_cases h0 : x < 0
  · exact ⟨0, by decide, (held_lo (by decide) h0).symm⟩
  · obtain ⟨j, hj, rfl⟩ := nI_of h0
    rcases Nat.lt_or_ge 999 j with h | h
    · exact ⟨999, Nat.le_refl _, (held_hi (by decide) (nI_lt (a := 999) h hj)).symm⟩
    · exact ⟨j, h, (held_in (nI_pos' hj) (nI_le (b := 999) h (by decide))).symm⟩
theorem clamp_600 (x : Int32) : ∃ h, h ≤ 600 ∧ q_clamp x 0 600 = nI h := by
  by_cases h0 : x < 0
  · exact ⟨0, by decide, (held_lo (by decide) h0).symm⟩
  · obtain ⟨j, hj, rfl⟩ := nI_of h0
    rcases Nat.lt_or_ge 600 j with h | h
    · exact ⟨600, Nat.le_refl _, (held_hi (by decide) (nI_lt (a := 600) h hj)).symm⟩
    · exact ⟨j, h, (held_in (nI_pos' hj) (nI_le (b := 600) h (by decide))).symm⟩
theorem tr_nI {v : q_V} {se sp : Nat} (hv1 : v 1 = nI se) (hv2 : v 2 = nI sp) (hse : se ≤ 12) (h1 : 1 ≤ sp) (h2 : sp ≤ 10) (x : Int32) : ∃ c, c ≤ 13000 ∧ z_tr v x = nI c := by
  obtain ⟨h, hh, hx⟩ := clamp_nI x
  have hm : h * se ≤ 999 * 12 := Nat.mul_le_mul hh hse
  refine ⟨(h * se + 2 * sp) / (4 * sp) * sp, ?_, ?_⟩
  · have h3 : (h * se + 2 * sp) / (4 * sp) * (4 * sp) ≤ h * se + 2 * sp := Nat.div_mul_le_self _ _
    have h4 : (h * se + 2 * sp) / (4 * sp) * (4 * sp) = 4 * ((h * se + 2 * sp) / (4 * sp) * sp) := by rw [Nat.mul_left_comm]
    omega
  · unfold z_tr q_quot
    rw [hx, hv1, hv2, nI_mul, show (2 : Int32) * nI sp = nI (2 * sp) from nI_mul 2 sp, nI_add, show (4 : Int32) * nI sp = nI (4 * sp) from nI_mul 4 sp, if_neg (show ¬ nI (4 * sp) = 0 from nI_ne (b := 0) (by omega) (by decide) (by omega)), pk_div (by omega) (by omega) (by omega), nI_mul]
theorem min_nI {a b : Nat} (ha : a < 2 ^ 31) (hb : b < 2 ^ 31) : q_min (nI a) (nI b) = nI (min a b) := by
  unfold q_min
  rcases Nat.lt_or_ge b a with h | h
  · rw [if_pos (nI_lt h ha), show min a b = b by omega]
  · rw [if_neg (nI_nlt h hb), show min a b = a by omega]
theorem max_nI {a b : Nat} (ha : a < 2 ^ 31) (hb : b < 2 ^ 31) : q_max (nI a) (nI b) = nI (max a b) := by
  unfold q_max
  rcases Nat.lt_or_ge a b with h | h
  · rw [if_pos (nI_lt h hb), show max a b = b by omega]
  · rw [if_neg (nI_nlt h ha), show max a b = a by omega]
theorem boil_nI {al : Nat} (h : al ≤ 60) : z_boil (nI al) = nI (100 - al / 3) := by
  show (100 : Int32) - nI al / 3 = _
  rw [show nI al / 3 = nI (al / 3) from pk_div (d := 3) (by omega) (by decide) (by decide), show (100 : Int32) - nI (al / 3) = nI (100 - al / 3) from pk_sub (a := 100) (by omega)]
theorem slow_nI {al : Nat} (h : al ≤ 60) : z_slow (nI al) = nI (100 + al / 3 * 5) := by
  show (100 : Int32) + 5 * (100 - z_boil (nI al)) = _
  rw [boil_nI h, show (100 : Int32) - nI (100 - al / 3) = nI (100 - (100 - al / 3)) from pk_sub (a := 100) (by omega), show (5 : Int32) * nI (100 - (100 - al / 3)) = nI (5 * (100 - (100 - al / 3))) from nI_mul 5 _, show (100 : Int32) + nI (5 * (100 - (100 - al / 3))) = nI (100 + 5 * (100 - (100 - al / 3))) from nI_add 100 _]
  congr 1
  omega
theorem w_ok.of {pn : Nat} {hd v w : q_V} (h : w_ok pn hd v) (h0 : w 0 = v 0) (h1 : w 1 = v 1) (h2 : w 2 = v 2) (h4 : w 4 = nI (k_T w)) (h5 : w 5 = nI (k_N w))
    (hp : ∀ i, i < pn → ∃ h a m t d, hd i = nI h ∧ w (52 + 4 * i) = nI a ∧ w (53 + 4 * i) = nI m ∧ w (54 + 4 * i) = nI t ∧ w (55 + 4 * i) = nI d ∧ h ≤ 200 ∧ a + m ≤ h ∧ 20 ≤ t ∧ t ≤ 100 ∧ d ≤ 100 ∧ (m = 0 → d = 0)) : w_ok pn hd w :=
  ⟨by rw [h0]; exact h.1, by rw [h1]; exact h.2.1, by rw [h2]; exact h.2.2.1, ⟨h4, h5⟩, hp⟩
theorem w_ok.lo {pn : Nat} {hd v w : q_V} (h : w_ok pn hd v) (hq : ∀ q, q ≠ 3 → (q < 6 ∨ 52 ≤ q) → w q = v q) : w_ok pn hd w := by
  have e4 := hq 4 (by decide) (Or.inl (by decide))
  have e5 := hq 5 (by decide) (Or.inl (by decide))
  refine h.of (hq 0 (by decide) (Or.inl (by decide))) (hq 1 (by decide) (Or.inl (by decide))) (hq 2 (by decide) (Or.inl (by decide))) ?_ ?_ (fun i hi => ?_)
  · unfold k_T; rw [e4]; exact h.2.2.2.1.1
  · unfold k_N; rw [e5]; exact h.2.2.2.1.2
  · obtain ⟨x, a, m, t, d, r⟩ := h.2.2.2.2 i hi
    refine ⟨x, a, m, t, d, ?_⟩
    rw [hq (52 + 4 * i) (by omega) (Or.inr (by omega)), hq (53 + 4 * i) (by omega) (Or.inr (by omega)), hq (54 + 4 * i) (by omega) (Or.inr (by omega)), hq (55 + 4 * i) (by omega) (Or.inr (by omega))]
    exact r
theorem w_ok.pan {pn : Nat} {hd v : q_V} (h : w_ok pn hd v) {i : Nat} {x1 x2 x3 x4 : Int32} (hp : i < pn → ∃ h a m t d, hd i = nI h ∧ x1 = nI a ∧ x2 = nI m ∧ x3 = nI t ∧ x4 = nI d ∧ h ≤ 200 ∧ a + m ≤ h ∧ 20 ≤ t ∧ t ≤ 100 ∧ d ≤ 100 ∧ (m = 0 → d = 0)) : w_ok pn hd (z_pan v i x1 x2 x3 x4) := by
  refine h.of (z_pan_n (by omega)) (z_pan_n (by omega)) (z_pan_n (by omega)) ?_ ?_ (fun j hj => ?_)
  · unfold k_T; rw [z_pan_n (by omega)]; exact h.2.2.2.1.1
  · unfold k_N; rw [z_pan_n (by omega)]; exact h.2.2.2.1.2
  · by_cases e : j = i
    · subst e
      obtain ⟨x, a, m, t, d, e1, e2, e3, e4, e5, r⟩ := hp hj
      exact ⟨x, a, m, t, d, e1, z_pan_0.trans e2, z_pan_1.trans e3, z_pan_2.trans e4, z_pan_3.trans e5, r⟩
    · obtain ⟨x, a, m, t, d, e1, e2, e3, e4, e5, r⟩ := h.2.2.2.2 j hj
      exact ⟨x, a, m, t, d, e1, (z_pan_n (by omega)).trans e2, (z_pan_n (by omega)).trans e3, (z_pan_n (by omega)).trans e4, (z_pan_n (by omega)).trans e5, r⟩
theorem w_ok.warn {pn : Nat} {hd v : q_V} {kd : Nat} (h : w_ok pn hd v) (hk : kd < 6) (hT : k_T v < 2 ^ 30) : w_ok pn hd (z_warn v (k_T v) kd) := by
  have hm : k_T v % 20 < 20 := Nat.mod_lt _ (by decide)
  have zq : ∀ q, (q < 4 ∨ q = 5 ∨ 52 ≤ q) → z_warn v (k_T v) kd q = v q := fun q hq => by unfold z_warn; rw [z_un (by omega), z_un (by omega), z_un (by omega)]
  refine h.of (zq 0 (by omega)) (zq 1 (by omega)) (zq 2 (by omega)) ?_ ?_ (fun i hi => ?_)
  · have e : k_T (z_warn v (k_T v) kd) = k_T v + 1 := by
      show (z_warn v (k_T v) kd 4).toNatClampNeg = _
      rw [z_warn_4, nI_1]
      exact nI_clamp (by omega)
    rw [e, z_warn_4, nI_1]
  · unfold k_N; rw [zq 5 (by omega)]; exact h.2.2.2.1.2
  · obtain ⟨x, a, m, t, d, r⟩ := h.2.2.2.2 i hi
    refine ⟨x, a, m, t, d, ?_⟩
    rw [zq (52 + 4 * i) (by omega), zq (53 + 4 * i) (by omega), zq (54 + 4 * i) (by omega), zq (55 + 4 * i) (by omega)]
    exact r
theorem w_ok.note {pn : Nat} {hd v : q_V} {x : Int32} (h : w_ok pn hd v) (hN : k_N v < 2 ^ 30) : w_ok pn hd (z_note v (k_N v) x) := by
  have hm : k_N v % 20 < 20 := Nat.mod_lt _ (by decide)
  have zq : ∀ q, (q < 5 ∨ 52 ≤ q) → z_note v (k_N v) x q = v q := fun q hq => by unfold z_note; rw [z_un (by omega), z_un (by omega)]
  have e5 : z_note v (k_N v) x 5 = nI (k_N v + 1) := by unfold z_note; rw [z_us]; exact nI_1 _
  refine h.of (zq 0 (by omega)) (zq 1 (by omega)) (zq 2 (by omega)) ?_ ?_ (fun i hi => ?_)
  · unfold k_T; rw [zq 4 (by omega)]; exact h.2.2.2.1.1
  · have e : k_N (z_note v (k_N v) x) = k_N v + 1 := by
      show (z_note v (k_N v) x 5).toNatClampNeg = _
      rw [e5]
      exact nI_clamp (by omega)
    rw [e, e5]
  · obtain ⟨y, a, m, t, d, r⟩ := h.2.2.2.2 i hi
    refine ⟨y, a, m, t, d, ?_⟩
    rw [zq (52 + 4 * i) (by omega), zq (53 + 4 * i) (by omega), zq (54 + 4 * i) (by omega), zq (55 + 4 * i) (by omega)]
    exact r
theorem cool_nI {t c : Nat} (h1 : 20 ≤ t) (h2 : t ≤ 100) (hc : c ≤ 4000) : ∃ u, 20 ≤ u ∧ u ≤ t ∧ t - u ≤ c / 2 ∧ q_max 20 (nI t - nI c / 2) = nI u := by
  have e : nI c / 2 = nI (c / 2) := pk_div (d := 2) (by omega) (by decide) (by decide)
  rw [e]
  by_cases h : 20 < nI t - nI (c / 2)
  · have h3 := h
    rw [Int32.lt_iff_toInt_lt, pk_sub_toInt (by omega) (by omega)] at h3
    have h4 : (20 : Int) < (t : Int) - (c / 2 : Nat) := h3
    refine ⟨t - c / 2, by omega, by omega, by omega, ?_⟩
    rw [show q_max 20 (nI t - nI (c / 2)) = nI t - nI (c / 2) from if_pos h]
    exact pk_sub (by omega)
  · have h3 := h
    rw [Int32.lt_iff_toInt_lt, pk_sub_toInt (by omega) (by omega)] at h3
    have h4 : ¬ (20 : Int) < (t : Int) - (c / 2 : Nat) := h3
    exact ⟨20, Nat.le_refl _, h1, by omega, if_neg h⟩
theorem w_ok.pass {pn : Nat} {hd v : q_V} {c but : Nat} (h : w_ok pn hd v) (hc : c ≤ 4000) : w_ok pn hd (z_pass v (nI c) but pn) := by
  refine h.of (z_pass_lo (by decide) (by decide)) (z_pass_lo (by decide) (by decide)) (z_pass_lo (by decide) (by decide)) ?_ ?_ (fun i hi => ?_)
  · unfold k_T; rw [z_pass_lo (by decide) (by decide)]; exact h.2.2.2.1.1
  · unfold k_N; rw [z_pass_lo (by decide) (by decide)]; exact h.2.2.2.1.2
  · obtain ⟨x, a, m, t, d, e1, e2, e3, e4, e5, b1, b2, b3, b4, b5⟩ := h.2.2.2.2 i hi
    have q0 : ∀ q, q ≠ 3 → q % 4 ≠ 2 → z_pass v (nI c) but pn q = v q := fun q h3 h4 => by unfold z_pass; rw [if_neg h3, if_neg (by omega)]
    by_cases e : i = but
    · refine ⟨x, a, m, t, d, e1, (q0 _ (by omega) (by omega)).trans e2, (q0 _ (by omega) (by omega)).trans e3, ?_, (q0 _ (by omega) (by omega)).trans e5, b1, b2, b3, b4, b5⟩
      unfold z_pass
      rw [if_neg (by omega), if_neg (by omega)]
      exact e4
    · obtain ⟨u, u1, u2, -, u3⟩ := cool_nI b3 b4 hc
      refine ⟨x, a, m, u, d, e1, (q0 _ (by omega) (by omega)).trans e2, (q0 _ (by omega) (by omega)).trans e3, ?_, (q0 _ (by omega) (by omega)).trans e5, b1, b2, u1, Nat.le_trans u2 b4, b5⟩
      unfold z_pass
      rw [if_neg (by omega), if_pos ⟨by omega, by omega, by omega, by omega⟩, e4]
      exact u3
theorem w_ok.hot {pn : Nat} {hd v : q_V} (h : w_ok pn hd v) : ∀ i, i < pn → ∃ t, v (54 + 4 * i) = nI t ∧ 20 ≤ t ∧ t ≤ 100 := fun i hi => by
  obtain ⟨x, a, m, t, d, e1, e2, e3, e4, e5, b1, b2, b3, b4, b5⟩ := h.2.2.2.2 i hi
  exact ⟨t, e4, b3, b4⟩
theorem add_nI {h a m c : Nat} (h1 : h ≤ 200) (h2 : a + m ≤ h) (hc : c ≤ 13000) : z_add (nI h) (nI a) (nI m) (nI c) = nI (min c (h - a - m)) := by
  show q_min (nI c) (nI h - nI a - nI m) = _
  rw [show nI h - nI a = nI (h - a) from pk_sub (by omega), show nI (h - a) - nI m = nI (h - a - m) from pk_sub (by omega)]
  exact min_nI (by omega) (by omega)
theorem fh_nI {a m t c : Nat} (h0 : 0 < c) (h1 : 20 ≤ t) (h2 : t ≤ 100) (h3 : a + m + c ≤ 200) : ∃ u, 20 ≤ u ∧ u ≤ 100 ∧ z_fh (nI a) (nI m) (nI t) (nI c) = nI u := by
  have hx : t * (a + m) ≤ 100 * 200 := Nat.mul_le_mul h2 (by omega)
  have ha : 20 * (a + m) ≤ t * (a + m) := Nat.mul_le_mul_right _ h1
  have hb : t * (a + m) ≤ 100 * (a + m) := Nat.mul_le_mul_right _ h2
  refine ⟨(t * (a + m) + 20 * c) / (a + m + c), (Nat.le_div_iff_mul_le (by omega)).mpr (by omega), ?_, ?_⟩
  · have : (t * (a + m) + 20 * c) / (a + m + c) < 101 := (Nat.div_lt_iff_lt_mul (by omega)).mpr (by omega)
    omega
  · show q_quot (nI t * (nI a + nI m) + 20 * nI c) (nI a + nI m + nI c) = _
    unfold q_quot
    rw [nI_add, nI_add, nI_mul, show (20 : Int32) * nI c = nI (20 * c) from nI_mul 20 c, nI_add, if_neg (show ¬ nI (a + m + c) = 0 from nI_ne (b := 0) (by omega) (by decide) (by omega)), pk_div (by omega) (by omega) (by omega)]
theorem w_ok.fill {pn : Nat} {hd v : q_V} {i : Nat} {bb : Int32} {c : Nat} (h : w_ok pn hd v) (hi : i < pn) (hc : c ≤ 13000) : w_ok pn hd (z_fillv hd v i bb (nI c)) := by
  obtain ⟨x, a, m, t, d, e1, e2, e3, e4, e5, b1, b2, b3, b4, b5, b6⟩ := h.2.2.2.2 i hi
  unfold z_fillv
  rw [e1, e2, e3, e4, e5, add_nI b1 b2 hc]
  split
  · next hp =>
    have h0 : 0 < min c (x - a - m) := by
      rcases Nat.eq_zero_or_pos (min c (x - a - m)) with h9 | h9
      · rw [h9] at hp; exact absurd hp (by decide)
      · exact h9
    obtain ⟨u, u1, u2, u3⟩ := fh_nI (a := a) (m := m) (t := t) h0 b3 b4 (by omega)
    rw [u3]
    split
    · exact h.pan (fun _ => ⟨x, a + min c (x - a - m), m, u, d, e1, nI_add _ _, rfl, rfl, rfl, b1, by omega, u1, u2, b5, b6⟩)
    · have hq : q_quot (nI d * nI m) (nI m + nI (min c (x - a - m))) = nI (d * m / (m + min c (x - a - m))) := by
        have hx : d * m ≤ 100 * 200 := Nat.mul_le_mul b5 (by omega)
        unfold q_quot
        rw [nI_add, nI_mul, if_neg (show ¬ nI (m + min c (x - a - m)) = 0 from nI_ne (b := 0) (by omega) (by decide) (by omega)), pk_div (by omega) (by omega) (by omega)]
      rw [hq]
      have hd : d * m / (m + min c (x - a - m)) ≤ 100 := by
        have h8 : d * m ≤ 100 * (m + min c (x - a - m)) := Nat.le_trans (Nat.mul_le_mul_right m b5) (Nat.mul_le_mul_left 100 (by omega))
        have : d * m / (m + min c (x - a - m)) < 101 := (Nat.div_lt_iff_lt_mul (by omega)).mpr (by omega)
        omega
      exact h.pan (fun _ => ⟨x, a, m + min c (x - a - m), u, _, e1, rfl, nI_add _ _, rfl, rfl, b1, by omega, u1, u2, hd, fun h9 => by omega⟩)
  · exact h
theorem frv_nI {pn : Nat} {hd v : q_V} {i : Nat} {c : Nat} (h : w_ok pn hd v) (hi : i < pn) (hc : c ≤ 13000) : ∃ u, u ≤ c ∧ z_frv hd v i (nI c) = nI u := by
  obtain ⟨x, a, m, t, d, e1, e2, e3, e4, e5, b1, b2, b3, b4, b5, b6⟩ := h.2.2.2.2 i hi
  refine ⟨min c (x - a - m), by omega, ?_⟩
  show z_fr (hd i) (v (52 + 4 * i)) (v (53 + 4 * i)) (nI c) = _
  unfold z_fr
  rw [e1, e2, e3, add_nI b1 b2 hc]
  split
  · rfl
  · next hp =>
    rcases Nat.eq_zero_or_pos (min c (x - a - m)) with h9 | h9
    · rw [h9]; rfl
    · exact absurd (nI_lt (a := 0) h9 (by omega)) hp
theorem w_ok.room {pn : Nat} {hd v : q_V} {i : Nat} (h : w_ok pn hd v) (hi : i < pn) : 0 ≤ hd i - v (52 + 4 * i) - v (53 + 4 * i) := by
  obtain ⟨x, a, m, t, d, e1, e2, e3, e4, e5, b1, b2, b3, b4, b5, b6⟩ := h.2.2.2.2 i hi
  rw [e1, e2, e3, show nI x - nI a = nI (x - a) from pk_sub (by omega), show nI (x - a) - nI m = nI (x - a - m) from pk_sub (by omega)]
  exact nI_pos' (by omega)

/-! the law's kitchen: acts one by one -/
/-- nothing but the kitchen is written -/
def FRM (k pa ki pn : Nat) (pr : Nat → Nat) (n : Nat) (f f1 : q_H) : Prop := ∀ z, z ≠ k → z ≠ pa → z ≠ ki → (∀ i, i < pn → z ≠ pr i) → z < n → f1 z = f z
def PRN (pn : Nat) (pr pr2 : Nat → Nat) (n : Nat) : Prop := ∀ i, i < pn → pr2 i = pr i ∨ n ≤ pr2 i
def OFF (k pa ki pn : Nat) (pr : Nat → Nat) (n : Nat) (P : Nat → Prop) : Prop := ∀ q, P q → q < n ∧ q ≠ k ∧ q ≠ pa ∧ q ≠ ki ∧ ∀ i, i < pn → q ≠ pr i
theorem FRM.rf {k pa ki pn : Nat} {pr : Nat → Nat} {n : Nat} {f : q_H} : FRM k pa ki pn pr n f f := fun _ _ _ _ _ _ => rfl
theorem PRN.rf {pn : Nat} {pr : Nat → Nat} {n : Nat} : PRN pn pr pr n := fun _ _ => Or.inl rfl
theorem PRN.trans {pn : Nat} {pr pr1 pr2 : Nat → Nat} {n n1 : Nat} (h1 : PRN pn pr pr1 n) (h2 : PRN pn pr1 pr2 n1) (hn : n ≤ n1) : PRN pn pr pr2 n := fun i hi => by
  rcases h2 i hi with e | e
  · rw [e]; exact h1 i hi
  · exact Or.inr (Nat.le_trans hn e)
theorem FRM.trans {k pa ki pn : Nat} {pr pr1 : Nat → Nat} {n n1 : Nat} {f f1 f2 : q_H} (h1 : FRM k pa ki pn pr n f f1) (hp : PRN pn pr pr1 n) (hn : n ≤ n1) (h2 : FRM k pa ki pn pr1 n1 f1 f2) : FRM k pa ki pn pr n f f2 := fun z a b c d e =>
  (h2 z a b c (fun i hi e9 => by rcases hp i hi with h | h; (exact d i hi (e9.trans h)); omega) (Nat.lt_of_lt_of_le e hn)).trans (h1 z a b c d e)
theorem OFF.trans {k pa ki pn : Nat} {pr pr1 : Nat → Nat} {n n1 : Nat} {P : Nat → Prop} (h : OFF k pa ki pn pr n P) (hp : PRN pn pr pr1 n) (hn : n ≤ n1) : OFF k pa ki pn pr1 n1 P := fun q hq => by
  obtain ⟨a, b, c, d, e⟩ := h q hq
  refine ⟨by omega, b, c, d, fun i hi e9 => ?_⟩
  rcases hp i hi with h | h
  · exact e i hi (e9.trans h)
  · omega
theorem OFF.fr {k pa ki pn : Nat} {pr : Nat → Nat} {n : Nat} {P : Nat → Prop} {f f1 : q_H} (h : OFF k pa ki pn pr n P) (hf : FRM k pa ki pn pr n f f1) : ∀ q, P q → P q ∧ f1 q = f q := fun q hq => by
  obtain ⟨a, b, c, d, e⟩ := h q hq
  exact ⟨hq, hf q b c d e a⟩
/-- the kitchen behind something, with what stands of it -/
def KB (E : q_E) (f f1 : q_H) (n n1 : Nat) (k pa re ki pn : Nat) (pr : Nat → Nat) (hd : q_V) (s : q_KS) : Prop :=
  ∃ (wa2 no2 : Nat) (pr2 : Nat → Nat), LK E f1 k pa re ki wa2 no2 pn pr2 hd s.1 s.2.1 s.2.2 ∧ LSp ki wa2 no2 pn pr2 ∧ PRN pn pr pr2 n ∧ n ≤ n1 ∧ FRM k pa ki pn pr n f f1
theorem z_warn_lo {v : q_V} {T kd q : Nat} (hk : kd < 6) (h : q < 4 ∨ 32 ≤ q) : z_warn v T kd q = v q := by
  have := Nat.mod_lt T (show 20 > 0 by decide)
  unfold z_warn
  rw [z_un (by omega), z_un (by omega), z_un (by omega)]
theorem kw_lo {kd q : Nat} {s : q_KS} (hk : kd < 6) (h : q < 4 ∨ 32 ≤ q) : (k_warn kd s).1 q = s.1 q := by
  unfold k_warn
  exact z_warn_lo hk h
theorem kw_10 {kd : Nat} {s : q_KS} (hk : kd < 6) : (k_warn kd s).1 10 = if 4 = kd then s.1 10 + 1 else s.1 10 := by
  unfold k_warn
  exact z_warn_k (j := 4) hk (by decide)

theorem ht_end {t u m : Nat} (h1 : t < u) (h2 : u ≤ 100) (h3 : u ≤ t + 10 * m) (h4 : m = 0 ∨ t + 10 * (m - 1) < u) : (nI u - nI t + 9) / 10 = nI m := by
  rw [show nI u - nI t = nI (u - t) from pk_sub (by omega), show nI (u - t) + 9 = nI (u - t + 9) from nI_add _ 9, show nI (u - t + 9) / 10 = nI ((u - t + 9) / 10) from pk_div (d := 10) (by omega) (by decide) (by decide)]
  congr 1
  omega
theorem hmin_r {x r : Int32} (h : r < x) : q_min x r = r := if_pos h
theorem hmin_x {x r : Int32} (h : ¬ r < x) : q_min x r = x := if_neg h
/-- what is heated to is no more than the boiling point -/
theorem to_nI {x : Int32} {bl t : Nat} (hb : bl ≤ 100) (ht : t ≤ 100) (h : nI t < q_min x (nI bl)) : ∃ u, t < u ∧ u ≤ bl ∧ q_min x (nI bl) = nI u := by
  by_cases h1 : nI bl < x
  · rw [hmin_r h1] at h ⊢
    refine ⟨bl, ?_, Nat.le_refl _, rfl⟩
    rcases Nat.lt_or_ge t bl with h8 | h8
    · exact h8
    · exact absurd h (nI_nlt h8 (by omega))
  · rw [hmin_x h1] at h ⊢
    have h0 : ¬ x < 0 := fun e => Int32.lt_irrefl (Int32.lt_trans (Int32.lt_of_le_of_lt (nI_pos' (n := t) (by omega)) h) e)
    obtain ⟨j, hj, rfl⟩ := nI_of h0
    refine ⟨j, ?_, ?_, rfl⟩
    · rcases Nat.lt_or_ge t j with h8 | h8
      · exact h8
      · exact absurd h (nI_nlt h8 (by omega))
    · rcases Nat.lt_or_ge bl j with h8 | h8
      · exact absurd (nI_lt h8 hj) h1
      · exact h8

def k_boilx (pn i : Nat) (x : Int32) (s : q_KS) : q_KS := if s.1 (52 + 4 * i) = 0 ∨ s.1 (54 + 4 * i) < z_boil (s.1 0) then k_warn 4 s else k_boil2 pn i (z_long (q_clamp x 0 999) (s.1 0)) s
theorem lg_nI {h al : Nat} (hh : h ≤ 999) (hal : al ≤ 60) : ∃ q, q ≤ 2001 ∧ z_long (nI h) (nI al) = nI q := by
  obtain ⟨q, hq, -, e⟩ := lg_eq hh hal
  exact ⟨_, by split <;> omega, e⟩
theorem bl_min {q a : Nat} (h1 : q ≤ 4000) (h2 : a ≤ 200) : q_min (nI q) (5 * nI a) = nI (min q (5 * a)) := by
  rw [show (5 : Int32) * nI a = nI (5 * a) from nI_mul 5 a]
  exact min_nI (by omega) (by omega)
theorem cook_nI {mi sl : Nat} (h1 : mi ≤ 4000) (h2 : 100 ≤ sl) (h3 : sl ≤ 300) : q_quot (nI mi * 100) (nI sl) = nI (mi * 100 / sl) := by
  unfold q_quot
  rw [show nI mi * 100 = nI (mi * 100) from nI_mul mi 100, if_neg (show ¬ nI sl = 0 from nI_ne (b := 0) (by omega) (by decide) (by omega)), pk_div (by omega) (by omega) (by omega)]
theorem dn_min {d x : Nat} (h : d + x < 2 ^ 31) : q_min 100 (nI d + nI x) = nI (min 100 (d + x)) := by
  rw [nI_add]
  exact min_nI (by decide) (by omega)

def prx (pr : Nat → Nat) (i n : Nat) : Nat → Nat := fun j => if j = i then n else pr j
theorem LK.empty {E : q_E} {f : q_H} {k pa re ki wa no pn : Nat} {pr : Nat → Nat} {hd v : q_V} {b : Nat} {w : Int32} {gp : Nat → Option Nat} (h : LK E f k pa re ki wa no pn pr hd v b w) (hp : f pa = some (aQ E 8 pn gp)) (hpv : ∀ i, i < pn → gp i = some (pr i)) {i n : Nat} {gr : Nat → Int32} (hlt : ∀ q x, f q = some x → q < n) (hi : i < pn) (hpn : pn ≤ 8)
    (g0 : gr 0 = hd i) (g1 : gr 1 = 0) (g2 : gr 2 = 0) (g3 : gr 3 = 20) (g4 : gr 4 = 0) : LK E (va_up (va_up f n (some (aI E 5 gr))) pa (some (aQ E 8 pn (va_up gp i (some n))))) k pa re ki wa no pn (prx pr i n) hd (z_pan v i 0 0 20 0) b w := by
  obtain ⟨h1, ⟨gk, h2, h2'⟩, ⟨gw, h3, h3'⟩, ⟨gn, h4, h4'⟩, -, h6⟩ := h
  have eT : k_T (z_pan v i 0 0 20 0) = k_T v := by unfold k_T; rw [z_pan_n (by omega)]
  have eN : k_N (z_pan v i 0 0 20 0) = k_N v := by unfold k_N; rw [z_pan_n (by omega)]
  have kp : k ≠ pa := fun e => by rw [e, hp] at h1; cases h1
  have kip : ki ≠ pa := ne_iq h2 hp
  have wap : wa ≠ pa := ne_iq h3 hp
  have nop : no ≠ pa := ne_iq h4 hp
  have lk := hlt _ _ h1
  have lki := hlt _ _ h2
  have lwa := hlt _ _ h3
  have lno := hlt _ _ h4
  have lpa := hlt _ _ hp
  refine ⟨?_, ⟨gk, q_ne kip (q_ne (by omega) h2), fun j hj => by rw [z_pan_n (by omega)]; exact h2' j hj⟩, ⟨gw, by rw [eT]; exact q_ne wap (q_ne (by omega) h3), fun j hj => ?_⟩, ⟨gn, by rw [eN]; exact q_ne nop (q_ne (by omega) h4), fun j hj => ?_⟩, ⟨_, q_eq, fun j hj => ?_⟩, fun j hj => ?_⟩
  · rw [z_pan_n (by omega), z_pan_n (by omega), z_pan_n (by omega), z_pan_n (by omega), z_pan_n (by omega)]
    exact q_ne kp (q_ne (by omega) h1)
  · rw [eT] at hj ⊢
    have : (k_T v - 1 - j) % 20 < 20 := Nat.mod_lt _ (by decide)
    rw [z_pan_n (by omega)]
    exact h3' j hj
  · rw [eN] at hj ⊢
    have : (k_N v - 1 - j) % 20 < 20 := Nat.mod_lt _ (by decide)
    rw [z_pan_n (by omega)]
    exact h4' j hj
  · unfold prx
    by_cases e : j = i
    · rw [if_pos e, e]; exact va_up_self _ _ _
    · rw [if_neg e, va_up_ne _ _ e]; exact hpv j hj
  · unfold prx
    by_cases e : j = i
    · subst e
      rw [if_pos rfl]
      exact ⟨gr, q_ne (by omega) q_eq, g0, g1.trans z_pan_0.symm, g2.trans z_pan_1.symm, g3.trans z_pan_2.symm, g4.trans z_pan_3.symm⟩
    · rw [if_neg e]
      obtain ⟨g, e1, e2, e3, e4, e5, e6⟩ := h6 j hj
      have l1 := hlt _ _ e1
      refine ⟨g, q_ne (ne_iq e1 hp) (q_ne (by omega) e1), e2, ?_, ?_, ?_, ?_⟩
      · rw [z_pan_n (by omega)]; exact e3
      · rw [z_pan_n (by omega)]; exact e4
      · rw [z_pan_n (by omega)]; exact e5
      · rw [z_pan_n (by omega)]; exact e6
theorem LSp.empty {ki wa no pn : Nat} {pr : Nat → Nat} (h : LSp ki wa no pn pr) {i n : Nat} (h1 : ki < n) (h2 : wa < n) (h3 : no < n) (h4 : ∀ i, i < pn → pr i < n) : LSp ki wa no pn (prx pr i n) := by
  obtain ⟨a, b, c, d⟩ := h
  refine ⟨a, b, fun j hj => ?_, fun x y hx hy e => ?_⟩
  · unfold prx
    by_cases e : j = i
    · rw [if_pos e]; omega
    · rw [if_neg e]; exact c j hj
  · unfold prx at e
    have l1 := h4 x hx
    have l2 := h4 y hy
    by_cases e1 : x = i
    · by_cases e2 : y = i
      · rw [e1, e2]
      · rw [if_pos e1, if_neg e2] at e; omega
    · by_cases e2 : y = i
      · rw [if_neg e1, if_pos e2] at e; omega
      · rw [if_neg e1, if_neg e2] at e; exact d x y hx hy e
theorem PRN.empty {pn : Nat} {pr : Nat → Nat} {i n : Nat} : PRN pn pr (prx pr i n) n := fun j _ => by
  unfold prx
  by_cases e : j = i
  · rw [if_pos e]; exact Or.inr (Nat.le_refl _)
  · rw [if_neg e]; exact Or.inl rfl
theorem prx_off {pr : Nat → Nat} {i n pn z : Nat} (h : ∀ i, i < pn → z ≠ pr i) (hz : z < n) : ∀ j, j < pn → z ≠ prx pr i n j := fun j hj e => by
  unfold prx at e
  by_cases e1 : j = i
  · rw [if_pos e1] at e; omega
  · rw [if_neg e1] at e; exact h j hj e

theorem LK.note {E : q_E} {f F : q_H} {k pa re ki wa no pn : Nat} {pr : Nat → Nat} {hd v : q_V} {b : Nat} {w x : Int32} (h : LK E f k pa re ki wa no pn pr hd v b w) {gn : Nat → Int32} (hnv : ∀ j, j < min (k_N v) 20 → gn j = v (32 + (k_N v - 1 - j) % 20)) (h5 : v 5 = nI (k_N v)) (hN : k_N v < 2 ^ 30) {n : Nat} {g1 : Nat → Int32}
    (hF : ∀ q y, f q = some y → q ≠ k → F q = some y) (hk : F k = some (cLK (v 0) (v 1) (v 2) (v 3) (some pa) (some re) (some ki) (some wa) (some n) (v 5 + 1) (nI b) w)) (hn : F n = some (aI E (min (min (k_N v) 20 + 1) 20) g1)) (e0 : g1 0 = x) (e1 : ∀ j, j + 1 < min (min (k_N v) 20 + 1) 20 → g1 (j + 1) = gn j) : LK E F k pa re ki wa n pn pr hd (z_note v (k_N v) x) b w := by
  have hkr := fun i (hi : i < pn) => h.kr hi
  obtain ⟨h1, ⟨gk, h2, h2'⟩, ⟨gw, h3, h3'⟩, -, ⟨gp, h6, h6'⟩, h7⟩ := h
  have hm : k_N v % 20 < 20 := Nat.mod_lt _ (by decide)
  have zq : ∀ q, (q < 5 ∨ (5 < q ∧ q < 32) ∨ 52 ≤ q) → z_note v (k_N v) x q = v q := fun q hq => by unfold z_note; rw [z_un (by omega), z_un (by omega)]
  have e5 : z_note v (k_N v) x 5 = nI (k_N v + 1) := by unfold z_note; rw [z_us]; exact nI_1 _
  have eN : k_N (z_note v (k_N v) x) = k_N v + 1 := by
    show (z_note v (k_N v) x 5).toNatClampNeg = _
    rw [e5]
    exact nI_clamp (by omega)
  have eT : k_T (z_note v (k_N v) x) = k_T v := by unfold k_T; rw [zq 4 (by omega)]
  have zr : ∀ j, j < 20 → z_note v (k_N v) x (32 + j) = if j = k_N v % 20 then x else v (32 + j) := fun j hj => by
    unfold z_note
    rw [z_un (by omega)]
    by_cases e9 : j = k_N v % 20
    · rw [if_pos e9, e9, z_us]
    · rw [if_neg e9, z_un (by omega)]
  refine ⟨?_, ⟨gk, hF _ _ h2 (ne_ab h1 h2), fun j hj => by rw [zq _ (by omega)]; exact h2' j hj⟩, ⟨gw, by rw [eT]; exact hF _ _ h3 (ne_ab h1 h3), fun j hj => ?_⟩, ⟨g1, by rw [eN, ← min_20]; exact hn, by rw [eN]; exact late_1 hnv e0 e1 ((zr _ hm).trans (if_pos rfl)) (fun j hj hne => (zr j hj).trans (if_neg hne))⟩, ⟨gp, hF _ _ h6 (fun e => by rw [e, h1] at h6; cases h6), h6'⟩, fun j hj => ?_⟩
  · rw [zq 0 (by omega), zq 1 (by omega), zq 2 (by omega), zq 3 (by omega), e5, ← nI_1, ← h5]
    exact hk
  · rw [eT] at hj ⊢
    have : (k_T v - 1 - j) % 20 < 20 := Nat.mod_lt _ (by decide)
    rw [zq _ (by omega)]
    exact h3' j hj
  · obtain ⟨g, a1, a2, a3, a4, a5, a6⟩ := h7 j hj
    exact ⟨g, hF _ _ a1 (hkr j hj).1, a2, by rw [zq _ (by omega)]; exact a3, by rw [zq _ (by omega)]; exact a4, by rw [zq _ (by omega)]; exact a5, by rw [zq _ (by omega)]; exact a6⟩

set_option maxHeartbeats 4000000 in
set_option maxRecDepth 100000 in
theorem kX15_carryOut_0 (l : Launch) (E : q_E) (f : q_H) (n : Nat) (x9 y9 z9 : Nat) (k pa re ki wa no pn : Nat) (pr : Nat → Nat) (hd v : q_V) (b : Nat) (w : Int32) (B : Nat) (a i y : Nat) (sg on ot blk el : Option Nat) (P : Nat → Prop) (D : q_D) (Wt : List Int32) (h0 : f a = some (cLA 0 (nI i) (some y) sg on ot blk el)) (hK : LK E f k pa re ki wa no pn pr hd v b w) (hs : LSp ki wa no pn pr) (hi : i < pn) (hpn : pn ≤ 8) (hv : w_ok pn hd v) (hB : B ≤ 2 ^ 29) (hI : k_inv1 B (v, b, w)) (hN : NODE pn P f 1 y D Wt) : Met l yX15_carryOut wsX15_carryOut ({ frames := x9 + 10, cells := 1 + z9, slots := 20 * (1 + z9), locals := y9 + 500 }) (q_P E [.ref k, .ref a] f n) (q_Qv E (fun f1 n1 => KB E f f1 n n1 k pa re ki pn pr hd (k_pour pn i 0 D hd (v, b, w)))) (1 + z9) (20 * (1 + z9)) (q_ge E) := by
  refine Met.ofW (cc := cX15_carryOut) (maxL := 7) (ret := none) (by decide) rfl ?_
  intro p0_ e0_ s0_ m0_ args0_ below0_ meth0_ c0_ s1_ B0_ hml hv
  obtain ⟨rfl, hA, hW⟩ := hv
  have hx := B0_.exec
  have hb := B0_.bytes
  have hr := B0_.returns
  have hts := atoms_spec (ws := wsX15_carryOut) B0_.pre
  have hown : s0_.vm.findClass RX15 = some m0_.cls := findClass_of_methodNamed B0_.named
  have hlocks := B0_.notSynchronized
  have hS : va_S (q_ge E) s0_.heap s0_.heap [] := va_S.rf
  have iX13 : ∀ w ∈ wsX130, w ∈ wsX15_carryOut := by decide +kernel
  have iX15 : ∀ w ∈ wsX150, w ∈ wsX15_carryOut := by decide +kernel
  have hl := lv_entry ([.ref k, .ref a]) (n := 7) (Nat.le_of_ble_eq_true rfl)
  rw [lg_entry_eq]
  generalize (lg_sl ([.ref k, .ref a]) ++ List.replicate (7 - (lg_sl ([.ref k, .ref a])).length) Slot.unset).toArray = ls at hl ⊢
  have hl : lv_has ls 7 [(0, .ref k), (1, .ref a)] := hl
  obtain ⟨hk0, ⟨gk, hki, hkv⟩, ⟨gw, hwa, hwv⟩, ⟨gn, hno, hnv⟩, ⟨gp, hpa, hpv⟩, hrow⟩ := id hK
  have l_k := hW.lt hk0
  have l_ki := hW.lt hki
  have l_wa := hW.lt hwa
  have l_no := hW.lt hno
  have l_pa := hW.lt hpa
  have l_h0 := hW.lt h0
  have hkp9 := ne_ab hk0 hpa
  have hak : a ≠ k := ne_ci h0 hk0 (by decide)
  have hapa : a ≠ pa := fun e => ne_ab h0 hpa e.symm
  have haki : a ≠ ki := fun e => ne_ab h0 hki e.symm
  have har : ∀ i, i < pn → a ≠ pr i := fun i hi e9 => by obtain ⟨gr9, e8, -⟩ := hrow i hi; rw [← e9, h0] at e8; cases e8
  obtain ⟨gr, hr_i, hg0, hg1, hg2, hg3, hg4⟩ := hrow i hi
  have l_r := hW.lt hr_i
  have hrk := hK.kr hi
  have har9 := har i hi
  have hi4 := hI.2.1.1
  have hi4b : k_T v < 2 ^ 30 := by have h8 := hI.1; have h9 := hI.2.1.2; have h8 : b ≤ 100 := h8; have h9 : k_T v + 101 ≤ B + b := h9; omega
  have hi5b : k_N v < 2 ^ 30 := by have h8 := hI.1; have h9 := hI.2.2.2; have h8 : b ≤ 100 := h8; have h9 : k_N v + 101 ≤ B + b := h9; omega
  obtain ⟨-, so, ky, xy, yy, hcy⟩ := hN.cell
  have l_y := hW.lt hcy
  obtain ⟨se, hse1, hse, hv1⟩ := id hv.2.1
  obtain ⟨sp, hsp1, hsp, hv2⟩ := id hv.2.2.1
  obtain ⟨al, hal, hv0⟩ := id hv.1
  obtain ⟨h9, hh9, hxh⟩ := clamp_nI (D hd v)
  obtain ⟨c, hc, hcx⟩ := tr_nI hv1 hv2 hse hsp1 hsp (D hd v)
  refine lv_aload_n hx hb dX15_carryOut_0 rfl (lv_at hl 1 rfl) ?_
  refine q_get hx hb hts hown hA hW iX13 h0 rfl 0 (by decide) (hts (.fieldLink RX15 81 "HighRecipesLaw$Act" "does" "I") (by decide +kernel)) (fun _ h9 => h9) (v := .int 0) rfl dX15_carryOut_1 ?_
  refine lv_bipush (v := 7) hx hb dX15_carryOut_4 (by decide) ?_
  refine lv_icmp_ne (tgt := 13) hx hb dX15_carryOut_6 (by decide) (fun c_6 => ?_) (fun c_6 => absurd c_6 (by decide))
  refine lv_aload_n hx hb dX15_carryOut_13 rfl (lv_at hl 0 rfl) ?_
  refine q_get hx hb hts hown hA hW iX15 hk0 rfl 4 (by decide) (hts (.fieldLink RX15 18 "HighRecipesLaw$Kitchen" "pans" "[[I") (by decide +kernel)) (fun _ h9 => h9) (v := .ref pa) rfl dX15_carryOut_14 ?_
  refine lv_aload_n hx hb dX15_carryOut_17 rfl (lv_at hl 1 rfl) ?_
  refine q_get hx hb hts hown hA hW iX13 h0 rfl 1 (by decide) (hts (.fieldLink RX15 86 "HighRecipesLaw$Act" "whom" "I") (by decide +kernel)) (fun _ h9 => h9) (v := .int (nI i)) rfl dX15_carryOut_18 ?_
  refine q_aaldA hx hb hA hW 8 rfl hpa (vp_in_nI (by omega) (by omega)) dX15_carryOut_21 ?_
  rw [show gp (nI i).toNatClampNeg = some (pr i) from by rw [nI_clamp (by omega)]; exact hpv i (by omega)]
  refine lv_astore_n (lv' := [(2, .ref (pr i)), (0, .ref k), (1, .ref a)]) hx hb dX15_carryOut_22 rfl hl (by decide) rfl (fun ls hl => ?_)
  refine lv_aload_n hx hb dX15_carryOut_23 rfl (lv_at hl 2 rfl) ?_
  refine q_get hx hb hts hown hA hW iX13 h0 rfl 2 (by decide) (hts (.fieldLink RX15 89 "HighRecipesLaw$Act" "value" "LHighRecipesLaw$Node;") (by decide +kernel)) (fun _ h9 => h9) (v := .ref y) rfl dX15_carryOut_24 ?_
  refine lv_ifnonnull (tgt := 34) hx hb dX15_carryOut_27 (by decide) ?_
  refine lv_aload_n hx hb dX15_carryOut_34 rfl (lv_at hl 2 rfl) ?_
  refine q_get hx hb hts hown hA hW iX13 h0 rfl 2 (by decide) (hts (.fieldLink RX15 89 "HighRecipesLaw$Act" "value" "LHighRecipesLaw$Node;") (by decide +kernel)) (fun _ h9 => h9) (v := .ref y) rfl dX15_carryOut_35 ?_
  refine lv_aload_n hx hb dX15_carryOut_38 rfl (lv_at hl 1 rfl) ?_
  refine q_ci (va_runV (As := [.ref k]) (rest := []) ⟨hx, hb, hml, hown, hts⟩ (kX16_value_1 l E f n k pa re ki wa no pn pr hd v b w y P D Wt hN hpn hK) (cwV 1 hts gX15_carryOut_X16_value rfl rfl rfl (by decide +kernel) ⟨(by show 6 + 1 ≤ x9 + 10; omega), (by show 8 + (4 + 11) + 240 ≤ y9 + 500; omega)⟩) (q_pV hA hW hS (ci := 16) rfl hcy) rfl rfl hl.1 rfl (lv_room (Nat.le_of_ble_eq_true rfl)) dX15_carryOut_39 ⟨(by show _ ≤ 1 + z9; omega), (by show _ ≤ 20 * (1 + z9); omega)⟩) hS (fun r_39 f_39 n_39 H locs hp hW hS => ?_)
  obtain ⟨rfl, rfl, rfl⟩ := hp
  have hW : q_W E (f) n H := hW
  refine lv_istore_n (lv' := [(3, .int (D hd v)), (2, .ref (pr i)), (0, .ref k), (1, .ref a)]) hx hb dX15_carryOut_42 rfl hl (by decide) rfl (fun ls hl => ?_)
  refine lv_aload_n hx hb dX15_carryOut_43 rfl (lv_at hl 3 rfl) ?_
  refine q_get hx hb hts hown hA hW iX13 h0 rfl 0 (by decide) (hts (.fieldLink RX15 81 "HighRecipesLaw$Act" "does" "I") (by decide +kernel)) (fun _ h9 => h9) (v := .int 0) rfl dX15_carryOut_44 ?_
  refine lv_tableIn (x := 0) (off := 49) (tgt := 96) hx hb dX15_carryOut_47 (by decide) (by decide) (by decide) (by decide) ?_
  refine lv_aload_n hx hb dX15_carryOut_96 rfl (lv_at hl 2 rfl) ?_
  refine lv_iload_n hx hb dX15_carryOut_97 rfl (lv_at hl 0 rfl) ?_
  refine q_ci (va_runV (As := [.int (D hd v)]) (rest := []) ⟨hx, hb, hml, hown, hts⟩ (kX15_amount l E f n k pa re ki wa no pn pr hd v b w (D hd v) h9 se sp hK hv1 hv2 hxh hh9 hse hsp1 hsp) (cwV 1 hts gX15_carryOut_X15_amount rfl rfl rfl (by decide +kernel) ⟨(by show 1 + 1 ≤ x9 + 10; omega), (by show 8 + (5 + 11) + 21 ≤ y9 + 500; omega)⟩) (q_pV hA hW hS (ci := 15) rfl hk0) rfl rfl hl.1 rfl (lv_room (Nat.le_of_ble_eq_true rfl)) dX15_carryOut_98 ⟨(by show _ ≤ 1 + z9; omega), (by show _ ≤ 20 * (1 + z9); omega)⟩) hS (fun r_98 f_98 n_98 H locs hp hW hS => ?_)
  obtain ⟨rfl, rfl, rfl⟩ := hp
  have hW : q_W E (f) n H := hW
  rw [hcx]
  refine lv_istore (lv' := [(4, .int (nI c)), (3, .int (D hd v)), (2, .ref (pr i)), (0, .ref k), (1, .ref a)]) hx hb dX15_carryOut_101 hl (by decide) rfl (fun ls hl => ?_)
  refine lv_aload_n hx hb dX15_carryOut_103 rfl (lv_at hl 3 rfl) ?_
  refine lv_aload_n hx hb dX15_carryOut_104 rfl (lv_at hl 4 rfl) ?_
  refine q_get hx hb hts hown hA hW iX13 h0 rfl 1 (by decide) (hts (.fieldLink RX15 86 "HighRecipesLaw$Act" "whom" "I") (by decide +kernel)) (fun _ h9 => h9) (v := .int (nI i)) rfl dX15_carryOut_105 ?_
  refine lv_aload_n hx hb dX15_carryOut_108 rfl (lv_at hl 4 rfl) ?_
  refine q_get hx hb hts hown hA hW iX13 h0 rfl 0 (by decide) (hts (.fieldLink RX15 81 "HighRecipesLaw$Act" "does" "I") (by decide +kernel)) (fun _ h9 => h9) (v := .int 0) rfl dX15_carryOut_109 ?_
  refine lv_iconst (v := 1) hx hb dX15_carryOut_112 (by decide) ?_
  refine lv_icmp_ne (tgt := 120) hx hb dX15_carryOut_113 (by decide) (fun c_113 => ?_) (fun c_113 => absurd c_113 (by decide))
  refine lv_iconst (v := 0) hx hb dX15_carryOut_120 (by decide) ?_
  refine lv_iload hx hb dX15_carryOut_121 (lv_at hl 0 rfl) ?_
  refine q_ci (va_runV (As := [.int (nI i), .int 0, .int (nI c)]) (rest := []) ⟨hx, hb, hml, hown, hts⟩ (kX15_pour_0 l E f n k pa re ki wa no pn pr hd v b w i (nI c) hK hs hi hpn hv.v (nI_pos' (by omega)) (hv.room hi)) (cwV 3 hts gX15_carryOut_X15_pour rfl rfl rfl (by decide +kernel) ⟨(by show 1 + 1 ≤ x9 + 10; omega), (by show 8 + (7 + 11) + 21 ≤ y9 + 500; omega)⟩) (q_pV hA hW hS (ci := 15) rfl hk0) rfl rfl hl.1 rfl (lv_room (Nat.le_of_ble_eq_true rfl)) dX15_carryOut_123 ⟨(by show _ ≤ 1 + z9; omega), (by show _ ≤ 20 * (1 + z9); omega)⟩) hS (fun r_123 f_123 n_123 H locs hp hW hS => ?_)
  obtain ⟨rfl, eK_123, en_123, hfr_123⟩ := hp
  have ha_123 : f_123 a = some (cLA 0 (nI i) (some y) sg on ot blk el) := (hfr_123 _ (har i hi)).trans h0
  obtain ⟨hk0_123, ⟨gk_123, hki_123, hkv_123⟩, ⟨gw_123, hwa_123, hwv_123⟩, ⟨gn_123, hno_123, hnv_123⟩, ⟨gp_123, hpa_123, hpv_123⟩, hrow_123⟩ := id eK_123
  obtain ⟨gr_123, hr_123, hg0_123, hg1_123, hg2_123, hg3_123, hg4_123⟩ := hrow_123 i hi
  have hok := hv.fill (bb := 0) hi hc
  obtain ⟨u, hu, hue⟩ := frv_nI hv hi hc
  have hT9 : (z_fillv hd v i 0 (nI c)) 4 = nI (k_T (z_fillv hd v i 0 (nI c))) := hok.2.2.2.1.1
  have hT8 : k_T (z_fillv hd v i 0 (nI c)) = k_T v := by unfold k_T; rw [z_fillv_n (by omega)]
  refine lv_iload hx hb dX15_carryOut_126 (lv_at hl 0 rfl) ?_
  refine lv_icmp_eq (tgt := 136) hx hb dX15_carryOut_128 (by decide) (fun c_128 => ?_) (fun c_128 => ?_)
  · have hnw : ¬ z_frv hd v i (nI c) < nI c := by rw [c_128]; exact fun h9 => Int32.lt_irrefl h9
    refine lv_aload_n hx hb dX15_carryOut_136 rfl (lv_at hl 3 rfl) ?_
    refine lv_iconst (v := 1) hx hb dX15_carryOut_137 (by decide) ?_
    refine lv_aload_n hx hb dX15_carryOut_138 rfl (lv_at hl 4 rfl) ?_
    refine q_get hx hb hts hown hA hW iX13 ha_123 rfl 1 (by decide) (hts (.fieldLink RX15 86 "HighRecipesLaw$Act" "whom" "I") (by decide +kernel)) (fun _ h9 => h9) (v := .int (nI i)) rfl dX15_carryOut_139 ?_
    refine q_cv (va_runV (As := [.int 1, .int (nI i)]) (rest := []) ⟨hx, hb, hml, hown, hts⟩ (kX15_goBy l E f_123 n_123 k pa re ki wa no pn pr hd (z_fillv hd v i 0 (nI c)) b w 1 i eK_123 hs hpn (by decide) (by omega) hok.hot) (cwV 2 hts gX15_carryOut_X15_goBy rfl rfl rfl (by decide +kernel) ⟨(by show 0 + 1 ≤ x9 + 10; omega), (by show 8 + (4 + 11) + 0 ≤ y9 + 500; omega)⟩) (q_pV hA hW hS (ci := 15) rfl hk0_123) rfl rfl hl.1 rfl (lv_room (Nat.le_of_ble_eq_true rfl)) dX15_carryOut_142 ⟨(by show _ ≤ 1 + z9; omega), (by show _ ≤ 20 * (1 + z9); omega)⟩) hS (fun f_142 n_142 H locs hp hW hS => ?_)
    obtain ⟨eK_142, en_142, hfr_142⟩ := hp
    have ha_142 : f_142 a = some (cLA 0 (nI i) (some y) sg on ot blk el) := (hfr_142 _ hak har (by omega)).trans ha_123
    obtain ⟨hk0_142, ⟨gk_142, hki_142, hkv_142⟩, ⟨gw_142, hwa_142, hwv_142⟩, ⟨gn_142, hno_142, hnv_142⟩, ⟨gp_142, hpa_142, hpv_142⟩, hrow_142⟩ := id eK_142
    refine lv_goto (tgt := 442) hx hb dX15_carryOut_145 (by decide) ?_
    have eS : k_pour pn i 0 D hd (v, b, w) = k_pass pn 1 i (z_fillv hd v i 0 (nI c), b, w) := by
      show k_pass pn 1 i (k_pour2 hd i 0 (z_tr v (D hd v)) (v, b, w)) = _
      rw [hcx]
      exact congrArg (k_pass pn 1 i) (if_neg hnw)
    exact q_vret hx hb hr hlocks hW hS ⟨wa, no, pr, (by rw [eS]; exact eK_142), hs, PRN.rf, (by omega), (fun z9 g0 g1 g2 g3 g4 => ((hfr_142 _ g0 g3 (by omega)).trans ((hfr_123 _ (g3 i hi)).trans rfl)))⟩ (by show _ ≤ 1 + z9; omega) (by show _ ≤ 20 * (1 + z9); omega) dX15_carryOut_442
  · have hnw : z_frv hd v i (nI c) < nI c := by rw [hue] at c_128 ⊢; exact nI_lt (by rcases Nat.lt_or_ge u c with h8 | h8; (exact h8); exact absurd (show nI u = nI c by rw [Nat.le_antisymm hu h8]) c_128) (by omega)
    refine lv_aload_n hx hb dX15_carryOut_131 rfl (lv_at hl 3 rfl) ?_
    refine lv_iconst (v := 1) hx hb dX15_carryOut_132 (by decide) ?_
    refine q_cv (va_runV (As := [.int 1]) (rest := []) ⟨hx, hb, hml, hown, hts⟩ (kX15_warn l E f_123 n_123 k pa re ki wa no pn pr hd (z_fillv hd v i 0 (nI c)) b w 1 eK_123 hs hpn (by decide) hT9 (by omega)) (cwV 1 hts gX15_carryOut_X15_warn rfl rfl rfl (by decide +kernel) ⟨(by show 1 + 1 ≤ x9 + 10; omega), (by show 8 + (2 + 11) + 23 ≤ y9 + 500; omega)⟩) (q_pV hA hW hS (ci := 15) rfl hk0_123) rfl rfl hl.1 rfl (lv_room (Nat.le_of_ble_eq_true rfl)) dX15_carryOut_133 ⟨(by show _ ≤ 1 + z9; omega), (by show _ ≤ 20 * (1 + z9); omega)⟩) hS (fun f_133 n_133 H locs hp hW hS => ?_)
    obtain ⟨wa2_133, eK_133, es_133, ewa_133, en_133, hfr_133⟩ := hp
    have ha_133 : f_133 a = some (cLA 0 (nI i) (some y) sg on ot blk el) := (hfr_133 _ hak haki (by omega)).trans ha_123
    obtain ⟨hk0_133, ⟨gk_133, hki_133, hkv_133⟩, ⟨gw_133, hwa_133, hwv_133⟩, ⟨gn_133, hno_133, hnv_133⟩, ⟨gp_133, hpa_133, hpv_133⟩, hrow_133⟩ := id eK_133
    obtain ⟨gr_133, hr_133, hg0_133, hg1_133, hg2_133, hg3_133, hg4_133⟩ := hrow_133 i hi
    have hok := hok.warn (kd := 1) (by decide) (by omega)
    refine lv_aload_n hx hb dX15_carryOut_136 rfl (lv_at hl 3 rfl) ?_
    refine lv_iconst (v := 1) hx hb dX15_carryOut_137 (by decide) ?_
    refine lv_aload_n hx hb dX15_carryOut_138 rfl (lv_at hl 4 rfl) ?_
    refine q_get hx hb hts hown hA hW iX13 ha_133 rfl 1 (by decide) (hts (.fieldLink RX15 86 "HighRecipesLaw$Act" "whom" "I") (by decide +kernel)) (fun _ h9 => h9) (v := .int (nI i)) rfl dX15_carryOut_139 ?_
    refine q_cv (va_runV (As := [.int 1, .int (nI i)]) (rest := []) ⟨hx, hb, hml, hown, hts⟩ (kX15_goBy l E f_133 n_133 k pa re ki wa2_133 no pn pr hd (z_warn (z_fillv hd v i 0 (nI c)) (k_T (z_fillv hd v i 0 (nI c))) 1) b (if w < 0 then nI b else w) 1 i eK_133 es_133 hpn (by decide) (by omega) hok.hot) (cwV 2 hts gX15_carryOut_X15_goBy rfl rfl rfl (by decide +kernel) ⟨(by show 0 + 1 ≤ x9 + 10; omega), (by show 8 + (4 + 11) + 0 ≤ y9 + 500; omega)⟩) (q_pV hA hW hS (ci := 15) rfl hk0_133) rfl rfl hl.1 rfl (lv_room (Nat.le_of_ble_eq_true rfl)) dX15_carryOut_142 ⟨(by show _ ≤ 1 + z9; omega), (by show _ ≤ 20 * (1 + z9); omega)⟩) hS (fun f_142 n_142 H locs hp hW hS => ?_)
    obtain ⟨eK_142, en_142, hfr_142⟩ := hp
    have ha_142 : f_142 a = some (cLA 0 (nI i) (some y) sg on ot blk el) := (hfr_142 _ hak har (by omega)).trans ha_133
    obtain ⟨hk0_142, ⟨gk_142, hki_142, hkv_142⟩, ⟨gw_142, hwa_142, hwv_142⟩, ⟨gn_142, hno_142, hnv_142⟩, ⟨gp_142, hpa_142, hpv_142⟩, hrow_142⟩ := id eK_142
    refine lv_goto (tgt := 442) hx hb dX15_carryOut_145 (by decide) ?_
    have eS : k_pour pn i 0 D hd (v, b, w) = k_pass pn 1 i (k_warn 1 (z_fillv hd v i 0 (nI c), b, w)) := by
      show k_pass pn 1 i (k_pour2 hd i 0 (z_tr v (D hd v)) (v, b, w)) = _
      rw [hcx]
      exact congrArg (k_pass pn 1 i) (if_pos hnw)
    exact q_vret hx hb hr hlocks hW hS ⟨wa2_133, no, pr, (by rw [eS]; exact eK_142), es_133, PRN.rf, (by omega), (fun z9 g0 g1 g2 g3 g4 => ((hfr_142 _ g0 g3 (by omega)).trans ((hfr_133 _ g0 g2 (by omega)).trans ((hfr_123 _ (g3 i hi)).trans rfl))))⟩ (by show _ ≤ 1 + z9; omega) (by show _ ≤ 20 * (1 + z9); omega) dX15_carryOut_442

set_option maxHeartbeats 4000000 in
set_option maxRecDepth 100000 in
theorem kX15_carryOut_1 (l : Launch) (E : q_E) (f : q_H) (n : Nat) (x9 y9 z9 : Nat) (k pa re ki wa no pn : Nat) (pr : Nat → Nat) (hd v : q_V) (b : Nat) (w : Int32) (B : Nat) (a i y : Nat) (sg on ot blk el : Option Nat) (P : Nat → Prop) (D : q_D) (Wt : List Int32) (h0 : f a = some (cLA 1 (nI i) (some y) sg on ot blk el)) (hK : LK E f k pa re ki wa no pn pr hd v b w) (hs : LSp ki wa no pn pr) (hi : i < pn) (hpn : pn ≤ 8) (hv : w_ok pn hd v) (hB : B ≤ 2 ^ 29) (hI : k_inv1 B (v, b, w)) (hN : NODE pn P f 1 y D Wt) : Met l yX15_carryOut wsX15_carryOut ({ frames := x9 + 10, cells := 1 + z9, slots := 20 * (1 + z9), locals := y9 + 500 }) (q_P E [.ref k, .ref a] f n) (q_Qv E (fun f1 n1 => KB E f f1 n n1 k pa re ki pn pr hd (k_pour pn i 1 D hd (v, b, w)))) (1 + z9) (20 * (1 + z9)) (q_ge E) := by
  refine Met.ofW (cc := cX15_carryOut) (maxL := 7) (ret := none) (by decide) rfl ?_
  intro p0_ e0_ s0_ m0_ args0_ below0_ meth0_ c0_ s1_ B0_ hml hv
  obtain ⟨rfl, hA, hW⟩ := hv
  have hx := B0_.exec
  have hb := B0_.bytes
  have hr := B0_.returns
  have hts := atoms_spec (ws := wsX15_carryOut) B0_.pre
  have hown : s0_.vm.findClass RX15 = some m0_.cls := findClass_of_methodNamed B0_.named
  have hlocks := B0_.notSynchronized
  have hS : va_S (q_ge E) s0_.heap s0_.heap [] := va_S.rf
  have iX13 : ∀ w ∈ wsX130, w ∈ wsX15_carryOut := by decide +kernel
  have iX15 : ∀ w ∈ wsX150, w ∈ wsX15_carryOut := by decide +kernel
  have hl := lv_entry ([.ref k, .ref a]) (n := 7) (Nat.le_of_ble_eq_true rfl)
  rw [lg_entry_eq]
  generalize (lg_sl ([.ref k, .ref a]) ++ List.replicate (7 - (lg_sl ([.ref k, .ref a])).length) Slot.unset).toArray = ls at hl ⊢
  have hl : lv_has ls 7 [(0, .ref k), (1, .ref a)] := hl
  obtain ⟨hk0, ⟨gk, hki, hkv⟩, ⟨gw, hwa, hwv⟩, ⟨gn, hno, hnv⟩, ⟨gp, hpa, hpv⟩, hrow⟩ := id hK
  have l_k := hW.lt hk0
  have l_ki := hW.lt hki
  have l_wa := hW.lt hwa
  have l_no := hW.lt hno
  have l_pa := hW.lt hpa
  have l_h0 := hW.lt h0
  have hkp9 := ne_ab hk0 hpa
  have hak : a ≠ k := ne_ci h0 hk0 (by decide)
  have hapa : a ≠ pa := fun e => ne_ab h0 hpa e.symm
  have haki : a ≠ ki := fun e => ne_ab h0 hki e.symm
  have har : ∀ i, i < pn → a ≠ pr i := fun i hi e9 => by obtain ⟨gr9, e8, -⟩ := hrow i hi; rw [← e9, h0] at e8; cases e8
  obtain ⟨gr, hr_i, hg0, hg1, hg2, hg3, hg4⟩ := hrow i hi
  have l_r := hW.lt hr_i
  have hrk := hK.kr hi
  have har9 := har i hi
  have hi4 := hI.2.1.1
  have hi4b : k_T v < 2 ^ 30 := by have h8 := hI.1; have h9 := hI.2.1.2; have h8 : b ≤ 100 := h8; have h9 : k_T v + 101 ≤ B + b := h9; omega
  have hi5b : k_N v < 2 ^ 30 := by have h8 := hI.1; have h9 := hI.2.2.2; have h8 : b ≤ 100 := h8; have h9 : k_N v + 101 ≤ B + b := h9; omega
  obtain ⟨-, so, ky, xy, yy, hcy⟩ := hN.cell
  have l_y := hW.lt hcy
  obtain ⟨se, hse1, hse, hv1⟩ := id hv.2.1
  obtain ⟨sp, hsp1, hsp, hv2⟩ := id hv.2.2.1
  obtain ⟨al, hal, hv0⟩ := id hv.1
  obtain ⟨h9, hh9, hxh⟩ := clamp_nI (D hd v)
  obtain ⟨c, hc, hcx⟩ := tr_nI hv1 hv2 hse hsp1 hsp (D hd v)
  refine lv_aload_n hx hb dX15_carryOut_0 rfl (lv_at hl 1 rfl) ?_
  refine q_get hx hb hts hown hA hW iX13 h0 rfl 0 (by decide) (hts (.fieldLink RX15 81 "HighRecipesLaw$Act" "does" "I") (by decide +kernel)) (fun _ h9 => h9) (v := .int 1) rfl dX15_carryOut_1 ?_
  refine lv_bipush (v := 7) hx hb dX15_carryOut_4 (by decide) ?_
  refine lv_icmp_ne (tgt := 13) hx hb dX15_carryOut_6 (by decide) (fun c_6 => ?_) (fun c_6 => absurd c_6 (by decide))
  refine lv_aload_n hx hb dX15_carryOut_13 rfl (lv_at hl 0 rfl) ?_
  refine q_get hx hb hts hown hA hW iX15 hk0 rfl 4 (by decide) (hts (.fieldLink RX15 18 "HighRecipesLaw$Kitchen" "pans" "[[I") (by decide +kernel)) (fun _ h9 => h9) (v := .ref pa) rfl dX15_carryOut_14 ?_
  refine lv_aload_n hx hb dX15_carryOut_17 rfl (lv_at hl 1 rfl) ?_
  refine q_get hx hb hts hown hA hW iX13 h0 rfl 1 (by decide) (hts (.fieldLink RX15 86 "HighRecipesLaw$Act" "whom" "I") (by decide +kernel)) (fun _ h9 => h9) (v := .int (nI i)) rfl dX15_carryOut_18 ?_
  refine q_aaldA hx hb hA hW 8 rfl hpa (vp_in_nI (by omega) (by omega)) dX15_carryOut_21 ?_
  rw [show gp (nI i).toNatClampNeg = some (pr i) from by rw [nI_clamp (by omega)]; exact hpv i (by omega)]
  refine lv_astore_n (lv' := [(2, .ref (pr i)), (0, .ref k), (1, .ref a)]) hx hb dX15_carryOut_22 rfl hl (by decide) rfl (fun ls hl => ?_)
  refine lv_aload_n hx hb dX15_carryOut_23 rfl (lv_at hl 2 rfl) ?_
  refine q_get hx hb hts hown hA hW iX13 h0 rfl 2 (by decide) (hts (.fieldLink RX15 89 "HighRecipesLaw$Act" "value" "LHighRecipesLaw$Node;") (by decide +kernel)) (fun _ h9 => h9) (v := .ref y) rfl dX15_carryOut_24 ?_
  refine lv_ifnonnull (tgt := 34) hx hb dX15_carryOut_27 (by decide) ?_
  refine lv_aload_n hx hb dX15_carryOut_34 rfl (lv_at hl 2 rfl) ?_
  refine q_get hx hb hts hown hA hW iX13 h0 rfl 2 (by decide) (hts (.fieldLink RX15 89 "HighRecipesLaw$Act" "value" "LHighRecipesLaw$Node;") (by decide +kernel)) (fun _ h9 => h9) (v := .ref y) rfl dX15_carryOut_35 ?_
  refine lv_aload_n hx hb dX15_carryOut_38 rfl (lv_at hl 1 rfl) ?_
  refine q_ci (va_runV (As := [.ref k]) (rest := []) ⟨hx, hb, hml, hown, hts⟩ (kX16_value_1 l E f n k pa re ki wa no pn pr hd v b w y P D Wt hN hpn hK) (cwV 1 hts gX15_carryOut_X16_value rfl rfl rfl (by decide +kernel) ⟨(by show 6 + 1 ≤ x9 + 10; omega), (by show 8 + (4 + 11) + 240 ≤ y9 + 500; omega)⟩) (q_pV hA hW hS (ci := 16) rfl hcy) rfl rfl hl.1 rfl (lv_room (Nat.le_of_ble_eq_true rfl)) dX15_carryOut_39 ⟨(by show _ ≤ 1 + z9; omega), (by show _ ≤ 20 * (1 + z9); omega)⟩) hS (fun r_39 f_39 n_39 H locs hp hW hS => ?_)
  obtain ⟨rfl, rfl, rfl⟩ := hp
  have hW : q_W E (f) n H := hW
  refine lv_istore_n (lv' := [(3, .int (D hd v)), (2, .ref (pr i)), (0, .ref k), (1, .ref a)]) hx hb dX15_carryOut_42 rfl hl (by decide) rfl (fun ls hl => ?_)
  refine lv_aload_n hx hb dX15_carryOut_43 rfl (lv_at hl 3 rfl) ?_
  refine q_get hx hb hts hown hA hW iX13 h0 rfl 0 (by decide) (hts (.fieldLink RX15 81 "HighRecipesLaw$Act" "does" "I") (by decide +kernel)) (fun _ h9 => h9) (v := .int 1) rfl dX15_carryOut_44 ?_
  refine lv_tableIn (x := 1) (off := 49) (tgt := 96) hx hb dX15_carryOut_47 (by decide) (by decide) (by decide) (by decide) ?_
  refine lv_aload_n hx hb dX15_carryOut_96 rfl (lv_at hl 2 rfl) ?_
  refine lv_iload_n hx hb dX15_carryOut_97 rfl (lv_at hl 0 rfl) ?_
  refine q_ci (va_runV (As := [.int (D hd v)]) (rest := []) ⟨hx, hb, hml, hown, hts⟩ (kX15_amount l E f n k pa re ki wa no pn pr hd v b w (D hd v) h9 se sp hK hv1 hv2 hxh hh9 hse hsp1 hsp) (cwV 1 hts gX15_carryOut_X15_amount rfl rfl rfl (by decide +kernel) ⟨(by show 1 + 1 ≤ x9 + 10; omega), (by show 8 + (5 + 11) + 21 ≤ y9 + 500; omega)⟩) (q_pV hA hW hS (ci := 15) rfl hk0) rfl rfl hl.1 rfl (lv_room (Nat.le_of_ble_eq_true rfl)) dX15_carryOut_98 ⟨(by show _ ≤ 1 + z9; omega), (by show _ ≤ 20 * (1 + z9); omega)⟩) hS (fun r_98 f_98 n_98 H locs hp hW hS => ?_)
  obtain ⟨rfl, rfl, rfl⟩ := hp
  have hW : q_W E (f) n H := hW
  rw [hcx]
  refine lv_istore (lv' := [(4, .int (nI c)), (3, .int (D hd v)), (2, .ref (pr i)), (0, .ref k), (1, .ref a)]) hx hb dX15_carryOut_101 hl (by decide) rfl (fun ls hl => ?_)
  refine lv_aload_n hx hb dX15_carryOut_103 rfl (lv_at hl 3 rfl) ?_
  refine lv_aload_n hx hb dX15_carryOut_104 rfl (lv_at hl 4 rfl) ?_
  refine q_get hx hb hts hown hA hW iX13 h0 rfl 1 (by decide) (hts (.fieldLink RX15 86 "HighRecipesLaw$Act" "whom" "I") (by decide +kernel)) (fun _ h9 => h9) (v := .int (nI i)) rfl dX15_carryOut_105 ?_
  refine lv_aload_n hx hb dX15_carryOut_108 rfl (lv_at hl 4 rfl) ?_
  refine q_get hx hb hts hown hA hW iX13 h0 rfl 0 (by decide) (hts (.fieldLink RX15 81 "HighRecipesLaw$Act" "does" "I") (by decide +kernel)) (fun _ h9 => h9) (v := .int 1) rfl dX15_carryOut_109 ?_
  refine lv_iconst (v := 1) hx hb dX15_carryOut_112 (by decide) ?_
  refine lv_icmp_ne (tgt := 120) hx hb dX15_carryOut_113 (by decide) (fun c_113 => absurd c_113 (by decide)) (fun c_113 => ?_)
  refine lv_iconst (v := 1) hx hb dX15_carryOut_116 (by decide) ?_
  refine lv_goto (tgt := 121) hx hb dX15_carryOut_117 (by decide) ?_
  refine lv_iload hx hb dX15_carryOut_121 (lv_at hl 0 rfl) ?_
  refine q_ci (va_runV (As := [.int (nI i), .int 1, .int (nI c)]) (rest := []) ⟨hx, hb, hml, hown, hts⟩ (kX15_pour_1 l E f n k pa re ki wa no pn pr hd v b w i (nI c) hK hs hi hpn hv.v (nI_pos' (by omega)) (hv.room hi)) (cwV 3 hts gX15_carryOut_X15_pour rfl rfl rfl (by decide +kernel) ⟨(by show 1 + 1 ≤ x9 + 10; omega), (by show 8 + (7 + 11) + 21 ≤ y9 + 500; omega)⟩) (q_pV hA hW hS (ci := 15) rfl hk0) rfl rfl hl.1 rfl (lv_room (Nat.le_of_ble_eq_true rfl)) dX15_carryOut_123 ⟨(by show _ ≤ 1 + z9; omega), (by show _ ≤ 20 * (1 + z9); omega)⟩) hS (fun r_123 f_123 n_123 H locs hp hW hS => ?_)
  obtain ⟨rfl, eK_123, en_123, hfr_123⟩ := hp
  have ha_123 : f_123 a = some (cLA 1 (nI i) (some y) sg on ot blk el) := (hfr_123 _ (har i hi)).trans h0
  obtain ⟨hk0_123, ⟨gk_123, hki_123, hkv_123⟩, ⟨gw_123, hwa_123, hwv_123⟩, ⟨gn_123, hno_123, hnv_123⟩, ⟨gp_123, hpa_123, hpv_123⟩, hrow_123⟩ := id eK_123
  obtain ⟨gr_123, hr_123, hg0_123, hg1_123, hg2_123, hg3_123, hg4_123⟩ := hrow_123 i hi
  have hok := hv.fill (bb := 1) hi hc
  obtain ⟨u, hu, hue⟩ := frv_nI hv hi hc
  have hT9 : (z_fillv hd v i 1 (nI c)) 4 = nI (k_T (z_fillv hd v i 1 (nI c))) := hok.2.2.2.1.1
  have hT8 : k_T (z_fillv hd v i 1 (nI c)) = k_T v := by unfold k_T; rw [z_fillv_n (by omega)]
  refine lv_iload hx hb dX15_carryOut_126 (lv_at hl 0 rfl) ?_
  refine lv_icmp_eq (tgt := 136) hx hb dX15_carryOut_128 (by decide) (fun c_128 => ?_) (fun c_128 => ?_)
  · have hnw : ¬ z_frv hd v i (nI c) < nI c := by rw [c_128]; exact fun h9 => Int32.lt_irrefl h9
    refine lv_aload_n hx hb dX15_carryOut_136 rfl (lv_at hl 3 rfl) ?_
    refine lv_iconst (v := 1) hx hb dX15_carryOut_137 (by decide) ?_
    refine lv_aload_n hx hb dX15_carryOut_138 rfl (lv_at hl 4 rfl) ?_
    refine q_get hx hb hts hown hA hW iX13 ha_123 rfl 1 (by decide) (hts (.fieldLink RX15 86 "HighRecipesLaw$Act" "whom" "I") (by decide +kernel)) (fun _ h9 => h9) (v := .int (nI i)) rfl dX15_carryOut_139 ?_
    refine q_cv (va_runV (As := [.int 1, .int (nI i)]) (rest := []) ⟨hx, hb, hml, hown, hts⟩ (kX15_goBy l E f_123 n_123 k pa re ki wa no pn pr hd (z_fillv hd v i 1 (nI c)) b w 1 i eK_123 hs hpn (by decide) (by omega) hok.hot) (cwV 2 hts gX15_carryOut_X15_goBy rfl rfl rfl (by decide +kernel) ⟨(by show 0 + 1 ≤ x9 + 10; omega), (by show 8 + (4 + 11) + 0 ≤ y9 + 500; omega)⟩) (q_pV hA hW hS (ci := 15) rfl hk0_123) rfl rfl hl.1 rfl (lv_room (Nat.le_of_ble_eq_true rfl)) dX15_carryOut_142 ⟨(by show _ ≤ 1 + z9; omega), (by show _ ≤ 20 * (1 + z9); omega)⟩) hS (fun f_142 n_142 H locs hp hW hS => ?_)
    obtain ⟨eK_142, en_142, hfr_142⟩ := hp
    have ha_142 : f_142 a = some (cLA 1 (nI i) (some y) sg on ot blk el) := (hfr_142 _ hak har (by omega)).trans ha_123
    obtain ⟨hk0_142, ⟨gk_142, hki_142, hkv_142⟩, ⟨gw_142, hwa_142, hwv_142⟩, ⟨gn_142, hno_142, hnv_142⟩, ⟨gp_142, hpa_142, hpv_142⟩, hrow_142⟩ := id eK_142
    refine lv_goto (tgt := 442) hx hb dX15_carryOut_145 (by decide) ?_
    have eS : k_pour pn i 1 D hd (v, b, w) = k_pass pn 1 i (z_fillv hd v i 1 (nI c), b, w) := by
      show k_pass pn 1 i (k_pour2 hd i 1 (z_tr v (D hd v)) (v, b, w)) = _
      rw [hcx]
      exact congrArg (k_pass pn 1 i) (if_neg hnw)
    exact q_vret hx hb hr hlocks hW hS ⟨wa, no, pr, (by rw [eS]; exact eK_142), hs, PRN.rf, (by omega), (fun z9 g0 g1 g2 g3 g4 => ((hfr_142 _ g0 g3 (by omega)).trans ((hfr_123 _ (g3 i hi)).trans rfl)))⟩ (by show _ ≤ 1 + z9; omega) (by show _ ≤ 20 * (1 + z9); omega) dX15_carryOut_442
  · have hnw : z_frv hd v i (nI c) < nI c := by rw [hue] at c_128 ⊢; exact nI_lt (by rcases Nat.lt_or_ge u c with h8 | h8; (exact h8); exact absurd (show nI u = nI c by rw [Nat.le_antisymm hu h8]) c_128) (by omega)
    refine lv_aload_n hx hb dX15_carryOut_131 rfl (lv_at hl 3 rfl) ?_
    refine lv_iconst (v := 1) hx hb dX15_carryOut_132 (by decide) ?_
    refine q_cv (va_runV (As := [.int 1]) (rest := []) ⟨hx, hb, hml, hown, hts⟩ (kX15_warn l E f_123 n_123 k pa re ki wa no pn pr hd (z_fillv hd v i 1 (nI c)) b w 1 eK_123 hs hpn (by decide) hT9 (by omega)) (cwV 1 hts gX15_carryOut_X15_warn rfl rfl rfl (by decide +kernel) ⟨(by show 1 + 1 ≤ x9 + 10; omega), (by show 8 + (2 + 11) + 23 ≤ y9 + 500; omega)⟩) (q_pV hA hW hS (ci := 15) rfl hk0_123) rfl rfl hl.1 rfl (lv_room (Nat.le_of_ble_eq_true rfl)) dX15_carryOut_133 ⟨(by show _ ≤ 1 + z9; omega), (by show _ ≤ 20 * (1 + z9); omega)⟩) hS (fun f_133 n_133 H locs hp hW hS => ?_)
    obtain ⟨wa2_133, eK_133, es_133, ewa_133, en_133, hfr_133⟩ := hp
    have ha_133 : f_133 a = some (cLA 1 (nI i) (some y) sg on ot blk el) := (hfr_133 _ hak haki (by omega)).trans ha_123
    obtain ⟨hk0_133, ⟨gk_133, hki_133, hkv_133⟩, ⟨gw_133, hwa_133, hwv_133⟩, ⟨gn_133, hno_133, hnv_133⟩, ⟨gp_133, hpa_133, hpv_133⟩, hrow_133⟩ := id eK_133
    obtain ⟨gr_133, hr_133, hg0_133, hg1_133, hg2_133, hg3_133, hg4_133⟩ := hrow_133 i hi
    have hok := hok.warn (kd := 1) (by decide) (by omega)
    refine lv_aload_n hx hb dX15_carryOut_136 rfl (lv_at hl 3 rfl) ?_
    refine lv_iconst (v := 1) hx hb dX15_carryOut_137 (by decide) ?_
    refine lv_aload_n hx hb dX15_carryOut_138 rfl (lv_at hl 4 rfl) ?_
    refine q_get hx hb hts hown hA hW iX13 ha_133 rfl 1 (by decide) (hts (.fieldLink RX15 86 "HighRecipesLaw$Act" "whom" "I") (by decide +kernel)) (fun _ h9 => h9) (v := .int (nI i)) rfl dX15_carryOut_139 ?_
    refine q_cv (va_runV (As := [.int 1, .int (nI i)]) (rest := []) ⟨hx, hb, hml, hown, hts⟩ (kX15_goBy l E f_133 n_133 k pa re ki wa2_133 no pn pr hd (z_warn (z_fillv hd v i 1 (nI c)) (k_T (z_fillv hd v i 1 (nI c))) 1) b (if w < 0 then nI b else w) 1 i eK_133 es_133 hpn (by decide) (by omega) hok.hot) (cwV 2 hts gX15_carryOut_X15_goBy rfl rfl rfl (by decide +kernel) ⟨(by show 0 + 1 ≤ x9 + 10; omega), (by show 8 + (4 + 11) + 0 ≤ y9 + 500; omega)⟩) (q_pV hA hW hS (ci := 15) rfl hk0_133) rfl rfl hl.1 rfl (lv_room (Nat.le_of_ble_eq_true rfl)) dX15_carryOut_142 ⟨(by show _ ≤ 1 + z9; omega), (by show _ ≤ 20 * (1 + z9); omega)⟩) hS (fun f_142 n_142 H locs hp hW hS => ?_)
    obtain ⟨eK_142, en_142, hfr_142⟩ := hp
    have ha_142 : f_142 a = some (cLA 1 (nI i) (some y) sg on ot blk el) := (hfr_142 _ hak har (by omega)).trans ha_133
    obtain ⟨hk0_142, ⟨gk_142, hki_142, hkv_142⟩, ⟨gw_142, hwa_142, hwv_142⟩, ⟨gn_142, hno_142, hnv_142⟩, ⟨gp_142, hpa_142, hpv_142⟩, hrow_142⟩ := id eK_142
    refine lv_goto (tgt := 442) hx hb dX15_carryOut_145 (by decide) ?_
    have eS : k_pour pn i 1 D hd (v, b, w) = k_pass pn 1 i (k_warn 1 (z_fillv hd v i 1 (nI c), b, w)) := by
      show k_pass pn 1 i (k_pour2 hd i 1 (z_tr v (D hd v)) (v, b, w)) = _
      rw [hcx]
      exact congrArg (k_pass pn 1 i) (if_pos hnw)
    exact q_vret hx hb hr hlocks hW hS ⟨wa2_133, no, pr, (by rw [eS]; exact eK_142), es_133, PRN.rf, (by omega), (fun z9 g0 g1 g2 g3 g4 => ((hfr_142 _ g0 g3 (by omega)).trans ((hfr_133 _ g0 g2 (by omega)).trans ((hfr_123 _ (g3 i hi)).trans rfl))))⟩ (by show _ ≤ 1 + z9; omega) (by show _ ≤ 20 * (1 + z9); omega) dX15_carryOut_442

set_option maxHeartbeats 4000000 in
set_option maxRecDepth 100000 in
theorem kX15_carryOut_2 (l : Launch) (E : q_E) (f : q_H) (n : Nat) (x9 y9 z9 : Nat) (k pa re ki wa no pn : Nat) (pr : Nat → Nat) (hd v : q_V) (b : Nat) (w : Int32) (B : Nat) (a i y : Nat) (sg on ot blk el : Option Nat) (P : Nat → Prop) (D : q_D) (Wt : List Int32) (h0 : f a = some (cLA 2 (nI i) (some y) sg on ot blk el)) (hK : LK E f k pa re ki wa no pn pr hd v b w) (hs : LSp ki wa no pn pr) (hi : i < pn) (hpn : pn ≤ 8) (hv : w_ok pn hd v) (hB : B ≤ 2 ^ 29) (hI : k_inv1 B (v, b, w)) (hN : NODE pn P f 1 y D Wt) : Met l yX15_carryOut wsX15_carryOut ({ frames := x9 + 10, cells := 1 + z9, slots := 20 * (1 + z9), locals := y9 + 500 }) (q_P E [.ref k, .ref a] f n) (q_Qv E (fun f1 n1 => KB E f f1 n n1 k pa re ki pn pr hd (k_heat pn i D hd (v, b, w)))) (1 + z9) (20 * (1 + z9)) (q_ge E) := by
  refine Met.ofW (cc := cX15_carryOut) (maxL := 7) (ret := none) (by decide) rfl ?_
  intro p0_ e0_ s0_ m0_ args0_ below0_ meth0_ c0_ s1_ B0_ hml hv
  obtain ⟨rfl, hA, hW⟩ := hv
  have hx := B0_.exec
  have hb := B0_.bytes
  have hr := B0_.returns
  have hts := atoms_spec (ws := wsX15_carryOut) B0_.pre
  have hown : s0_.vm.findClass RX15 = some m0_.cls := findClass_of_methodNamed B0_.named
  have hlocks := B0_.notSynchronized
  have hS : va_S (q_ge E) s0_.heap s0_.heap [] := va_S.rf
  have iX13 : ∀ w ∈ wsX130, w ∈ wsX15_carryOut := by decide +kernel
  have iX15 : ∀ w ∈ wsX150, w ∈ wsX15_carryOut := by decide +kernel
  have hl := lv_entry ([.ref k, .ref a]) (n := 7) (Nat.le_of_ble_eq_true rfl)
  rw [lg_entry_eq]
  generalize (lg_sl ([.ref k, .ref a]) ++ List.replicate (7 - (lg_sl ([.ref k, .ref a])).length) Slot.unset).toArray = ls at hl ⊢
  have hl : lv_has ls 7 [(0, .ref k), (1, .ref a)] := hl
  obtain ⟨hk0, ⟨gk, hki, hkv⟩, ⟨gw, hwa, hwv⟩, ⟨gn, hno, hnv⟩, ⟨gp, hpa, hpv⟩, hrow⟩ := id hK
  have l_k := hW.lt hk0
  have l_ki := hW.lt hki
  have l_wa := hW.lt hwa
  have l_no := hW.lt hno
  have l_pa := hW.lt hpa
  have l_h0 := hW.lt h0
  have hkp9 := ne_ab hk0 hpa
  have hak : a ≠ k := ne_ci h0 hk0 (by decide)
  have hapa : a ≠ pa := fun e => ne_ab h0 hpa e.symm
  have haki : a ≠ ki := fun e => ne_ab h0 hki e.symm
  have har : ∀ i, i < pn → a ≠ pr i := fun i hi e9 => by obtain ⟨gr9, e8, -⟩ := hrow i hi; rw [← e9, h0] at e8; cases e8
  obtain ⟨gr, hr_i, hg0, hg1, hg2, hg3, hg4⟩ := hrow i hi
  have l_r := hW.lt hr_i
  have hrk := hK.kr hi
  have har9 := har i hi
  have hi4 := hI.2.1.1
  have hi4b : k_T v < 2 ^ 30 := by have h8 := hI.1; have h9 := hI.2.1.2; have h8 : b ≤ 100 := h8; have h9 : k_T v + 101 ≤ B + b := h9; omega
  have hi5b : k_N v < 2 ^ 30 := by have h8 := hI.1; have h9 := hI.2.2.2; have h8 : b ≤ 100 := h8; have h9 : k_N v + 101 ≤ B + b := h9; omega
  obtain ⟨-, so, ky, xy, yy, hcy⟩ := hN.cell
  have l_y := hW.lt hcy
  obtain ⟨al, hal, hv0⟩ := id hv.1
  obtain ⟨hh_, aw, me, t, dn, hw0, hw1, hw2, hw3, hw4, ho1, ho2, ho3, ho4, ho5, ho6⟩ := id (hv.2.2.2.2 i hi)
  obtain ⟨bl, hbl⟩ : ∃ bl, bl = 100 - al / 3 := ⟨_, rfl⟩
  have hbl1 : 80 ≤ bl ∧ bl ≤ 100 := by omega
  have hbo : z_boil (v 0) = nI bl := by rw [hv0, boil_nI hal, hbl]
  refine lv_aload_n hx hb dX15_carryOut_0 rfl (lv_at hl 1 rfl) ?_
  refine q_get hx hb hts hown hA hW iX13 h0 rfl 0 (by decide) (hts (.fieldLink RX15 81 "HighRecipesLaw$Act" "does" "I") (by decide +kernel)) (fun _ h9 => h9) (v := .int 2) rfl dX15_carryOut_1 ?_
  refine lv_bipush (v := 7) hx hb dX15_carryOut_4 (by decide) ?_
  refine lv_icmp_ne (tgt := 13) hx hb dX15_carryOut_6 (by decide) (fun c_6 => ?_) (fun c_6 => absurd c_6 (by decide))
  refine lv_aload_n hx hb dX15_carryOut_13 rfl (lv_at hl 0 rfl) ?_
  refine q_get hx hb hts hown hA hW iX15 hk0 rfl 4 (by decide) (hts (.fieldLink RX15 18 "HighRecipesLaw$Kitchen" "pans" "[[I") (by decide +kernel)) (fun _ h9 => h9) (v := .ref pa) rfl dX15_carryOut_14 ?_
  refine lv_aload_n hx hb dX15_carryOut_17 rfl (lv_at hl 1 rfl) ?_
  refine q_get hx hb hts hown hA hW iX13 h0 rfl 1 (by decide) (hts (.fieldLink RX15 86 "HighRecipesLaw$Act" "whom" "I") (by decide +kernel)) (fun _ h9 => h9) (v := .int (nI i)) rfl dX15_carryOut_18 ?_
  refine q_aaldA hx hb hA hW 8 rfl hpa (vp_in_nI (by omega) (by omega)) dX15_carryOut_21 ?_
  rw [show gp (nI i).toNatClampNeg = some (pr i) from by rw [nI_clamp (by omega)]; exact hpv i (by omega)]
  refine lv_astore_n (lv' := [(2, .ref (pr i)), (0, .ref k), (1, .ref a)]) hx hb dX15_carryOut_22 rfl hl (by decide) rfl (fun ls hl => ?_)
  refine lv_aload_n hx hb dX15_carryOut_23 rfl (lv_at hl 2 rfl) ?_
  refine q_get hx hb hts hown hA hW iX13 h0 rfl 2 (by decide) (hts (.fieldLink RX15 89 "HighRecipesLaw$Act" "value" "LHighRecipesLaw$Node;") (by decide +kernel)) (fun _ h9 => h9) (v := .ref y) rfl dX15_carryOut_24 ?_
  refine lv_ifnonnull (tgt := 34) hx hb dX15_carryOut_27 (by decide) ?_
  refine lv_aload_n hx hb dX15_carryOut_34 rfl (lv_at hl 2 rfl) ?_
  refine q_get hx hb hts hown hA hW iX13 h0 rfl 2 (by decide) (hts (.fieldLink RX15 89 "HighRecipesLaw$Act" "value" "LHighRecipesLaw$Node;") (by decide +kernel)) (fun _ h9 => h9) (v := .ref y) rfl dX15_carryOut_35 ?_
  refine lv_aload_n hx hb dX15_carryOut_38 rfl (lv_at hl 1 rfl) ?_
  refine q_ci (va_runV (As := [.ref k]) (rest := []) ⟨hx, hb, hml, hown, hts⟩ (kX16_value_1 l E f n k pa re ki wa no pn pr hd v b w y P D Wt hN hpn hK) (cwV 1 hts gX15_carryOut_X16_value rfl rfl rfl (by decide +kernel) ⟨(by show 6 + 1 ≤ x9 + 10; omega), (by show 8 + (4 + 11) + 240 ≤ y9 + 500; omega)⟩) (q_pV hA hW hS (ci := 16) rfl hcy) rfl rfl hl.1 rfl (lv_room (Nat.le_of_ble_eq_true rfl)) dX15_carryOut_39 ⟨(by show _ ≤ 1 + z9; omega), (by show _ ≤ 20 * (1 + z9); omega)⟩) hS (fun r_39 f_39 n_39 H locs hp hW hS => ?_)
  obtain ⟨rfl, rfl, rfl⟩ := hp
  have hW : q_W E (f) n H := hW
  refine lv_istore_n (lv' := [(3, .int (D hd v)), (2, .ref (pr i)), (0, .ref k), (1, .ref a)]) hx hb dX15_carryOut_42 rfl hl (by decide) rfl (fun ls hl => ?_)
  refine lv_aload_n hx hb dX15_carryOut_43 rfl (lv_at hl 3 rfl) ?_
  refine q_get hx hb hts hown hA hW iX13 h0 rfl 0 (by decide) (hts (.fieldLink RX15 81 "HighRecipesLaw$Act" "does" "I") (by decide +kernel)) (fun _ h9 => h9) (v := .int 2) rfl dX15_carryOut_44 ?_
  refine lv_tableIn (x := 2) (off := 101) (tgt := 148) hx hb dX15_carryOut_47 (by decide) (by decide) (by decide) (by decide) ?_
  refine lv_aload_n hx hb dX15_carryOut_148 rfl (lv_at hl 1 rfl) ?_
  refine lv_iconst (v := 1) hx hb dX15_carryOut_149 (by decide) ?_
  refine q_iald hx hb hA hW hr_i (vp_in_nI (by decide) (by decide)) dX15_carryOut_150 ?_
  rw [show gr (1 : Int32).toNatClampNeg = nI aw from (hg1.trans hw1)]
  refine lv_aload_n hx hb dX15_carryOut_151 rfl (lv_at hl 1 rfl) ?_
  refine lv_iconst (v := 2) hx hb dX15_carryOut_152 (by decide) ?_
  refine q_iald hx hb hA hW hr_i (vp_in_nI (by decide) (by decide)) dX15_carryOut_153 ?_
  rw [show gr (2 : Int32).toNatClampNeg = nI me from (hg2.trans hw2)]
  refine lv_iadd hx hb dX15_carryOut_154 ?_
  rw [nI_add]
  refine lv_if_ne (tgt := 166) hx hb dX15_carryOut_155 (by decide) (fun c_155 => ?_) (fun c_155 => ?_)
  · have hn0 : ¬ v (52 + 4 * i) + v (53 + 4 * i) = 0 := by rw [hw1, hw2, nI_add]; exact c_155
    refine lv_iload_n hx hb dX15_carryOut_166 rfl (lv_at hl 0 rfl) ?_
    refine lv_aload_n hx hb dX15_carryOut_167 rfl (lv_at hl 2 rfl) ?_
    refine q_ci (va_runV (As := []) (rest := [.int (D hd v)]) ⟨hx, hb, hml, hown, hts⟩ (kX15_boiling l E f n k pa re ki wa no pn pr hd v b w hK) (cwV 0 hts gX15_carryOut_X15_boiling rfl rfl rfl (by decide +kernel) ⟨(by show 0 + 1 ≤ x9 + 10; omega), (by show 8 + (1 + 11) + 0 ≤ y9 + 500; omega)⟩) (q_pV hA hW hS (ci := 15) rfl hk0) rfl rfl hl.1 rfl (lv_room (Nat.le_of_ble_eq_true rfl)) dX15_carryOut_168 ⟨(by show _ ≤ 1 + z9; omega), (by show _ ≤ 20 * (1 + z9); omega)⟩) hS (fun r_168 f_168 n_168 H locs hp hW hS => ?_)
    obtain ⟨rfl, rfl, rfl⟩ := hp
    have hW : q_W E (f) n H := hW
    rw [show z_boil ((v) 0) = nI bl from hbo]
    refine lv_icmp_le (tgt := 179) hx hb dX15_carryOut_171 (by decide) (fun c_171 => ?_) (fun c_171 => ?_)
    · refine lv_iload_n hx hb dX15_carryOut_179 rfl (lv_at hl 0 rfl) ?_
      refine lv_aload_n hx hb dX15_carryOut_180 rfl (lv_at hl 2 rfl) ?_
      refine q_ci (va_runV (As := []) (rest := [.int (D hd v)]) ⟨hx, hb, hml, hown, hts⟩ (kX15_boiling l E f n k pa re ki wa no pn pr hd v b w hK) (cwV 0 hts gX15_carryOut_X15_boiling rfl rfl rfl (by decide +kernel) ⟨(by show 0 + 1 ≤ x9 + 10; omega), (by show 8 + (1 + 11) + 0 ≤ y9 + 500; omega)⟩) (q_pV hA hW hS (ci := 15) rfl hk0) rfl rfl hl.1 rfl (lv_room (Nat.le_of_ble_eq_true rfl)) dX15_carryOut_181 ⟨(by show _ ≤ 1 + z9; omega), (by show _ ≤ 20 * (1 + z9); omega)⟩) hS (fun r_181 f_181 n_181 H locs hp hW hS => ?_)
      obtain ⟨rfl, rfl, rfl⟩ := hp
      have hW : q_W E (f) n H := hW
      rw [show z_boil ((v) 0) = nI bl from hbo]
      refine lv_icmp_le (tgt := 194) hx hb dX15_carryOut_184 (by decide) (fun c_184 => ?_) (fun c_184 => False.elim ((fun h9 => h9 c_171) c_184))
      refine lv_iload_n hx hb dX15_carryOut_194 rfl (lv_at hl 0 rfl) ?_
      refine w_top (show D hd v = q_min (D hd v) (nI bl) from (hmin_x (Int32.not_lt.mpr c_171)).symm) ?_
      refine lv_istore (lv' := [(4, .int (q_min (D hd v) (nI bl))), (3, .int (D hd v)), (2, .ref (pr i)), (0, .ref k), (1, .ref a)]) hx hb dX15_carryOut_195 hl (by decide) rfl (fun ls hl => ?_)
      refine lv_aload_n hx hb dX15_carryOut_197 rfl (lv_at hl 2 rfl) ?_
      refine lv_iconst (v := 3) hx hb dX15_carryOut_198 (by decide) ?_
      refine q_iald hx hb hA hW hr_i (vp_in_nI (by decide) (by decide)) dX15_carryOut_199 ?_
      rw [show gr (3 : Int32).toNatClampNeg = nI t from (hg3.trans hw3)]
      refine lv_iload hx hb dX15_carryOut_200 (lv_at hl 0 rfl) ?_
      refine lv_icmp_lt (tgt := 208) hx hb dX15_carryOut_202 (by decide) (fun c_202 => ?_) (fun c_202 => ?_)
      · refine lv_iconst (v := 0) hx hb dX15_carryOut_208 (by decide) ?_
        obtain ⟨u, hu1, hu2, hto⟩ := to_nI hbl1.2 (by omega) c_202
        refine lv_istore (lv' := [(5, .int 0), (4, .int (q_min (D hd v) (nI bl))), (3, .int (D hd v)), (2, .ref (pr i)), (0, .ref k), (1, .ref a)]) hx hb dX15_carryOut_209 hl (by decide) rfl (fun ls hl => ?_)
        refine lv_aload_n hx hb dX15_carryOut_211 rfl (lv_at hl 3 rfl) ?_
        refine lv_iconst (v := 3) hx hb dX15_carryOut_212 (by decide) ?_
        refine q_iald hx hb hA hW hr_i (vp_in_nI (by decide) (by decide)) dX15_carryOut_213 ?_
        rw [show gr (3 : Int32).toNatClampNeg = nI t from (hg3.trans hw3)]
        refine lv_istore (lv' := [(6, .int (nI t)), (5, .int 0), (4, .int (q_min (D hd v) (nI bl))), (3, .int (D hd v)), (2, .ref (pr i)), (0, .ref k), (1, .ref a)]) hx hb dX15_carryOut_214 hl (by decide) rfl (fun ls hl => ?_)
        have K216 : ∀ (fu : Nat) (m : Nat) (hm2 : m = 0 ∨ t + 10 * (m - 1) < u) (hm3 : m ≤ 20) (hm : 100 - m < fu) (H : Heap) (locs : List Loc) (ls : Array Slot), q_W E (f) n H → va_S (q_ge E) s0_.heap H locs → lv_has ls 7 [(2, .ref (pr i)), (0, .ref k), (1, .ref a), (4, .int (nI u)), (5, .int (nI m)), (6, .int (nI (t + 10 * m)))] → W p0_ l e0_ (headSpec wsX15_carryOut ({ frames := x9 + 10, cells := 1 + z9, slots := 20 * (1 + z9), locals := y9 + 500 })).room s0_ m0_ ([.ref k, .ref a] : List Value).toArray below0_ meth0_ c0_ H locs 0 0 (MQ below0_ (q_Qv E (fun f1 n1 => KB E f f1 n n1 k pa re ki pn pr hd (k_heat pn i D hd (v, b, w)))) ([.ref k, .ref a] : List Value).toArray s0_ (1 + z9) (20 * (1 + z9)) (q_ge E)) (F0 m0_ 216 ls []) := by
          intro fu
          induction fu with
          | zero =>
            intro m hm2 hm3 hm
            exact absurd hm (Nat.not_lt_zero _)
          | succ fu ih =>
            intro m hm2 hm3 hm H locs ls hW hS hl
            refine lv_iload hx hb dX15_carryOut_216 (lv_at hl 5 rfl) ?_
            refine lv_iload hx hb dX15_carryOut_218 (lv_at hl 3 rfl) ?_
            refine lv_icmp_ge (tgt := 232) hx hb dX15_carryOut_220 (by decide) (fun c_220 => ?_) (fun c_220 => ?_)
            · have hum : u ≤ t + 10 * m := q_leN (by omega) c_220
              refine lv_aload_n hx hb dX15_carryOut_232 rfl (lv_at hl 0 rfl) ?_
              refine lv_iconst (v := 3) hx hb dX15_carryOut_233 (by decide) ?_
              refine lv_iload hx hb dX15_carryOut_234 (lv_at hl 3 rfl) ?_
              refine q_iast hx hb hA hW hS hr_i (vp_in_nI (by decide) (by decide)) dX15_carryOut_236 (fun H locs hW hS => ?_)
              rw [show (3 : Int32).toNatClampNeg = 3 from (by decide)] at hW
              have hW : q_W E (va_up f (pr i) (some (aI E 5 (upd gr 3 (nI u))))) n H := hW
              refine lv_aload_n hx hb dX15_carryOut_237 rfl (lv_at hl 1 rfl) ?_
              refine lv_iload hx hb dX15_carryOut_238 (lv_at hl 4 rfl) ?_
              refine lv_aload_n hx hb dX15_carryOut_240 rfl (lv_at hl 2 rfl) ?_
              refine q_get hx hb hts hown hA hW iX13 (q_ne (by omega) h0) rfl 1 (by decide) (hts (.fieldLink RX15 86 "HighRecipesLaw$Act" "whom" "I") (by decide +kernel)) (fun _ h9 => h9) (v := .int (nI i)) rfl dX15_carryOut_241 ?_
              refine q_cv (va_runV (As := [.int (nI m), .int (nI i)]) (rest := []) ⟨hx, hb, hml, hown, hts⟩ (kX15_goBy l E (va_up f (pr i) (some (aI E 5 (upd gr 3 (nI u))))) n k pa re ki wa no pn pr hd (z_pan (v) i ((v) (52 + 4 * i)) ((v) (53 + 4 * i)) (nI u) ((v) (55 + 4 * i))) b w m i (LK.pan hK hs hi ((if_neg (by decide)).trans hg0) ((if_neg (by decide)).trans hg1) ((if_neg (by decide)).trans hg2) (if_pos rfl) ((if_neg (by decide)).trans hg4)) hs hpn (by omega) (by omega) (w_ok.pan hv (fun _ => ⟨hh_, aw, me, u, dn, hw0, hw1, hw2, rfl, hw4, ho1, ho2, (by omega), (by omega), ho5, ho6⟩)).hot) (cwV 2 hts gX15_carryOut_X15_goBy rfl rfl rfl (by decide +kernel) ⟨(by show 0 + 1 ≤ x9 + 10; omega), (by show 8 + (4 + 11) + 0 ≤ y9 + 500; omega)⟩) (q_pV hA hW hS (ci := 15) rfl (q_ne (by omega) hk0)) rfl rfl hl.1 rfl (lv_room (Nat.le_of_ble_eq_true rfl)) dX15_carryOut_244 ⟨(by show _ ≤ 1 + z9; omega), (by show _ ≤ 20 * (1 + z9); omega)⟩) hS (fun f_244 n_244 H locs hp hW hS => ?_)
              obtain ⟨eK_244, en_244, hfr_244⟩ := hp
              have ha_244 : f_244 a = some (cLA 2 (nI i) (some y) sg on ot blk el) := (hfr_244 _ hak har (by omega)).trans (q_ne (by omega) h0)
              obtain ⟨hk0_244, ⟨gk_244, hki_244, hkv_244⟩, ⟨gw_244, hwa_244, hwv_244⟩, ⟨gn_244, hno_244, hnv_244⟩, ⟨gp_244, hpa_244, hpv_244⟩, hrow_244⟩ := id eK_244
              refine lv_goto (tgt := 442) hx hb dX15_carryOut_247 (by decide) ?_
              have eS0 : k_heat pn i D hd (v, b, w) = k_heat2 pn i (q_min (D hd v) (nI bl)) ((v, b, w)) := by
                show (if v (52 + 4 * i) + v (53 + 4 * i) = 0 then k_warn 3 (v, b, w) else k_heat2 pn i (q_min (D hd v) (z_boil (v 0))) (if z_boil (v 0) < D hd v then k_warn 2 (v, b, w) else (v, b, w))) = _
                rw [hbo, if_neg hn0, if_neg (Int32.not_lt.mpr c_171)]
              have eS : k_heat pn i D hd (v, b, w) = k_pass pn (nI m) i (z_pan (v) i ((v) (52 + 4 * i)) ((v) (53 + 4 * i)) (nI u) ((v) (55 + 4 * i)), b, w) := by
                rw [eS0, hto]
                refine (if_pos (by show (v) (54 + 4 * i) < _; rw [hw3]; exact nI_lt hu1 (by omega))).trans ?_
                show k_pass pn ((nI u - (v) (54 + 4 * i) + 9) / 10) i _ = _
                rw [show (v) (54 + 4 * i) = nI t from hw3, ht_end hu1 (by omega) hum hm2]
                all_goals rfl
              exact q_vret hx hb hr hlocks hW hS ⟨wa, no, pr, (by rw [eS]; exact eK_244), hs, PRN.rf, (by omega), (fun z9 g0 g1 g2 g3 g4 => ((hfr_244 _ g0 g3 (by omega)).trans (q_ne (g3 i hi) rfl)))⟩ (by show _ ≤ 1 + z9; omega) (by show _ ≤ 20 * (1 + z9); omega) dX15_carryOut_442
            · have hum : t + 10 * m < u := q_gtn (by omega) c_220
              refine lv_iinc (v := nI (m + 1)) (lv' := [(5, .int (nI (m + 1))), (2, .ref (pr i)), (0, .ref k), (1, .ref a), (4, .int (nI u)), (6, .int (nI (t + 10 * m)))]) hx hb dX15_carryOut_223 hl (k := 4) rfl (nI_1 m) (by decide) rfl (fun ls hl => ?_)
              refine lv_iinc (v := nI (t + 10 * (m + 1))) (lv' := [(6, .int (nI (t + 10 * (m + 1)))), (5, .int (nI (m + 1))), (2, .ref (pr i)), (0, .ref k), (1, .ref a), (4, .int (nI u))]) hx hb dX15_carryOut_226 hl (k := 5) rfl ((nI_add (t + 10 * m) 10).trans (congrArg nI (by omega))) (by decide) rfl (fun ls hl => ?_)
              refine lv_goto (tgt := 216) hx hb dX15_carryOut_229 (by decide) ?_
              exact ih (m + 1) (Or.inr (by omega)) (by omega) (by omega) _ _ _ hW hS (lv_sub hl [2, 3, 4, 5, 1, 0] rfl)
        rw [hto] at hl
        exact K216 _ 0 (Or.inl rfl) (by decide) (Nat.lt_succ_self _) _ _ _ hW hS (lv_sub hl [4, 5, 6, 2, 1, 0] rfl)
      · refine lv_goto (tgt := 442) hx hb dX15_carryOut_205 (by decide) ?_
        have eS0 : k_heat pn i D hd (v, b, w) = k_heat2 pn i (q_min (D hd v) (nI bl)) ((v, b, w)) := by
          show (if v (52 + 4 * i) + v (53 + 4 * i) = 0 then k_warn 3 (v, b, w) else k_heat2 pn i (q_min (D hd v) (z_boil (v 0))) (if z_boil (v 0) < D hd v then k_warn 2 (v, b, w) else (v, b, w))) = _
          rw [hbo, if_neg hn0, if_neg (Int32.not_lt.mpr c_171)]
        have eS : k_heat pn i D hd (v, b, w) = (v, b, w) := by
          rw [eS0]
          exact if_neg (by show ¬ (v) (54 + 4 * i) < _; rw [hw3]; exact c_202)
        exact q_vret hx hb hr hlocks hW hS ⟨wa, no, pr, (by rw [eS]; exact hK), hs, PRN.rf, (by omega), (fun z9 g0 g1 g2 g3 g4 => rfl)⟩ (by show _ ≤ 1 + z9; omega) (by show _ ≤ 20 * (1 + z9); omega) dX15_carryOut_442
    · refine lv_aload_n hx hb dX15_carryOut_174 rfl (lv_at hl 2 rfl) ?_
      refine lv_iconst (v := 2) hx hb dX15_carryOut_175 (by decide) ?_
      refine q_cv (va_runV (As := [.int 2]) (rest := []) ⟨hx, hb, hml, hown, hts⟩ (kX15_warn l E f n k pa re ki wa no pn pr hd v b w 2 hK hs hpn (by decide) hi4 hi4b) (cwV 1 hts gX15_carryOut_X15_warn rfl rfl rfl (by decide +kernel) ⟨(by show 1 + 1 ≤ x9 + 10; omega), (by show 8 + (2 + 11) + 23 ≤ y9 + 500; omega)⟩) (q_pV hA hW hS (ci := 15) rfl hk0) rfl rfl hl.1 rfl (lv_room (Nat.le_of_ble_eq_true rfl)) dX15_carryOut_176 ⟨(by show _ ≤ 1 + z9; omega), (by show _ ≤ 20 * (1 + z9); omega)⟩) hS (fun f_176 n_176 H locs hp hW hS => ?_)
      obtain ⟨wa2_176, eK_176, es_176, ewa_176, en_176, hfr_176⟩ := hp
      have ha_176 : f_176 a = some (cLA 2 (nI i) (some y) sg on ot blk el) := (hfr_176 _ hak haki (by omega)).trans h0
      obtain ⟨hk0_176, ⟨gk_176, hki_176, hkv_176⟩, ⟨gw_176, hwa_176, hwv_176⟩, ⟨gn_176, hno_176, hnv_176⟩, ⟨gp_176, hpa_176, hpv_176⟩, hrow_176⟩ := id eK_176
      obtain ⟨gr_176, hr_176, hg0_176, hg1_176, hg2_176, hg3_176, hg4_176⟩ := hrow_176 i hi
      have hok := hv.warn (kd := 2) (by decide) hi4b
      refine lv_iload_n hx hb dX15_carryOut_179 rfl (lv_at hl 0 rfl) ?_
      refine lv_aload_n hx hb dX15_carryOut_180 rfl (lv_at hl 2 rfl) ?_
      refine q_ci (va_runV (As := []) (rest := [.int (D hd v)]) ⟨hx, hb, hml, hown, hts⟩ (kX15_boiling l E f_176 n_176 k pa re ki wa2_176 no pn pr hd (z_warn v (k_T v) 2) b (if w < 0 then nI b else w) eK_176) (cwV 0 hts gX15_carryOut_X15_boiling rfl rfl rfl (by decide +kernel) ⟨(by show 0 + 1 ≤ x9 + 10; omega), (by show 8 + (1 + 11) + 0 ≤ y9 + 500; omega)⟩) (q_pV hA hW hS (ci := 15) rfl hk0_176) rfl rfl hl.1 rfl (lv_room (Nat.le_of_ble_eq_true rfl)) dX15_carryOut_181 ⟨(by show _ ≤ 1 + z9; omega), (by show _ ≤ 20 * (1 + z9); omega)⟩) hS (fun r_181 f_181 n_181 H locs hp hW hS => ?_)
      obtain ⟨rfl, rfl, rfl⟩ := hp
      have hW : q_W E (f_176) n_176 H := hW
      rw [show z_boil ((z_warn v (k_T v) 2) 0) = nI bl from (congrArg z_boil (z_warn_lo (by decide) (by decide))).trans hbo]
      refine lv_icmp_le (tgt := 194) hx hb dX15_carryOut_184 (by decide) (fun c_184 => False.elim ((fun h9 => c_171 h9) c_184)) (fun c_184 => ?_)
      refine lv_aload_n hx hb dX15_carryOut_187 rfl (lv_at hl 2 rfl) ?_
      refine q_ci (va_runV (As := []) (rest := []) ⟨hx, hb, hml, hown, hts⟩ (kX15_boiling l E f_176 n_176 k pa re ki wa2_176 no pn pr hd (z_warn v (k_T v) 2) b (if w < 0 then nI b else w) eK_176) (cwV 0 hts gX15_carryOut_X15_boiling rfl rfl rfl (by decide +kernel) ⟨(by show 0 + 1 ≤ x9 + 10; omega), (by show 8 + (1 + 11) + 0 ≤ y9 + 500; omega)⟩) (q_pV hA hW hS (ci := 15) rfl hk0_176) rfl rfl hl.1 rfl (lv_room (Nat.le_of_ble_eq_true rfl)) dX15_carryOut_188 ⟨(by show _ ≤ 1 + z9; omega), (by show _ ≤ 20 * (1 + z9); omega)⟩) hS (fun r_188 f_188 n_188 H locs hp hW hS => ?_)
      obtain ⟨rfl, rfl, rfl⟩ := hp
      have hW : q_W E (f_176) n_176 H := hW
      rw [show z_boil ((z_warn v (k_T v) 2) 0) = nI bl from (congrArg z_boil (z_warn_lo (by decide) (by decide))).trans hbo]
      refine lv_goto (tgt := 195) hx hb dX15_carryOut_191 (by decide) ?_
      refine w_top (show nI bl = q_min (D hd v) (nI bl) from (hmin_r (Int32.not_le.mp c_171)).symm) ?_
      refine lv_istore (lv' := [(4, .int (q_min (D hd v) (nI bl))), (3, .int (D hd v)), (2, .ref (pr i)), (0, .ref k), (1, .ref a)]) hx hb dX15_carryOut_195 hl (by decide) rfl (fun ls hl => ?_)
      refine lv_aload_n hx hb dX15_carryOut_197 rfl (lv_at hl 2 rfl) ?_
      refine lv_iconst (v := 3) hx hb dX15_carryOut_198 (by decide) ?_
      refine q_iald hx hb hA hW hr_176 (vp_in_nI (by decide) (by decide)) dX15_carryOut_199 ?_
      rw [show gr_176 (3 : Int32).toNatClampNeg = nI t from (hg3_176.trans ((z_warn_lo (by decide) (by omega)).trans hw3))]
      refine lv_iload hx hb dX15_carryOut_200 (lv_at hl 0 rfl) ?_
      refine lv_icmp_lt (tgt := 208) hx hb dX15_carryOut_202 (by decide) (fun c_202 => ?_) (fun c_202 => ?_)
      · refine lv_iconst (v := 0) hx hb dX15_carryOut_208 (by decide) ?_
        obtain ⟨u, hu1, hu2, hto⟩ := to_nI hbl1.2 (by omega) c_202
        refine lv_istore (lv' := [(5, .int 0), (4, .int (q_min (D hd v) (nI bl))), (3, .int (D hd v)), (2, .ref (pr i)), (0, .ref k), (1, .ref a)]) hx hb dX15_carryOut_209 hl (by decide) rfl (fun ls hl => ?_)
        refine lv_aload_n hx hb dX15_carryOut_211 rfl (lv_at hl 3 rfl) ?_
        refine lv_iconst (v := 3) hx hb dX15_carryOut_212 (by decide) ?_
        refine q_iald hx hb hA hW hr_176 (vp_in_nI (by decide) (by decide)) dX15_carryOut_213 ?_
        rw [show gr_176 (3 : Int32).toNatClampNeg = nI t from (hg3_176.trans ((z_warn_lo (by decide) (by omega)).trans hw3))]
        refine lv_istore (lv' := [(6, .int (nI t)), (5, .int 0), (4, .int (q_min (D hd v) (nI bl))), (3, .int (D hd v)), (2, .ref (pr i)), (0, .ref k), (1, .ref a)]) hx hb dX15_carryOut_214 hl (by decide) rfl (fun ls hl => ?_)
        have K216 : ∀ (fu : Nat) (m : Nat) (hm2 : m = 0 ∨ t + 10 * (m - 1) < u) (hm3 : m ≤ 20) (hm : 100 - m < fu) (H : Heap) (locs : List Loc) (ls : Array Slot), q_W E (f_176) n_176 H → va_S (q_ge E) s0_.heap H locs → lv_has ls 7 [(2, .ref (pr i)), (0, .ref k), (1, .ref a), (4, .int (nI u)), (5, .int (nI m)), (6, .int (nI (t + 10 * m)))] → W p0_ l e0_ (headSpec wsX15_carryOut ({ frames := x9 + 10, cells := 1 + z9, slots := 20 * (1 + z9), locals := y9 + 500 })).room s0_ m0_ ([.ref k, .ref a] : List Value).toArray below0_ meth0_ c0_ H locs 1 20 (MQ below0_ (q_Qv E (fun f1 n1 => KB E f f1 n n1 k pa re ki pn pr hd (k_heat pn i D hd (v, b, w)))) ([.ref k, .ref a] : List Value).toArray s0_ (1 + z9) (20 * (1 + z9)) (q_ge E)) (F0 m0_ 216 ls []) := by
          intro fu
          induction fu with
          | zero =>
            intro m hm2 hm3 hm
            exact absurd hm (Nat.not_lt_zero _)
          | succ fu ih =>
            intro m hm2 hm3 hm H locs ls hW hS hl
            refine lv_iload hx hb dX15_carryOut_216 (lv_at hl 5 rfl) ?_
            refine lv_iload hx hb dX15_carryOut_218 (lv_at hl 3 rfl) ?_
            refine lv_icmp_ge (tgt := 232) hx hb dX15_carryOut_220 (by decide) (fun c_220 => ?_) (fun c_220 => ?_)
            · have hum : u ≤ t + 10 * m := q_leN (by omega) c_220
              refine lv_aload_n hx hb dX15_carryOut_232 rfl (lv_at hl 0 rfl) ?_
              refine lv_iconst (v := 3) hx hb dX15_carryOut_233 (by decide) ?_
              refine lv_iload hx hb dX15_carryOut_234 (lv_at hl 3 rfl) ?_
              refine q_iast hx hb hA hW hS hr_176 (vp_in_nI (by decide) (by decide)) dX15_carryOut_236 (fun H locs hW hS => ?_)
              rw [show (3 : Int32).toNatClampNeg = 3 from (by decide)] at hW
              have hW : q_W E (va_up f_176 (pr i) (some (aI E 5 (upd gr_176 3 (nI u))))) n_176 H := hW
              refine lv_aload_n hx hb dX15_carryOut_237 rfl (lv_at hl 1 rfl) ?_
              refine lv_iload hx hb dX15_carryOut_238 (lv_at hl 4 rfl) ?_
              refine lv_aload_n hx hb dX15_carryOut_240 rfl (lv_at hl 2 rfl) ?_
              refine q_get hx hb hts hown hA hW iX13 (q_ne (by omega) ha_176) rfl 1 (by decide) (hts (.fieldLink RX15 86 "HighRecipesLaw$Act" "whom" "I") (by decide +kernel)) (fun _ h9 => h9) (v := .int (nI i)) rfl dX15_carryOut_241 ?_
              refine q_cv (va_runV (As := [.int (nI m), .int (nI i)]) (rest := []) ⟨hx, hb, hml, hown, hts⟩ (kX15_goBy l E (va_up f_176 (pr i) (some (aI E 5 (upd gr_176 3 (nI u))))) n_176 k pa re ki wa2_176 no pn pr hd (z_pan (z_warn v (k_T v) 2) i ((z_warn v (k_T v) 2) (52 + 4 * i)) ((z_warn v (k_T v) 2) (53 + 4 * i)) (nI u) ((z_warn v (k_T v) 2) (55 + 4 * i))) b (if w < 0 then nI b else w) m i (LK.pan eK_176 es_176 hi ((if_neg (by decide)).trans hg0_176) ((if_neg (by decide)).trans hg1_176) ((if_neg (by decide)).trans hg2_176) (if_pos rfl) ((if_neg (by decide)).trans hg4_176)) es_176 hpn (by omega) (by omega) (w_ok.pan hok (fun _ => ⟨hh_, aw, me, u, dn, hw0, ((z_warn_lo (by decide) (by omega)).trans hw1), ((z_warn_lo (by decide) (by omega)).trans hw2), rfl, ((z_warn_lo (by decide) (by omega)).trans hw4), ho1, ho2, (by omega), (by omega), ho5, ho6⟩)).hot) (cwV 2 hts gX15_carryOut_X15_goBy rfl rfl rfl (by decide +kernel) ⟨(by show 0 + 1 ≤ x9 + 10; omega), (by show 8 + (4 + 11) + 0 ≤ y9 + 500; omega)⟩) (q_pV hA hW hS (ci := 15) rfl (q_ne (by omega) hk0_176)) rfl rfl hl.1 rfl (lv_room (Nat.le_of_ble_eq_true rfl)) dX15_carryOut_244 ⟨(by show _ ≤ 1 + z9; omega), (by show _ ≤ 20 * (1 + z9); omega)⟩) hS (fun f_244 n_244 H locs hp hW hS => ?_)
              obtain ⟨eK_244, en_244, hfr_244⟩ := hp
              have ha_244 : f_244 a = some (cLA 2 (nI i) (some y) sg on ot blk el) := (hfr_244 _ hak har (by omega)).trans (q_ne (by omega) ha_176)
              obtain ⟨hk0_244, ⟨gk_244, hki_244, hkv_244⟩, ⟨gw_244, hwa_244, hwv_244⟩, ⟨gn_244, hno_244, hnv_244⟩, ⟨gp_244, hpa_244, hpv_244⟩, hrow_244⟩ := id eK_244
              refine lv_goto (tgt := 442) hx hb dX15_carryOut_247 (by decide) ?_
              have eS0 : k_heat pn i D hd (v, b, w) = k_heat2 pn i (q_min (D hd v) (nI bl)) (k_warn 2 (v, b, w)) := by
                show (if v (52 + 4 * i) + v (53 + 4 * i) = 0 then k_warn 3 (v, b, w) else k_heat2 pn i (q_min (D hd v) (z_boil (v 0))) (if z_boil (v 0) < D hd v then k_warn 2 (v, b, w) else (v, b, w))) = _
                rw [hbo, if_neg hn0, if_pos (Int32.not_le.mp c_171)]
              have eS : k_heat pn i D hd (v, b, w) = k_pass pn (nI m) i (z_pan (z_warn v (k_T v) 2) i ((z_warn v (k_T v) 2) (52 + 4 * i)) ((z_warn v (k_T v) 2) (53 + 4 * i)) (nI u) ((z_warn v (k_T v) 2) (55 + 4 * i)), b, if w < 0 then nI b else w) := by
                rw [eS0, hto]
                refine (if_pos (by show (z_warn v (k_T v) 2) (54 + 4 * i) < _; rw [z_warn_lo (by decide) (by omega), hw3]; exact nI_lt hu1 (by omega))).trans ?_
                show k_pass pn ((nI u - (z_warn v (k_T v) 2) (54 + 4 * i) + 9) / 10) i _ = _
                rw [show (z_warn v (k_T v) 2) (54 + 4 * i) = nI t from (z_warn_lo (by decide) (by omega)).trans hw3, ht_end hu1 (by omega) hum hm2]
                all_goals rfl
              exact q_vret hx hb hr hlocks hW hS ⟨wa2_176, no, pr, (by rw [eS]; exact eK_244), es_176, PRN.rf, (by omega), (fun z9 g0 g1 g2 g3 g4 => ((hfr_244 _ g0 g3 (by omega)).trans (q_ne (g3 i hi) ((hfr_176 _ g0 g2 (by omega)).trans rfl))))⟩ (by show _ ≤ 1 + z9; omega) (by show _ ≤ 20 * (1 + z9); omega) dX15_carryOut_442
            · have hum : t + 10 * m < u := q_gtn (by omega) c_220
              refine lv_iinc (v := nI (m + 1)) (lv' := [(5, .int (nI (m + 1))), (2, .ref (pr i)), (0, .ref k), (1, .ref a), (4, .int (nI u)), (6, .int (nI (t + 10 * m)))]) hx hb dX15_carryOut_223 hl (k := 4) rfl (nI_1 m) (by decide) rfl (fun ls hl => ?_)
              refine lv_iinc (v := nI (t + 10 * (m + 1))) (lv' := [(6, .int (nI (t + 10 * (m + 1)))), (5, .int (nI (m + 1))), (2, .ref (pr i)), (0, .ref k), (1, .ref a), (4, .int (nI u))]) hx hb dX15_carryOut_226 hl (k := 5) rfl ((nI_add (t + 10 * m) 10).trans (congrArg nI (by omega))) (by decide) rfl (fun ls hl => ?_)
              refine lv_goto (tgt := 216) hx hb dX15_carryOut_229 (by decide) ?_
              exact ih (m + 1) (Or.inr (by omega)) (by omega) (by omega) _ _ _ hW hS (lv_sub hl [2, 3, 4, 5, 1, 0] rfl)
        rw [hto] at hl
        exact K216 _ 0 (Or.inl rfl) (by decide) (Nat.lt_succ_self _) _ _ _ hW hS (lv_sub hl [4, 5, 6, 2, 1, 0] rfl)
      · refine lv_goto (tgt := 442) hx hb dX15_carryOut_205 (by decide) ?_
        have eS0 : k_heat pn i D hd (v, b, w) = k_heat2 pn i (q_min (D hd v) (nI bl)) (k_warn 2 (v, b, w)) := by
          show (if v (52 + 4 * i) + v (53 + 4 * i) = 0 then k_warn 3 (v, b, w) else k_heat2 pn i (q_min (D hd v) (z_boil (v 0))) (if z_boil (v 0) < D hd v then k_warn 2 (v, b, w) else (v, b, w))) = _
          rw [hbo, if_neg hn0, if_pos (Int32.not_le.mp c_171)]
        have eS : k_heat pn i D hd (v, b, w) = k_warn 2 (v, b, w) := by
          rw [eS0]
          exact if_neg (by show ¬ (z_warn v (k_T v) 2) (54 + 4 * i) < _; rw [z_warn_lo (by decide) (by omega), hw3]; exact c_202)
        exact q_vret hx hb hr hlocks hW hS ⟨wa2_176, no, pr, (by rw [eS]; exact eK_176), es_176, PRN.rf, (by omega), (fun z9 g0 g1 g2 g3 g4 => ((hfr_176 _ g0 g2 (by omega)).trans rfl))⟩ (by show _ ≤ 1 + z9; omega) (by show _ ≤ 20 * (1 + z9); omega) dX15_carryOut_442
  · have hz0 : aw + me = 0 := (nI_eq (a := aw + me) (b := 0) (by omega) (by decide)).mp c_155
    refine lv_aload_n hx hb dX15_carryOut_158 rfl (lv_at hl 2 rfl) ?_
    refine lv_iconst (v := 3) hx hb dX15_carryOut_159 (by decide) ?_
    refine q_cv (va_runV (As := [.int 3]) (rest := []) ⟨hx, hb, hml, hown, hts⟩ (kX15_warn l E f n k pa re ki wa no pn pr hd v b w 3 hK hs hpn (by decide) hi4 hi4b) (cwV 1 hts gX15_carryOut_X15_warn rfl rfl rfl (by decide +kernel) ⟨(by show 1 + 1 ≤ x9 + 10; omega), (by show 8 + (2 + 11) + 23 ≤ y9 + 500; omega)⟩) (q_pV hA hW hS (ci := 15) rfl hk0) rfl rfl hl.1 rfl (lv_room (Nat.le_of_ble_eq_true rfl)) dX15_carryOut_160 ⟨(by show _ ≤ 1 + z9; omega), (by show _ ≤ 20 * (1 + z9); omega)⟩) hS (fun f_160 n_160 H locs hp hW hS => ?_)
    obtain ⟨wa2_160, eK_160, es_160, ewa_160, en_160, hfr_160⟩ := hp
    have ha_160 : f_160 a = some (cLA 2 (nI i) (some y) sg on ot blk el) := (hfr_160 _ hak haki (by omega)).trans h0
    obtain ⟨hk0_160, ⟨gk_160, hki_160, hkv_160⟩, ⟨gw_160, hwa_160, hwv_160⟩, ⟨gn_160, hno_160, hnv_160⟩, ⟨gp_160, hpa_160, hpv_160⟩, hrow_160⟩ := id eK_160
    obtain ⟨gr_160, hr_160, hg0_160, hg1_160, hg2_160, hg3_160, hg4_160⟩ := hrow_160 i hi
    have hok := hv.warn (kd := 3) (by decide) hi4b
    refine lv_goto (tgt := 442) hx hb dX15_carryOut_163 (by decide) ?_
    have eS : k_heat pn i D hd (v, b, w) = k_warn 3 (v, b, w) := if_pos (by show v (52 + 4 * i) + v (53 + 4 * i) = 0; rw [hw1, hw2, nI_add, hz0]; rfl)
    exact q_vret hx hb hr hlocks hW hS ⟨wa2_160, no, pr, (by rw [eS]; exact eK_160), es_160, PRN.rf, (by omega), (fun z9 g0 g1 g2 g3 g4 => ((hfr_160 _ g0 g2 (by omega)).trans rfl))⟩ (by show _ ≤ 1 + z9; omega) (by show _ ≤ 20 * (1 + z9); omega) dX15_carryOut_442

set_option maxHeartbeats 4000000 in
set_option maxRecDepth 100000 in
theorem kX15_boil (l : Launch) (E : q_E) (f : q_H) (n : Nat) (x9 y9 z9 : Nat) (k pa re ki wa no pn : Nat) (pr : Nat → Nat) (hd v : q_V) (b : Nat) (w : Int32) (B : Nat) (i : Nat) (x : Int32)  (hK : LK E f k pa re ki wa no pn pr hd v b w) (hs : LSp ki wa no pn pr) (hi : i < pn) (hpn : pn ≤ 8) (hv : w_ok pn hd v) (hB : B ≤ 2 ^ 29) (hI : k_inv1 B (v, b, w)) : Met l yX15_boil wsX15_boil ({ frames := x9 + 8, cells := 1 + z9, slots := 20 * (1 + z9), locals := y9 + 400 }) (q_P E [.ref k, .int (nI i), .int x] f n) (q_Qv E (fun f1 n1 => KB E f f1 n n1 k pa re ki pn pr hd (k_boilx pn i x (v, b, w)))) (1 + z9) (20 * (1 + z9)) (q_ge E) := by
  refine Met.ofW (cc := cX15_boil) (maxL := 5) (ret := none) (by decide) rfl ?_
  intro p0_ e0_ s0_ m0_ args0_ below0_ meth0_ c0_ s1_ B0_ hml hv
  obtain ⟨rfl, hA, hW⟩ := hv
  have hx := B0_.exec
  have hb := B0_.bytes
  have hr := B0_.returns
  have hts := atoms_spec (ws := wsX15_boil) B0_.pre
  have hown : s0_.vm.findClass RX15 = some m0_.cls := findClass_of_methodNamed B0_.named
  have hlocks := B0_.notSynchronized
  have hS : va_S (q_ge E) s0_.heap s0_.heap [] := va_S.rf
  have iX15 : ∀ w ∈ wsX150, w ∈ wsX15_boil := by decide +kernel
  have hl := lv_entry ([.ref k, .int (nI i), .int x]) (n := 5) (Nat.le_of_ble_eq_true rfl)
  rw [lg_entry_eq]
  generalize (lg_sl ([.ref k, .int (nI i), .int x]) ++ List.replicate (5 - (lg_sl ([.ref k, .int (nI i), .int x])).length) Slot.unset).toArray = ls at hl ⊢
  have hl : lv_has ls 5 [(0, .ref k), (1, .int (nI i)), (2, .int x)] := hl
  obtain ⟨hk0, ⟨gk, hki, hkv⟩, ⟨gw, hwa, hwv⟩, ⟨gn, hno, hnv⟩, ⟨gp, hpa, hpv⟩, hrow⟩ := id hK
  have l_k := hW.lt hk0
  have l_ki := hW.lt hki
  have l_wa := hW.lt hwa
  have l_no := hW.lt hno
  have l_pa := hW.lt hpa
  obtain ⟨gr, hr_i, hg0, hg1, hg2, hg3, hg4⟩ := hrow i hi
  have l_r := hW.lt hr_i
  have hrk := hK.kr hi
  have hi4 := hI.2.1.1
  have hi4b : k_T v < 2 ^ 30 := by have h8 := hI.1; have h9 := hI.2.1.2; have h8 : b ≤ 100 := h8; have h9 : k_T v + 101 ≤ B + b := h9; omega
  have hi5b : k_N v < 2 ^ 30 := by have h8 := hI.1; have h9 := hI.2.2.2; have h8 : b ≤ 100 := h8; have h9 : k_N v + 101 ≤ B + b := h9; omega
  obtain ⟨al, hal, hv0⟩ := id hv.1
  obtain ⟨hh_, aw, me, t, dn, hw0, hw1, hw2, hw3, hw4, ho1, ho2, ho3, ho4, ho5, ho6⟩ := id (hv.2.2.2.2 i hi)
  obtain ⟨bl, hbl⟩ : ∃ bl, bl = 100 - al / 3 := ⟨_, rfl⟩
  have hbl1 : 80 ≤ bl ∧ bl ≤ 100 := by omega
  have hbo : z_boil (v 0) = nI bl := by rw [hv0, boil_nI hal, hbl]
  obtain ⟨sl, hsl⟩ : ∃ sl, sl = 100 + al / 3 * 5 := ⟨_, rfl⟩
  have hsl1 : 100 ≤ sl ∧ sl ≤ 200 := by omega
  have hso : z_slow (v 0) = nI sl := by rw [hv0, slow_nI hal, hsl]
  obtain ⟨h9, hh9, hxh⟩ := clamp_nI x
  obtain ⟨q, hq, hqe⟩ := lg_nI hh9 hal
  refine lv_aload_n hx hb dX15_boil_0 rfl (lv_at hl 0 rfl) ?_
  refine q_get hx hb hts hown hA hW iX15 hk0 rfl 4 (by decide) (hts (.fieldLink RX15 18 "HighRecipesLaw$Kitchen" "pans" "[[I") (by decide +kernel)) (fun _ h9 => h9) (v := .ref pa) rfl dX15_boil_1 ?_
  refine lv_iload_n hx hb dX15_boil_4 rfl (lv_at hl 1 rfl) ?_
  refine q_aaldA hx hb hA hW 8 rfl hpa (vp_in_nI (by omega) (by omega)) dX15_boil_5 ?_
  rw [show gp (nI i).toNatClampNeg = some (pr i) from by rw [nI_clamp (by omega)]; exact hpv i (by omega)]
  refine lv_astore_n (lv' := [(3, .ref (pr i)), (0, .ref k), (1, .int (nI i)), (2, .int x)]) hx hb dX15_boil_6 rfl hl (by decide) rfl (fun ls hl => ?_)
  refine lv_aload_n hx hb dX15_boil_7 rfl (lv_at hl 0 rfl) ?_
  refine lv_iconst (v := 1) hx hb dX15_boil_8 (by decide) ?_
  refine q_iald hx hb hA hW hr_i (vp_in_nI (by decide) (by decide)) dX15_boil_9 ?_
  rw [show gr (1 : Int32).toNatClampNeg = nI aw from (hg1.trans hw1)]
  refine lv_iconst (v := 1) hx hb dX15_boil_10 (by decide) ?_
  refine lv_icmp_lt (tgt := 24) hx hb dX15_boil_11 (by decide) (fun c_11 => ?_) (fun c_11 => ?_)
  · have haw : aw = 0 := by have h8 : nI aw < nI 1 := c_11; rcases Nat.lt_or_ge aw 1 with h7 | h7; (omega); exact absurd h8 (nI_nlt h7 (by omega))
    refine lv_aload_n hx hb dX15_boil_24 rfl (lv_at hl 1 rfl) ?_
    refine lv_iconst (v := 4) hx hb dX15_boil_25 (by decide) ?_
    refine q_cv (va_runV (As := [.int 4]) (rest := []) ⟨hx, hb, hml, hown, hts⟩ (kX15_warn l E f n k pa re ki wa no pn pr hd v b w 4 hK hs hpn (by decide) hi4 hi4b) (cwV 1 hts gX15_boil_X15_warn rfl rfl rfl (by decide +kernel) ⟨(by show 1 + 1 ≤ x9 + 8; omega), (by show 8 + (2 + 11) + 23 ≤ y9 + 400; omega)⟩) (q_pV hA hW hS (ci := 15) rfl hk0) rfl rfl hl.1 rfl (lv_room (Nat.le_of_ble_eq_true rfl)) dX15_boil_26 ⟨(by show _ ≤ 1 + z9; omega), (by show _ ≤ 20 * (1 + z9); omega)⟩) hS (fun f_26 n_26 H locs hp hW hS => ?_)
    obtain ⟨wa2_26, eK_26, es_26, ewa_26, en_26, hfr_26⟩ := hp
    obtain ⟨hk0_26, ⟨gk_26, hki_26, hkv_26⟩, ⟨gw_26, hwa_26, hwv_26⟩, ⟨gn_26, hno_26, hnv_26⟩, ⟨gp_26, hpa_26, hpv_26⟩, hrow_26⟩ := id eK_26
    obtain ⟨gr_26, hr_26, hg0_26, hg1_26, hg2_26, hg3_26, hg4_26⟩ := hrow_26 i hi
    have hok := hv.warn (kd := 4) (by decide) hi4b
    have eS : k_boilx pn i x (v, b, w) = k_warn 4 (v, b, w) := if_pos (Or.inl (by show v (52 + 4 * i) = 0; rw [hw1, haw]; rfl))
    exact q_vret hx hb hr hlocks hW hS ⟨wa2_26, no, pr, (by rw [eS]; exact eK_26), es_26, PRN.rf, (by omega), (fun z9 g0 g1 g2 g3 g4 => ((hfr_26 _ g0 g2 (by omega)).trans rfl))⟩ (by show _ ≤ 1 + z9; omega) (by show _ ≤ 20 * (1 + z9); omega) dX15_boil_29
  · have haw : 1 ≤ aw := by rcases Nat.lt_or_ge aw 1 with h7 | h7; (exact absurd (show nI aw < nI 1 from nI_lt h7 (by decide)) c_11); exact h7
    refine lv_aload_n hx hb dX15_boil_14 rfl (lv_at hl 0 rfl) ?_
    refine lv_iconst (v := 3) hx hb dX15_boil_15 (by decide) ?_
    refine q_iald hx hb hA hW hr_i (vp_in_nI (by decide) (by decide)) dX15_boil_16 ?_
    rw [show gr (3 : Int32).toNatClampNeg = nI t from (hg3.trans hw3)]
    refine lv_aload_n hx hb dX15_boil_17 rfl (lv_at hl 1 rfl) ?_
    refine q_ci (va_runV (As := []) (rest := [.int (nI t)]) ⟨hx, hb, hml, hown, hts⟩ (kX15_boiling l E f n k pa re ki wa no pn pr hd v b w hK) (cwV 0 hts gX15_boil_X15_boiling rfl rfl rfl (by decide +kernel) ⟨(by show 0 + 1 ≤ x9 + 8; omega), (by show 8 + (1 + 11) + 0 ≤ y9 + 400; omega)⟩) (q_pV hA hW hS (ci := 15) rfl hk0) rfl rfl hl.1 rfl (lv_room (Nat.le_of_ble_eq_true rfl)) dX15_boil_18 ⟨(by show _ ≤ 1 + z9; omega), (by show _ ≤ 20 * (1 + z9); omega)⟩) hS (fun r_18 f_18 n_18 H locs hp hW hS => ?_)
    obtain ⟨rfl, rfl, rfl⟩ := hp
    have hW : q_W E (f) n H := hW
    rw [show z_boil ((v) 0) = nI bl from hbo]
    refine lv_icmp_ge (tgt := 30) hx hb dX15_boil_21 (by decide) (fun c_21 => ?_) (fun c_21 => ?_)
    · refine lv_iload_n hx hb dX15_boil_30 rfl (lv_at hl 3 rfl) ?_
      refine lv_sipush (v := 999) hx hb dX15_boil_31 (by decide) ?_
      refine q_ci (va_runS (As := [.int x, .int 999]) (rest := []) ⟨hx, hb, hml, hown, hts⟩ (kX15_held l E f n x 999 (by decide)) (va_cwS 2 hts gX15_boil_X15_held rfl rfl rfl (by decide +kernel) ⟨(by show 0 + 1 ≤ x9 + 8; omega), (by show 8 + (2 + 11) + 0 ≤ y9 + 400; omega)⟩) (q_pS hA hW hS) rfl rfl hl.1 rfl (lv_room (Nat.le_of_ble_eq_true rfl)) dX15_boil_34 ⟨(by show _ ≤ 1 + z9; omega), (by show _ ≤ 20 * (1 + z9); omega)⟩) hS (fun r_34 f_34 n_34 H locs hp hW hS => ?_)
      obtain ⟨rfl, rfl, rfl⟩ := hp
      have hW : q_W E (f) n H := hW
      rw [hxh]
      refine lv_aload_n hx hb dX15_boil_37 rfl (lv_at hl 1 rfl) ?_
      refine q_get hx hb hts hown hA hW iX15 hk0 rfl 0 (by decide) (hts (.fieldLink RX15 38 "HighRecipesLaw$Kitchen" "altitude" "I") (by decide +kernel)) (fun _ h9 => h9) (v := .int (v 0)) rfl dX15_boil_38 ?_
      rw [hv0]
      refine q_ci (va_runS (As := [.int (nI h9), .int (nI al)]) (rest := []) ⟨hx, hb, hml, hown, hts⟩ (kX15_longer l E f n h9 al hh9 hal) (va_cwS 2 hts gX15_boil_X15_longer rfl rfl rfl (by decide +kernel) ⟨(by show 0 + 1 ≤ x9 + 8; omega), (by show 8 + (3 + 11) + 0 ≤ y9 + 400; omega)⟩) (q_pS hA hW hS) rfl rfl hl.1 rfl (lv_room (Nat.le_of_ble_eq_true rfl)) dX15_boil_41 ⟨(by show _ ≤ 1 + z9; omega), (by show _ ≤ 20 * (1 + z9); omega)⟩) hS (fun r_41 f_41 n_41 H locs hp hW hS => ?_)
      obtain ⟨rfl, rfl, rfl⟩ := hp
      have hW : q_W E (f) n H := hW
      rw [hqe]
      refine lv_istore (lv' := [(4, .int (nI q)), (3, .ref (pr i)), (0, .ref k), (1, .int (nI i)), (2, .int x)]) hx hb dX15_boil_44 hl (by decide) rfl (fun ls hl => ?_)
      refine lv_iload hx hb dX15_boil_46 (lv_at hl 0 rfl) ?_
      refine lv_aload_n hx hb dX15_boil_48 rfl (lv_at hl 1 rfl) ?_
      refine lv_iconst (v := 1) hx hb dX15_boil_49 (by decide) ?_
      refine q_iald hx hb hA hW hr_i (vp_in_nI (by decide) (by decide)) dX15_boil_50 ?_
      rw [show gr (1 : Int32).toNatClampNeg = nI aw from (hg1.trans hw1)]
      refine lv_iconst (v := 5) hx hb dX15_boil_51 (by decide) ?_
      refine lv_imul hx hb dX15_boil_52 ?_
      rw [show nI aw * 5 = nI (aw * 5) from nI_mul aw 5]
      refine lv_icmp_le (tgt := 68) hx hb dX15_boil_53 (by decide) (fun c_53 => ?_) (fun c_53 => ?_)
      · have hqa : q ≤ aw * 5 := q_leN (by omega) c_53
        have hmin : min q (5 * aw) = q := by omega
        refine lv_aload_n hx hb dX15_boil_68 rfl (lv_at hl 1 rfl) ?_
        refine lv_iconst (v := 1) hx hb dX15_boil_69 (by decide) ?_
        refine lv_dup2_11 hx hb dX15_boil_70 rfl rfl ?_
        refine q_iald hx hb hA hW hr_i (vp_in_nI (by decide) (by decide)) dX15_boil_71 ?_
        rw [show gr (1 : Int32).toNatClampNeg = nI aw from (hg1.trans hw1)]
        refine lv_iload hx hb dX15_boil_72 (lv_at hl 0 rfl) ?_
        refine lv_iconst (v := 5) hx hb dX15_boil_74 (by decide) ?_
        refine lv_idiv hx hb dX15_boil_75 (by decide) ?_
        rw [show nI (q) / 5 = nI (q / 5) from pk_div (d := 5) (by omega) (by decide) (by decide)]
        refine lv_isub hx hb dX15_boil_76 ?_
        rw [show nI aw - nI (q / 5) = nI (aw - q / 5) from pk_sub (by omega)]
        refine q_iast hx hb hA hW hS hr_i (vp_in_nI (by decide) (by decide)) dX15_boil_77 (fun H locs hW hS => ?_)
        rw [show (1 : Int32).toNatClampNeg = 1 from (by decide)] at hW
        have hW : q_W E (va_up f (pr i) (some (aI E 5 (upd gr 1 (nI (aw - q / 5)))))) n H := hW
        refine lv_aload_n hx hb dX15_boil_78 rfl (lv_at hl 1 rfl) ?_
        refine lv_iconst (v := 2) hx hb dX15_boil_79 (by decide) ?_
        refine q_iald hx hb hA hW q_eq (vp_in_nI (by decide) (by decide)) dX15_boil_80 ?_
        rw [show (upd gr 1 (nI (aw - q / 5))) (2 : Int32).toNatClampNeg = nI me from ((if_neg (by decide)).trans (hg2.trans hw2))]
        refine lv_if_le (tgt := 107) hx hb dX15_boil_81 (by decide) (fun c_81 => ?_) (fun c_81 => ?_)
        · have hme : me = 0 := by have h8 := q_leN (a := me) (b := 0) (by omega) c_81 (by decide); omega
          refine lv_aload_n hx hb dX15_boil_107 rfl (lv_at hl 1 rfl) ?_
          refine lv_iconst (v := 4) hx hb dX15_boil_108 (by decide) ?_
          refine q_iald hx hb hA hW q_eq (vp_in_nI (by decide) (by decide)) dX15_boil_109 ?_
          rw [show (upd gr 1 (nI (aw - q / 5))) (4 : Int32).toNatClampNeg = nI dn from ((if_neg (by decide)).trans (hg4.trans hw4))]
          refine lv_bipush (v := 100) hx hb dX15_boil_110 (by decide) ?_
          refine lv_icmp_le (tgt := 120) hx hb dX15_boil_112 (by decide) (fun c_112 => ?_) (fun c_112 => False.elim ((fun h9 => h9 (nI_le (b := 100) ho5 (by decide))) c_112))
          refine lv_aload_n hx hb dX15_boil_120 rfl (lv_at hl 1 rfl) ?_
          refine lv_iconst (v := 3) hx hb dX15_boil_121 (by decide) ?_
          refine lv_aload_n hx hb dX15_boil_122 rfl (lv_at hl 2 rfl) ?_
          refine q_ci (va_runV (As := []) (rest := [.int 3, .ref (pr i)]) ⟨hx, hb, hml, hown, hts⟩ (kX15_boiling l E (va_up f (pr i) (some (aI E 5 (upd gr 1 (nI (aw - q / 5)))))) n k pa re ki wa no pn pr hd (z_pan (v) i (nI (aw - q / 5)) ((v) (53 + 4 * i)) ((v) (54 + 4 * i)) ((v) (55 + 4 * i))) b w (LK.pan hK hs hi ((if_neg (by decide)).trans hg0) (if_pos rfl) ((if_neg (by decide)).trans hg2) ((if_neg (by decide)).trans hg3) ((if_neg (by decide)).trans hg4))) (cwV 0 hts gX15_boil_X15_boiling rfl rfl rfl (by decide +kernel) ⟨(by show 0 + 1 ≤ x9 + 8; omega), (by show 8 + (1 + 11) + 0 ≤ y9 + 400; omega)⟩) (q_pV hA hW hS (ci := 15) rfl (q_ne (by omega) hk0)) rfl rfl hl.1 rfl (lv_room (Nat.le_of_ble_eq_true rfl)) dX15_boil_123 ⟨(by show _ ≤ 1 + z9; omega), (by show _ ≤ 20 * (1 + z9); omega)⟩) hS (fun r_123 f_123 n_123 H locs hp hW hS => ?_)
          obtain ⟨rfl, rfl, rfl⟩ := hp
          have hW : q_W E (va_up f (pr i) (some (aI E 5 (upd gr 1 (nI (aw - q / 5)))))) n H := hW
          rw [show z_boil ((z_pan (v) i (nI (aw - q / 5)) ((v) (53 + 4 * i)) ((v) (54 + 4 * i)) ((v) (55 + 4 * i))) 0) = nI bl from (congrArg z_boil (z_pan_n (by omega))).trans hbo]
          refine q_iast hx hb hA hW hS q_eq (vp_in_nI (by decide) (by decide)) dX15_boil_126 (fun H locs hW hS => ?_)
          rw [show (3 : Int32).toNatClampNeg = 3 from (by decide)] at hW
          rw [q_upup] at hW
          have hW : q_W E (va_up f (pr i) (some (aI E 5 (upd (upd gr 1 (nI (aw - q / 5))) 3 (nI bl))))) n H := hW
          refine lv_aload_n hx hb dX15_boil_127 rfl (lv_at hl 2 rfl) ?_
          refine lv_iload hx hb dX15_boil_128 (lv_at hl 0 rfl) ?_
          refine lv_iload_n hx hb dX15_boil_130 rfl (lv_at hl 3 rfl) ?_
          refine q_cv (va_runV (As := [.int (nI q), .int (nI i)]) (rest := []) ⟨hx, hb, hml, hown, hts⟩ (kX15_goBy l E (va_up f (pr i) (some (aI E 5 (upd (upd gr 1 (nI (aw - q / 5))) 3 (nI bl))))) n k pa re ki wa no pn pr hd (z_pan (v) i (nI (aw - q / 5)) ((v) (53 + 4 * i)) (nI bl) ((v) (55 + 4 * i))) b w q i (LK.pan hK hs hi ((if_neg (by decide)).trans ((if_neg (by decide)).trans hg0)) ((if_neg (by decide)).trans (if_pos rfl)) ((if_neg (by decide)).trans ((if_neg (by decide)).trans hg2)) (if_pos rfl) ((if_neg (by decide)).trans ((if_neg (by decide)).trans hg4))) hs hpn (by omega) (by omega) (w_ok.pan hv (fun _ => ⟨hh_, aw - q / 5, me, bl, dn, hw0, rfl, hw2, rfl, hw4, ho1, (by omega), (by omega), (by omega), (by omega), ho6⟩)).hot) (cwV 2 hts gX15_boil_X15_goBy rfl rfl rfl (by decide +kernel) ⟨(by show 0 + 1 ≤ x9 + 8; omega), (by show 8 + (4 + 11) + 0 ≤ y9 + 400; omega)⟩) (q_pV hA hW hS (ci := 15) rfl (q_ne (by omega) hk0)) rfl rfl hl.1 rfl (lv_room (Nat.le_of_ble_eq_true rfl)) dX15_boil_131 ⟨(by show _ ≤ 1 + z9; omega), (by show _ ≤ 20 * (1 + z9); omega)⟩) hS (fun f_131 n_131 H locs hp hW hS => ?_)
          obtain ⟨eK_131, en_131, hfr_131⟩ := hp
          obtain ⟨hk0_131, ⟨gk_131, hki_131, hkv_131⟩, ⟨gw_131, hwa_131, hwv_131⟩, ⟨gn_131, hno_131, hnv_131⟩, ⟨gp_131, hpa_131, hpv_131⟩, hrow_131⟩ := id eK_131
          have eS : k_boilx pn i x (v, b, w) = k_pass pn (nI (q)) i (z_pan (v) i (nI (aw - q / 5)) ((v) (53 + 4 * i)) (nI bl) ((v) (55 + 4 * i)), b, w) := by
            refine (if_neg (by rintro (h8 | h8); (have h8 : v (52 + 4 * i) = 0 := h8; rw [show v (52 + 4 * i) = nI aw from hw1] at h8; exact absurd ((nI_eq (b := 0) (by omega) (by decide)).mp h8) (by omega)); (have h8 : v (54 + 4 * i) < z_boil (v 0) := h8; rw [show v (54 + 4 * i) = nI t from hw3, show z_boil (v 0) = nI bl from hbo] at h8; exact absurd h8 (Int32.not_lt.mpr c_21)))).trans ?_
            show k_boil2 pn i (z_long (q_clamp x 0 999) (v 0)) (v, b, w) = _
            rw [hxh, hv0, hqe]
            show k_boil3 pn i (q_min (nI q) (5 * v (52 + 4 * i))) (if 5 * v (52 + 4 * i) < nI q then k_warn 5 (v, b, w) else (v, b, w)) = _
            rw [show (if 5 * v (52 + 4 * i) < nI q then k_warn 5 (v, b, w) else (v, b, w)) = (v, b, w) from if_neg (by rw [hw1, show (5 : Int32) * nI aw = nI (5 * aw) from nI_mul 5 aw]; exact nI_nlt (by omega) (by omega))]
            rw [hw1, bl_min (by omega) (by omega), hmin]
            show k_pass pn (nI (q)) i (z_pan (v) i ((v) (52 + 4 * i) - nI (q) / 5) ((v) (53 + 4 * i)) (z_boil ((v) 0)) (if 0 < (v) (53 + 4 * i) then q_min 100 ((v) (55 + 4 * i) + q_quot (nI (q) * 100) (z_slow ((v) 0))) else (v) (55 + 4 * i)), b, w) = _
            rw [show (v) (52 + 4 * i) = nI aw from hw1, show (v) (55 + 4 * i) = nI dn from hw4, show z_boil ((v) 0) = nI bl from hbo, show z_slow ((v) 0) = nI sl from hso, show nI (q) / 5 = nI (q / 5) from pk_div (d := 5) (by omega) (by decide) (by decide), show nI aw - nI (q / 5) = nI (aw - q / 5) from pk_sub (by omega)]
            rw [if_neg (by rw [show (v) (53 + 4 * i) = nI me from hw2, hme]; decide)]
            all_goals rfl
          exact q_vret hx hb hr hlocks hW hS ⟨wa, no, pr, (by rw [eS]; exact eK_131), hs, PRN.rf, (by omega), (fun z9 g0 g1 g2 g3 g4 => ((hfr_131 _ g0 g3 (by omega)).trans (q_ne (g3 i hi) rfl)))⟩ (by show _ ≤ 1 + z9; omega) (by show _ ≤ 20 * (1 + z9); omega) dX15_boil_134
        · have hme : 0 < me := q_gtn (a := me) (b := 0) (by omega) c_81 (by decide)
          refine lv_aload_n hx hb dX15_boil_84 rfl (lv_at hl 1 rfl) ?_
          refine lv_iconst (v := 4) hx hb dX15_boil_85 (by decide) ?_
          refine lv_dup2_11 hx hb dX15_boil_86 rfl rfl ?_
          refine q_iald hx hb hA hW q_eq (vp_in_nI (by decide) (by decide)) dX15_boil_87 ?_
          rw [show (upd gr 1 (nI (aw - q / 5))) (4 : Int32).toNatClampNeg = nI dn from ((if_neg (by decide)).trans (hg4.trans hw4))]
          refine lv_iload hx hb dX15_boil_88 (lv_at hl 0 rfl) ?_
          refine lv_bipush (v := 100) hx hb dX15_boil_90 (by decide) ?_
          refine lv_imul hx hb dX15_boil_92 ?_
          rw [show nI (q) * 100 = nI (q * 100) from nI_mul _ 100]
          refine lv_bipush (v := 100) hx hb dX15_boil_93 (by decide) ?_
          refine lv_aload_n hx hb dX15_boil_95 rfl (lv_at hl 2 rfl) ?_
          refine q_get hx hb hts hown hA hW iX15 (q_ne (by omega) hk0) rfl 0 (by decide) (hts (.fieldLink RX15 38 "HighRecipesLaw$Kitchen" "altitude" "I") (by decide +kernel)) (fun _ h9 => h9) (v := .int (v 0)) rfl dX15_boil_96 ?_
          rw [show (v) 0 = nI al from hv0]
          refine lv_iconst (v := 3) hx hb dX15_boil_99 (by decide) ?_
          refine lv_idiv hx hb dX15_boil_100 (by decide) ?_
          rw [show nI al / 3 = nI (al / 3) from pk_div (d := 3) (by omega) (by decide) (by decide)]
          refine lv_iconst (v := 5) hx hb dX15_boil_101 (by decide) ?_
          refine lv_imul hx hb dX15_boil_102 ?_
          rw [show nI (al / 3) * 5 = nI (al / 3 * 5) from nI_mul _ 5]
          refine lv_iadd hx hb dX15_boil_103 ?_
          rw [show (100 : Int32) + nI (al / 3 * 5) = nI sl from (nI_add 100 _).trans (by rw [hsl])]
          have hdq : q * 100 / sl ≤ 400200 := Nat.le_trans (Nat.div_le_self _ _) (by omega)
          refine lv_idiv hx hb dX15_boil_104 (nI_ne (b := 0) (by omega) (by decide) (by omega)) ?_
          rw [show nI (q * 100) / nI sl = nI (q * 100 / sl) from pk_div (by omega) (by omega) (by omega)]
          refine lv_iadd hx hb dX15_boil_105 ?_
          rw [nI_add]
          refine q_iast hx hb hA hW hS q_eq (vp_in_nI (by decide) (by decide)) dX15_boil_106 (fun H locs hW hS => ?_)
          rw [show (4 : Int32).toNatClampNeg = 4 from (by decide)] at hW
          rw [q_upup] at hW
          have hW : q_W E (va_up f (pr i) (some (aI E 5 (upd (upd gr 1 (nI (aw - q / 5))) 4 (nI (dn + q * 100 / sl)))))) n H := hW
          refine lv_aload_n hx hb dX15_boil_107 rfl (lv_at hl 1 rfl) ?_
          refine lv_iconst (v := 4) hx hb dX15_boil_108 (by decide) ?_
          refine q_iald hx hb hA hW q_eq (vp_in_nI (by decide) (by decide)) dX15_boil_109 ?_
          rw [show (upd (upd gr 1 (nI (aw - q / 5))) 4 (nI (dn + q * 100 / sl))) (4 : Int32).toNatClampNeg = nI (dn + q * 100 / sl) from (if_pos rfl)]
          refine lv_bipush (v := 100) hx hb dX15_boil_110 (by decide) ?_
          refine lv_icmp_le (tgt := 120) hx hb dX15_boil_112 (by decide) (fun c_112 => ?_) (fun c_112 => ?_)
          · have hcl : min 100 (dn + q * 100 / sl) = dn + q * 100 / sl := by have h8 := q_leN (b := 100) (by omega) c_112; omega
            refine lv_aload_n hx hb dX15_boil_120 rfl (lv_at hl 1 rfl) ?_
            refine lv_iconst (v := 3) hx hb dX15_boil_121 (by decide) ?_
            refine lv_aload_n hx hb dX15_boil_122 rfl (lv_at hl 2 rfl) ?_
            refine q_ci (va_runV (As := []) (rest := [.int 3, .ref (pr i)]) ⟨hx, hb, hml, hown, hts⟩ (kX15_boiling l E (va_up f (pr i) (some (aI E 5 (upd (upd gr 1 (nI (aw - q / 5))) 4 (nI (dn + q * 100 / sl)))))) n k pa re ki wa no pn pr hd (z_pan (v) i (nI (aw - q / 5)) ((v) (53 + 4 * i)) ((v) (54 + 4 * i)) (nI (dn + q * 100 / sl))) b w (LK.pan hK hs hi ((if_neg (by decide)).trans ((if_neg (by decide)).trans hg0)) ((if_neg (by decide)).trans (if_pos rfl)) ((if_neg (by decide)).trans ((if_neg (by decide)).trans hg2)) ((if_neg (by decide)).trans ((if_neg (by decide)).trans hg3)) (if_pos rfl))) (cwV 0 hts gX15_boil_X15_boiling rfl rfl rfl (by decide +kernel) ⟨(by show 0 + 1 ≤ x9 + 8; omega), (by show 8 + (1 + 11) + 0 ≤ y9 + 400; omega)⟩) (q_pV hA hW hS (ci := 15) rfl (q_ne (by omega) hk0)) rfl rfl hl.1 rfl (lv_room (Nat.le_of_ble_eq_true rfl)) dX15_boil_123 ⟨(by show _ ≤ 1 + z9; omega), (by show _ ≤ 20 * (1 + z9); omega)⟩) hS (fun r_123 f_123 n_123 H locs hp hW hS => ?_)
            obtain ⟨rfl, rfl, rfl⟩ := hp
            have hW : q_W E (va_up f (pr i) (some (aI E 5 (upd (upd gr 1 (nI (aw - q / 5))) 4 (nI (dn + q * 100 / sl)))))) n H := hW
            rw [show z_boil ((z_pan (v) i (nI (aw - q / 5)) ((v) (53 + 4 * i)) ((v) (54 + 4 * i)) (nI (dn + q * 100 / sl))) 0) = nI bl from (congrArg z_boil (z_pan_n (by omega))).trans hbo]
            refine q_iast hx hb hA hW hS q_eq (vp_in_nI (by decide) (by decide)) dX15_boil_126 (fun H locs hW hS => ?_)
            rw [show (3 : Int32).toNatClampNeg = 3 from (by decide)] at hW
            rw [q_upup] at hW
            have hW : q_W E (va_up f (pr i) (some (aI E 5 (upd (upd (upd gr 1 (nI (aw - q / 5))) 4 (nI (dn + q * 100 / sl))) 3 (nI bl))))) n H := hW
            refine lv_aload_n hx hb dX15_boil_127 rfl (lv_at hl 2 rfl) ?_
            refine lv_iload hx hb dX15_boil_128 (lv_at hl 0 rfl) ?_
            refine lv_iload_n hx hb dX15_boil_130 rfl (lv_at hl 3 rfl) ?_
            refine q_cv (va_runV (As := [.int (nI q), .int (nI i)]) (rest := []) ⟨hx, hb, hml, hown, hts⟩ (kX15_goBy l E (va_up f (pr i) (some (aI E 5 (upd (upd (upd gr 1 (nI (aw - q / 5))) 4 (nI (dn + q * 100 / sl))) 3 (nI bl))))) n k pa re ki wa no pn pr hd (z_pan (v) i (nI (aw - q / 5)) ((v) (53 + 4 * i)) (nI bl) (nI (dn + q * 100 / sl))) b w q i (LK.pan hK hs hi ((if_neg (by decide)).trans ((if_neg (by decide)).trans ((if_neg (by decide)).trans hg0))) ((if_neg (by decide)).trans ((if_neg (by decide)).trans (if_pos rfl))) ((if_neg (by decide)).trans ((if_neg (by decide)).trans ((if_neg (by decide)).trans hg2))) (if_pos rfl) ((if_neg (by decide)).trans (if_pos rfl))) hs hpn (by omega) (by omega) (w_ok.pan hv (fun _ => ⟨hh_, aw - q / 5, me, bl, dn + q * 100 / sl, hw0, rfl, hw2, rfl, rfl, ho1, (by omega), (by omega), (by omega), (by omega), (fun h9 => by omega)⟩)).hot) (cwV 2 hts gX15_boil_X15_goBy rfl rfl rfl (by decide +kernel) ⟨(by show 0 + 1 ≤ x9 + 8; omega), (by show 8 + (4 + 11) + 0 ≤ y9 + 400; omega)⟩) (q_pV hA hW hS (ci := 15) rfl (q_ne (by omega) hk0)) rfl rfl hl.1 rfl (lv_room (Nat.le_of_ble_eq_true rfl)) dX15_boil_131 ⟨(by show _ ≤ 1 + z9; omega), (by show _ ≤ 20 * (1 + z9); omega)⟩) hS (fun f_131 n_131 H locs hp hW hS => ?_)
            obtain ⟨eK_131, en_131, hfr_131⟩ := hp
            obtain ⟨hk0_131, ⟨gk_131, hki_131, hkv_131⟩, ⟨gw_131, hwa_131, hwv_131⟩, ⟨gn_131, hno_131, hnv_131⟩, ⟨gp_131, hpa_131, hpv_131⟩, hrow_131⟩ := id eK_131
            have eS : k_boilx pn i x (v, b, w) = k_pass pn (nI (q)) i (z_pan (v) i (nI (aw - q / 5)) ((v) (53 + 4 * i)) (nI bl) (nI (dn + q * 100 / sl)), b, w) := by
              refine (if_neg (by rintro (h8 | h8); (have h8 : v (52 + 4 * i) = 0 := h8; rw [show v (52 + 4 * i) = nI aw from hw1] at h8; exact absurd ((nI_eq (b := 0) (by omega) (by decide)).mp h8) (by omega)); (have h8 : v (54 + 4 * i) < z_boil (v 0) := h8; rw [show v (54 + 4 * i) = nI t from hw3, show z_boil (v 0) = nI bl from hbo] at h8; exact absurd h8 (Int32.not_lt.mpr c_21)))).trans ?_
              show k_boil2 pn i (z_long (q_clamp x 0 999) (v 0)) (v, b, w) = _
              rw [hxh, hv0, hqe]
              show k_boil3 pn i (q_min (nI q) (5 * v (52 + 4 * i))) (if 5 * v (52 + 4 * i) < nI q then k_warn 5 (v, b, w) else (v, b, w)) = _
              rw [show (if 5 * v (52 + 4 * i) < nI q then k_warn 5 (v, b, w) else (v, b, w)) = (v, b, w) from if_neg (by rw [hw1, show (5 : Int32) * nI aw = nI (5 * aw) from nI_mul 5 aw]; exact nI_nlt (by omega) (by omega))]
              rw [hw1, bl_min (by omega) (by omega), hmin]
              show k_pass pn (nI (q)) i (z_pan (v) i ((v) (52 + 4 * i) - nI (q) / 5) ((v) (53 + 4 * i)) (z_boil ((v) 0)) (if 0 < (v) (53 + 4 * i) then q_min 100 ((v) (55 + 4 * i) + q_quot (nI (q) * 100) (z_slow ((v) 0))) else (v) (55 + 4 * i)), b, w) = _
              rw [show (v) (52 + 4 * i) = nI aw from hw1, show (v) (55 + 4 * i) = nI dn from hw4, show z_boil ((v) 0) = nI bl from hbo, show z_slow ((v) 0) = nI sl from hso, show nI (q) / 5 = nI (q / 5) from pk_div (d := 5) (by omega) (by decide) (by decide), show nI aw - nI (q / 5) = nI (aw - q / 5) from pk_sub (by omega)]
              rw [if_pos (by rw [show (v) (53 + 4 * i) = nI me from hw2]; exact nI_lt (a := 0) hme (by omega)), cook_nI (by omega) (by omega) (by omega), dn_min (by omega), hcl]
              all_goals rfl
            exact q_vret hx hb hr hlocks hW hS ⟨wa, no, pr, (by rw [eS]; exact eK_131), hs, PRN.rf, (by omega), (fun z9 g0 g1 g2 g3 g4 => ((hfr_131 _ g0 g3 (by omega)).trans (q_ne (g3 i hi) rfl)))⟩ (by show _ ≤ 1 + z9; omega) (by show _ ≤ 20 * (1 + z9); omega) dX15_boil_134
          · have hcl : min 100 (dn + q * 100 / sl) = 100 := by have h8 := q_gtn (b := 100) (by omega) c_112; omega
            refine lv_aload_n hx hb dX15_boil_115 rfl (lv_at hl 1 rfl) ?_
            refine lv_iconst (v := 4) hx hb dX15_boil_116 (by decide) ?_
            refine lv_bipush (v := 100) hx hb dX15_boil_117 (by decide) ?_
            refine q_iast hx hb hA hW hS q_eq (vp_in_nI (by decide) (by decide)) dX15_boil_119 (fun H locs hW hS => ?_)
            rw [show (4 : Int32).toNatClampNeg = 4 from (by decide)] at hW
            rw [q_upup] at hW
            have hW : q_W E (va_up f (pr i) (some (aI E 5 (upd (upd (upd gr 1 (nI (aw - q / 5))) 4 (nI (dn + q * 100 / sl))) 4 100)))) n H := hW
            refine lv_aload_n hx hb dX15_boil_120 rfl (lv_at hl 1 rfl) ?_
            refine lv_iconst (v := 3) hx hb dX15_boil_121 (by decide) ?_
            refine lv_aload_n hx hb dX15_boil_122 rfl (lv_at hl 2 rfl) ?_
            refine q_ci (va_runV (As := []) (rest := [.int 3, .ref (pr i)]) ⟨hx, hb, hml, hown, hts⟩ (kX15_boiling l E (va_up f (pr i) (some (aI E 5 (upd (upd (upd gr 1 (nI (aw - q / 5))) 4 (nI (dn + q * 100 / sl))) 4 100)))) n k pa re ki wa no pn pr hd (z_pan (v) i (nI (aw - q / 5)) ((v) (53 + 4 * i)) ((v) (54 + 4 * i)) 100) b w (LK.pan hK hs hi ((if_neg (by decide)).trans ((if_neg (by decide)).trans ((if_neg (by decide)).trans hg0))) ((if_neg (by decide)).trans ((if_neg (by decide)).trans (if_pos rfl))) ((if_neg (by decide)).trans ((if_neg (by decide)).trans ((if_neg (by decide)).trans hg2))) ((if_neg (by decide)).trans ((if_neg (by decide)).trans ((if_neg (by decide)).trans hg3))) (if_pos rfl))) (cwV 0 hts gX15_boil_X15_boiling rfl rfl rfl (by decide +kernel) ⟨(by show 0 + 1 ≤ x9 + 8; omega), (by show 8 + (1 + 11) + 0 ≤ y9 + 400; omega)⟩) (q_pV hA hW hS (ci := 15) rfl (q_ne (by omega) hk0)) rfl rfl hl.1 rfl (lv_room (Nat.le_of_ble_eq_true rfl)) dX15_boil_123 ⟨(by show _ ≤ 1 + z9; omega), (by show _ ≤ 20 * (1 + z9); omega)⟩) hS (fun r_123 f_123 n_123 H locs hp hW hS => ?_)
            obtain ⟨rfl, rfl, rfl⟩ := hp
            have hW : q_W E (va_up f (pr i) (some (aI E 5 (upd (upd (upd gr 1 (nI (aw - q / 5))) 4 (nI (dn + q * 100 / sl))) 4 100)))) n H := hW
            rw [show z_boil ((z_pan (v) i (nI (aw - q / 5)) ((v) (53 + 4 * i)) ((v) (54 + 4 * i)) 100) 0) = nI bl from (congrArg z_boil (z_pan_n (by omega))).trans hbo]
            refine q_iast hx hb hA hW hS q_eq (vp_in_nI (by decide) (by decide)) dX15_boil_126 (fun H locs hW hS => ?_)
            rw [show (3 : Int32).toNatClampNeg = 3 from (by decide)] at hW
            rw [q_upup] at hW
            have hW : q_W E (va_up f (pr i) (some (aI E 5 (upd (upd (upd (upd gr 1 (nI (aw - q / 5))) 4 (nI (dn + q * 100 / sl))) 4 100) 3 (nI bl))))) n H := hW
            refine lv_aload_n hx hb dX15_boil_127 rfl (lv_at hl 2 rfl) ?_
            refine lv_iload hx hb dX15_boil_128 (lv_at hl 0 rfl) ?_
            refine lv_iload_n hx hb dX15_boil_130 rfl (lv_at hl 3 rfl) ?_
            refine q_cv (va_runV (As := [.int (nI q), .int (nI i)]) (rest := []) ⟨hx, hb, hml, hown, hts⟩ (kX15_goBy l E (va_up f (pr i) (some (aI E 5 (upd (upd (upd (upd gr 1 (nI (aw - q / 5))) 4 (nI (dn + q * 100 / sl))) 4 100) 3 (nI bl))))) n k pa re ki wa no pn pr hd (z_pan (v) i (nI (aw - q / 5)) ((v) (53 + 4 * i)) (nI bl) 100) b w q i (LK.pan hK hs hi ((if_neg (by decide)).trans ((if_neg (by decide)).trans ((if_neg (by decide)).trans ((if_neg (by decide)).trans hg0)))) ((if_neg (by decide)).trans ((if_neg (by decide)).trans ((if_neg (by decide)).trans (if_pos rfl)))) ((if_neg (by decide)).trans ((if_neg (by decide)).trans ((if_neg (by decide)).trans ((if_neg (by decide)).trans hg2)))) (if_pos rfl) ((if_neg (by decide)).trans (if_pos rfl))) hs hpn (by omega) (by omega) (w_ok.pan hv (fun _ => ⟨hh_, aw - q / 5, me, bl, 100, hw0, rfl, hw2, rfl, rfl, ho1, (by omega), (by omega), (by omega), (by omega), (fun h9 => by omega)⟩)).hot) (cwV 2 hts gX15_boil_X15_goBy rfl rfl rfl (by decide +kernel) ⟨(by show 0 + 1 ≤ x9 + 8; omega), (by show 8 + (4 + 11) + 0 ≤ y9 + 400; omega)⟩) (q_pV hA hW hS (ci := 15) rfl (q_ne (by omega) hk0)) rfl rfl hl.1 rfl (lv_room (Nat.le_of_ble_eq_true rfl)) dX15_boil_131 ⟨(by show _ ≤ 1 + z9; omega), (by show _ ≤ 20 * (1 + z9); omega)⟩) hS (fun f_131 n_131 H locs hp hW hS => ?_)
            obtain ⟨eK_131, en_131, hfr_131⟩ := hp
            obtain ⟨hk0_131, ⟨gk_131, hki_131, hkv_131⟩, ⟨gw_131, hwa_131, hwv_131⟩, ⟨gn_131, hno_131, hnv_131⟩, ⟨gp_131, hpa_131, hpv_131⟩, hrow_131⟩ := id eK_131
            have eS : k_boilx pn i x (v, b, w) = k_pass pn (nI (q)) i (z_pan (v) i (nI (aw - q / 5)) ((v) (53 + 4 * i)) (nI bl) 100, b, w) := by
              refine (if_neg (by rintro (h8 | h8); (have h8 : v (52 + 4 * i) = 0 := h8; rw [show v (52 + 4 * i) = nI aw from hw1] at h8; exact absurd ((nI_eq (b := 0) (by omega) (by decide)).mp h8) (by omega)); (have h8 : v (54 + 4 * i) < z_boil (v 0) := h8; rw [show v (54 + 4 * i) = nI t from hw3, show z_boil (v 0) = nI bl from hbo] at h8; exact absurd h8 (Int32.not_lt.mpr c_21)))).trans ?_
              show k_boil2 pn i (z_long (q_clamp x 0 999) (v 0)) (v, b, w) = _
              rw [hxh, hv0, hqe]
              show k_boil3 pn i (q_min (nI q) (5 * v (52 + 4 * i))) (if 5 * v (52 + 4 * i) < nI q then k_warn 5 (v, b, w) else (v, b, w)) = _
              rw [show (if 5 * v (52 + 4 * i) < nI q then k_warn 5 (v, b, w) else (v, b, w)) = (v, b, w) from if_neg (by rw [hw1, show (5 : Int32) * nI aw = nI (5 * aw) from nI_mul 5 aw]; exact nI_nlt (by omega) (by omega))]
              rw [hw1, bl_min (by omega) (by omega), hmin]
              show k_pass pn (nI (q)) i (z_pan (v) i ((v) (52 + 4 * i) - nI (q) / 5) ((v) (53 + 4 * i)) (z_boil ((v) 0)) (if 0 < (v) (53 + 4 * i) then q_min 100 ((v) (55 + 4 * i) + q_quot (nI (q) * 100) (z_slow ((v) 0))) else (v) (55 + 4 * i)), b, w) = _
              rw [show (v) (52 + 4 * i) = nI aw from hw1, show (v) (55 + 4 * i) = nI dn from hw4, show z_boil ((v) 0) = nI bl from hbo, show z_slow ((v) 0) = nI sl from hso, show nI (q) / 5 = nI (q / 5) from pk_div (d := 5) (by omega) (by decide) (by decide), show nI aw - nI (q / 5) = nI (aw - q / 5) from pk_sub (by omega)]
              rw [if_pos (by rw [show (v) (53 + 4 * i) = nI me from hw2]; exact nI_lt (a := 0) hme (by omega)), cook_nI (by omega) (by omega) (by omega), dn_min (by omega), hcl]
              all_goals rfl
            exact q_vret hx hb hr hlocks hW hS ⟨wa, no, pr, (by rw [eS]; exact eK_131), hs, PRN.rf, (by omega), (fun z9 g0 g1 g2 g3 g4 => ((hfr_131 _ g0 g3 (by omega)).trans (q_ne (g3 i hi) rfl)))⟩ (by show _ ≤ 1 + z9; omega) (by show _ ≤ 20 * (1 + z9); omega) dX15_boil_134
      · have hqa : aw * 5 < q := q_gtn (by omega) c_53
        have hmin : min q (5 * aw) = aw * 5 := by omega
        refine lv_aload_n hx hb dX15_boil_56 rfl (lv_at hl 2 rfl) ?_
        refine lv_iconst (v := 5) hx hb dX15_boil_57 (by decide) ?_
        refine q_cv (va_runV (As := [.int 5]) (rest := []) ⟨hx, hb, hml, hown, hts⟩ (kX15_warn l E f n k pa re ki wa no pn pr hd v b w 5 hK hs hpn (by decide) hi4 hi4b) (cwV 1 hts gX15_boil_X15_warn rfl rfl rfl (by decide +kernel) ⟨(by show 1 + 1 ≤ x9 + 8; omega), (by show 8 + (2 + 11) + 23 ≤ y9 + 400; omega)⟩) (q_pV hA hW hS (ci := 15) rfl hk0) rfl rfl hl.1 rfl (lv_room (Nat.le_of_ble_eq_true rfl)) dX15_boil_58 ⟨(by show _ ≤ 1 + z9; omega), (by show _ ≤ 20 * (1 + z9); omega)⟩) hS (fun f_58 n_58 H locs hp hW hS => ?_)
        obtain ⟨wa2_58, eK_58, es_58, ewa_58, en_58, hfr_58⟩ := hp
        obtain ⟨hk0_58, ⟨gk_58, hki_58, hkv_58⟩, ⟨gw_58, hwa_58, hwv_58⟩, ⟨gn_58, hno_58, hnv_58⟩, ⟨gp_58, hpa_58, hpv_58⟩, hrow_58⟩ := id eK_58
        obtain ⟨gr_58, hr_58, hg0_58, hg1_58, hg2_58, hg3_58, hg4_58⟩ := hrow_58 i hi
        have hok := hv.warn (kd := 5) (by decide) hi4b
        refine lv_aload_n hx hb dX15_boil_61 rfl (lv_at hl 1 rfl) ?_
        refine lv_iconst (v := 1) hx hb dX15_boil_62 (by decide) ?_
        refine q_iald hx hb hA hW hr_58 (vp_in_nI (by decide) (by decide)) dX15_boil_63 ?_
        rw [show gr_58 (1 : Int32).toNatClampNeg = nI aw from (hg1_58.trans ((z_warn_lo (by decide) (by omega)).trans hw1))]
        refine lv_iconst (v := 5) hx hb dX15_boil_64 (by decide) ?_
        refine lv_imul hx hb dX15_boil_65 ?_
        rw [show nI aw * 5 = nI (aw * 5) from nI_mul aw 5]
        refine lv_istore (lv' := [(4, .int (nI (aw * 5))), (3, .ref (pr i)), (0, .ref k), (1, .int (nI i)), (2, .int x)]) hx hb dX15_boil_66 hl (by decide) rfl (fun ls hl => ?_)
        refine lv_aload_n hx hb dX15_boil_68 rfl (lv_at hl 1 rfl) ?_
        refine lv_iconst (v := 1) hx hb dX15_boil_69 (by decide) ?_
        refine lv_dup2_11 hx hb dX15_boil_70 rfl rfl ?_
        refine q_iald hx hb hA hW hr_58 (vp_in_nI (by decide) (by decide)) dX15_boil_71 ?_
        rw [show gr_58 (1 : Int32).toNatClampNeg = nI aw from (hg1_58.trans ((z_warn_lo (by decide) (by omega)).trans hw1))]
        refine lv_iload hx hb dX15_boil_72 (lv_at hl 0 rfl) ?_
        refine lv_iconst (v := 5) hx hb dX15_boil_74 (by decide) ?_
        refine lv_idiv hx hb dX15_boil_75 (by decide) ?_
        rw [show nI (aw * 5) / 5 = nI ((aw * 5) / 5) from pk_div (d := 5) (by omega) (by decide) (by decide)]
        refine lv_isub hx hb dX15_boil_76 ?_
        rw [show nI aw - nI ((aw * 5) / 5) = nI (aw - (aw * 5) / 5) from pk_sub (by omega)]
        refine q_iast hx hb hA hW hS hr_58 (vp_in_nI (by decide) (by decide)) dX15_boil_77 (fun H locs hW hS => ?_)
        rw [show (1 : Int32).toNatClampNeg = 1 from (by decide)] at hW
        have hW : q_W E (va_up f_58 (pr i) (some (aI E 5 (upd gr_58 1 (nI (aw - (aw * 5) / 5)))))) n_58 H := hW
        refine lv_aload_n hx hb dX15_boil_78 rfl (lv_at hl 1 rfl) ?_
        refine lv_iconst (v := 2) hx hb dX15_boil_79 (by decide) ?_
        refine q_iald hx hb hA hW q_eq (vp_in_nI (by decide) (by decide)) dX15_boil_80 ?_
        rw [show (upd gr_58 1 (nI (aw - (aw * 5) / 5))) (2 : Int32).toNatClampNeg = nI me from ((if_neg (by decide)).trans (hg2_58.trans ((z_warn_lo (by decide) (by omega)).trans hw2)))]
        refine lv_if_le (tgt := 107) hx hb dX15_boil_81 (by decide) (fun c_81 => ?_) (fun c_81 => ?_)
        · have hme : me = 0 := by have h8 := q_leN (a := me) (b := 0) (by omega) c_81 (by decide); omega
          refine lv_aload_n hx hb dX15_boil_107 rfl (lv_at hl 1 rfl) ?_
          refine lv_iconst (v := 4) hx hb dX15_boil_108 (by decide) ?_
          refine q_iald hx hb hA hW q_eq (vp_in_nI (by decide) (by decide)) dX15_boil_109 ?_
          rw [show (upd gr_58 1 (nI (aw - (aw * 5) / 5))) (4 : Int32).toNatClampNeg = nI dn from ((if_neg (by decide)).trans (hg4_58.trans ((z_warn_lo (by decide) (by omega)).trans hw4)))]
          refine lv_bipush (v := 100) hx hb dX15_boil_110 (by decide) ?_
          refine lv_icmp_le (tgt := 120) hx hb dX15_boil_112 (by decide) (fun c_112 => ?_) (fun c_112 => False.elim ((fun h9 => h9 (nI_le (b := 100) ho5 (by decide))) c_112))
          refine lv_aload_n hx hb dX15_boil_120 rfl (lv_at hl 1 rfl) ?_
          refine lv_iconst (v := 3) hx hb dX15_boil_121 (by decide) ?_
          refine lv_aload_n hx hb dX15_boil_122 rfl (lv_at hl 2 rfl) ?_
          refine q_ci (va_runV (As := []) (rest := [.int 3, .ref (pr i)]) ⟨hx, hb, hml, hown, hts⟩ (kX15_boiling l E (va_up f_58 (pr i) (some (aI E 5 (upd gr_58 1 (nI (aw - (aw * 5) / 5)))))) n_58 k pa re ki wa2_58 no pn pr hd (z_pan (z_warn v (k_T v) 5) i (nI (aw - (aw * 5) / 5)) ((z_warn v (k_T v) 5) (53 + 4 * i)) ((z_warn v (k_T v) 5) (54 + 4 * i)) ((z_warn v (k_T v) 5) (55 + 4 * i))) b (if w < 0 then nI b else w) (LK.pan eK_58 es_58 hi ((if_neg (by decide)).trans hg0_58) (if_pos rfl) ((if_neg (by decide)).trans hg2_58) ((if_neg (by decide)).trans hg3_58) ((if_neg (by decide)).trans hg4_58))) (cwV 0 hts gX15_boil_X15_boiling rfl rfl rfl (by decide +kernel) ⟨(by show 0 + 1 ≤ x9 + 8; omega), (by show 8 + (1 + 11) + 0 ≤ y9 + 400; omega)⟩) (q_pV hA hW hS (ci := 15) rfl (q_ne (by omega) hk0_58)) rfl rfl hl.1 rfl (lv_room (Nat.le_of_ble_eq_true rfl)) dX15_boil_123 ⟨(by show _ ≤ 1 + z9; omega), (by show _ ≤ 20 * (1 + z9); omega)⟩) hS (fun r_123 f_123 n_123 H locs hp hW hS => ?_)
          obtain ⟨rfl, rfl, rfl⟩ := hp
          have hW : q_W E (va_up f_58 (pr i) (some (aI E 5 (upd gr_58 1 (nI (aw - (aw * 5) / 5)))))) n_58 H := hW
          rw [show z_boil ((z_pan (z_warn v (k_T v) 5) i (nI (aw - (aw * 5) / 5)) ((z_warn v (k_T v) 5) (53 + 4 * i)) ((z_warn v (k_T v) 5) (54 + 4 * i)) ((z_warn v (k_T v) 5) (55 + 4 * i))) 0) = nI bl from (congrArg z_boil (z_pan_n (by omega))).trans ((congrArg z_boil (z_warn_lo (by decide) (by decide))).trans hbo)]
          refine q_iast hx hb hA hW hS q_eq (vp_in_nI (by decide) (by decide)) dX15_boil_126 (fun H locs hW hS => ?_)
          rw [show (3 : Int32).toNatClampNeg = 3 from (by decide)] at hW
          rw [q_upup] at hW
          have hW : q_W E (va_up f_58 (pr i) (some (aI E 5 (upd (upd gr_58 1 (nI (aw - (aw * 5) / 5))) 3 (nI bl))))) n_58 H := hW
          refine lv_aload_n hx hb dX15_boil_127 rfl (lv_at hl 2 rfl) ?_
          refine lv_iload hx hb dX15_boil_128 (lv_at hl 0 rfl) ?_
          refine lv_iload_n hx hb dX15_boil_130 rfl (lv_at hl 3 rfl) ?_
          refine q_cv (va_runV (As := [.int (nI (aw * 5)), .int (nI i)]) (rest := []) ⟨hx, hb, hml, hown, hts⟩ (kX15_goBy l E (va_up f_58 (pr i) (some (aI E 5 (upd (upd gr_58 1 (nI (aw - (aw * 5) / 5))) 3 (nI bl))))) n_58 k pa re ki wa2_58 no pn pr hd (z_pan (z_warn v (k_T v) 5) i (nI (aw - (aw * 5) / 5)) ((z_warn v (k_T v) 5) (53 + 4 * i)) (nI bl) ((z_warn v (k_T v) 5) (55 + 4 * i))) b (if w < 0 then nI b else w) (aw * 5) i (LK.pan eK_58 es_58 hi ((if_neg (by decide)).trans ((if_neg (by decide)).trans hg0_58)) ((if_neg (by decide)).trans (if_pos rfl)) ((if_neg (by decide)).trans ((if_neg (by decide)).trans hg2_58)) (if_pos rfl) ((if_neg (by decide)).trans ((if_neg (by decide)).trans hg4_58))) es_58 hpn (by omega) (by omega) (w_ok.pan hok (fun _ => ⟨hh_, aw - (aw * 5) / 5, me, bl, dn, hw0, rfl, ((z_warn_lo (by decide) (by omega)).trans hw2), rfl, ((z_warn_lo (by decide) (by omega)).trans hw4), ho1, (by omega), (by omega), (by omega), (by omega), ho6⟩)).hot) (cwV 2 hts gX15_boil_X15_goBy rfl rfl rfl (by decide +kernel) ⟨(by show 0 + 1 ≤ x9 + 8; omega), (by show 8 + (4 + 11) + 0 ≤ y9 + 400; omega)⟩) (q_pV hA hW hS (ci := 15) rfl (q_ne (by omega) hk0_58)) rfl rfl hl.1 rfl (lv_room (Nat.le_of_ble_eq_true rfl)) dX15_boil_131 ⟨(by show _ ≤ 1 + z9; omega), (by show _ ≤ 20 * (1 + z9); omega)⟩) hS (fun f_131 n_131 H locs hp hW hS => ?_)
          obtain ⟨eK_131, en_131, hfr_131⟩ := hp
          obtain ⟨hk0_131, ⟨gk_131, hki_131, hkv_131⟩, ⟨gw_131, hwa_131, hwv_131⟩, ⟨gn_131, hno_131, hnv_131⟩, ⟨gp_131, hpa_131, hpv_131⟩, hrow_131⟩ := id eK_131
          have eS : k_boilx pn i x (v, b, w) = k_pass pn (nI (aw * 5)) i (z_pan (z_warn v (k_T v) 5) i (nI (aw - (aw * 5) / 5)) ((z_warn v (k_T v) 5) (53 + 4 * i)) (nI bl) ((z_warn v (k_T v) 5) (55 + 4 * i)), b, if w < 0 then nI b else w) := by
            refine (if_neg (by rintro (h8 | h8); (have h8 : v (52 + 4 * i) = 0 := h8; rw [show v (52 + 4 * i) = nI aw from hw1] at h8; exact absurd ((nI_eq (b := 0) (by omega) (by decide)).mp h8) (by omega)); (have h8 : v (54 + 4 * i) < z_boil (v 0) := h8; rw [show v (54 + 4 * i) = nI t from hw3, show z_boil (v 0) = nI bl from hbo] at h8; exact absurd h8 (Int32.not_lt.mpr c_21)))).trans ?_
            show k_boil2 pn i (z_long (q_clamp x 0 999) (v 0)) (v, b, w) = _
            rw [hxh, hv0, hqe]
            show k_boil3 pn i (q_min (nI q) (5 * v (52 + 4 * i))) (if 5 * v (52 + 4 * i) < nI q then k_warn 5 (v, b, w) else (v, b, w)) = _
            rw [show (if 5 * v (52 + 4 * i) < nI q then k_warn 5 (v, b, w) else (v, b, w)) = k_warn 5 (v, b, w) from if_pos (by rw [hw1, show (5 : Int32) * nI aw = nI (5 * aw) from nI_mul 5 aw]; exact nI_lt (by omega) (by omega))]
            rw [hw1, bl_min (by omega) (by omega), hmin]
            show k_pass pn (nI (aw * 5)) i (z_pan (z_warn v (k_T v) 5) i ((z_warn v (k_T v) 5) (52 + 4 * i) - nI (aw * 5) / 5) ((z_warn v (k_T v) 5) (53 + 4 * i)) (z_boil ((z_warn v (k_T v) 5) 0)) (if 0 < (z_warn v (k_T v) 5) (53 + 4 * i) then q_min 100 ((z_warn v (k_T v) 5) (55 + 4 * i) + q_quot (nI (aw * 5) * 100) (z_slow ((z_warn v (k_T v) 5) 0))) else (z_warn v (k_T v) 5) (55 + 4 * i)), b, if w < 0 then nI b else w) = _
            rw [show (z_warn v (k_T v) 5) (52 + 4 * i) = nI aw from (z_warn_lo (by decide) (by omega)).trans hw1, show (z_warn v (k_T v) 5) (55 + 4 * i) = nI dn from (z_warn_lo (by decide) (by omega)).trans hw4, show z_boil ((z_warn v (k_T v) 5) 0) = nI bl from (congrArg z_boil (z_warn_lo (by decide) (by decide))).trans hbo, show z_slow ((z_warn v (k_T v) 5) 0) = nI sl from (congrArg z_slow (z_warn_lo (by decide) (by decide))).trans hso, show nI (aw * 5) / 5 = nI ((aw * 5) / 5) from pk_div (d := 5) (by omega) (by decide) (by decide), show nI aw - nI ((aw * 5) / 5) = nI (aw - (aw * 5) / 5) from pk_sub (by omega)]
            rw [if_neg (by rw [show (z_warn v (k_T v) 5) (53 + 4 * i) = nI me from (z_warn_lo (by decide) (by omega)).trans hw2, hme]; decide)]
            all_goals rfl
          exact q_vret hx hb hr hlocks hW hS ⟨wa2_58, no, pr, (by rw [eS]; exact eK_131), es_58, PRN.rf, (by omega), (fun z9 g0 g1 g2 g3 g4 => ((hfr_131 _ g0 g3 (by omega)).trans (q_ne (g3 i hi) ((hfr_58 _ g0 g2 (by omega)).trans rfl))))⟩ (by show _ ≤ 1 + z9; omega) (by show _ ≤ 20 * (1 + z9); omega) dX15_boil_134
        · have hme : 0 < me := q_gtn (a := me) (b := 0) (by omega) c_81 (by decide)
          refine lv_aload_n hx hb dX15_boil_84 rfl (lv_at hl 1 rfl) ?_
          refine lv_iconst (v := 4) hx hb dX15_boil_85 (by decide) ?_
          refine lv_dup2_11 hx hb dX15_boil_86 rfl rfl ?_
          refine q_iald hx hb hA hW q_eq (vp_in_nI (by decide) (by decide)) dX15_boil_87 ?_
          rw [show (upd gr_58 1 (nI (aw - (aw * 5) / 5))) (4 : Int32).toNatClampNeg = nI dn from ((if_neg (by decide)).trans (hg4_58.trans ((z_warn_lo (by decide) (by omega)).trans hw4)))]
          refine lv_iload hx hb dX15_boil_88 (lv_at hl 0 rfl) ?_
          refine lv_bipush (v := 100) hx hb dX15_boil_90 (by decide) ?_
          refine lv_imul hx hb dX15_boil_92 ?_
          rw [show nI (aw * 5) * 100 = nI ((aw * 5) * 100) from nI_mul _ 100]
          refine lv_bipush (v := 100) hx hb dX15_boil_93 (by decide) ?_
          refine lv_aload_n hx hb dX15_boil_95 rfl (lv_at hl 2 rfl) ?_
          refine q_get hx hb hts hown hA hW iX15 (q_ne (by omega) hk0_58) rfl 0 (by decide) (hts (.fieldLink RX15 38 "HighRecipesLaw$Kitchen" "altitude" "I") (by decide +kernel)) (fun _ h9 => h9) (v := .int ((z_warn v (k_T v) 5) 0)) rfl dX15_boil_96 ?_
          rw [show (z_warn v (k_T v) 5) 0 = nI al from (z_warn_lo (by decide) (by decide)).trans hv0]
          refine lv_iconst (v := 3) hx hb dX15_boil_99 (by decide) ?_
          refine lv_idiv hx hb dX15_boil_100 (by decide) ?_
          rw [show nI al / 3 = nI (al / 3) from pk_div (d := 3) (by omega) (by decide) (by decide)]
          refine lv_iconst (v := 5) hx hb dX15_boil_101 (by decide) ?_
          refine lv_imul hx hb dX15_boil_102 ?_
          rw [show nI (al / 3) * 5 = nI (al / 3 * 5) from nI_mul _ 5]
          refine lv_iadd hx hb dX15_boil_103 ?_
          rw [show (100 : Int32) + nI (al / 3 * 5) = nI sl from (nI_add 100 _).trans (by rw [hsl])]
          have hdq : (aw * 5) * 100 / sl ≤ 400200 := Nat.le_trans (Nat.div_le_self _ _) (by omega)
          refine lv_idiv hx hb dX15_boil_104 (nI_ne (b := 0) (by omega) (by decide) (by omega)) ?_
          rw [show nI ((aw * 5) * 100) / nI sl = nI ((aw * 5) * 100 / sl) from pk_div (by omega) (by omega) (by omega)]
          refine lv_iadd hx hb dX15_boil_105 ?_
          rw [nI_add]
          refine q_iast hx hb hA hW hS q_eq (vp_in_nI (by decide) (by decide)) dX15_boil_106 (fun H locs hW hS => ?_)
          rw [show (4 : Int32).toNatClampNeg = 4 from (by decide)] at hW
          rw [q_upup] at hW
          have hW : q_W E (va_up f_58 (pr i) (some (aI E 5 (upd (upd gr_58 1 (nI (aw - (aw * 5) / 5))) 4 (nI (dn + (aw * 5) * 100 / sl)))))) n_58 H := hW
          refine lv_aload_n hx hb dX15_boil_107 rfl (lv_at hl 1 rfl) ?_
          refine lv_iconst (v := 4) hx hb dX15_boil_108 (by decide) ?_
          refine q_iald hx hb hA hW q_eq (vp_in_nI (by decide) (by decide)) dX15_boil_109 ?_
          rw [show (upd (upd gr_58 1 (nI (aw - (aw * 5) / 5))) 4 (nI (dn + (aw * 5) * 100 / sl))) (4 : Int32).toNatClampNeg = nI (dn + (aw * 5) * 100 / sl) from (if_pos rfl)]
          refine lv_bipush (v := 100) hx hb dX15_boil_110 (by decide) ?_
          refine lv_icmp_le (tgt := 120) hx hb dX15_boil_112 (by decide) (fun c_112 => ?_) (fun c_112 => ?_)
          · have hcl : min 100 (dn + (aw * 5) * 100 / sl) = dn + (aw * 5) * 100 / sl := by have h8 := q_leN (b := 100) (by omega) c_112; omega
            refine lv_aload_n hx hb dX15_boil_120 rfl (lv_at hl 1 rfl) ?_
            refine lv_iconst (v := 3) hx hb dX15_boil_121 (by decide) ?_
            refine lv_aload_n hx hb dX15_boil_122 rfl (lv_at hl 2 rfl) ?_
            refine q_ci (va_runV (As := []) (rest := [.int 3, .ref (pr i)]) ⟨hx, hb, hml, hown, hts⟩ (kX15_boiling l E (va_up f_58 (pr i) (some (aI E 5 (upd (upd gr_58 1 (nI (aw - (aw * 5) / 5))) 4 (nI (dn + (aw * 5) * 100 / sl)))))) n_58 k pa re ki wa2_58 no pn pr hd (z_pan (z_warn v (k_T v) 5) i (nI (aw - (aw * 5) / 5)) ((z_warn v (k_T v) 5) (53 + 4 * i)) ((z_warn v (k_T v) 5) (54 + 4 * i)) (nI (dn + (aw * 5) * 100 / sl))) b (if w < 0 then nI b else w) (LK.pan eK_58 es_58 hi ((if_neg (by decide)).trans ((if_neg (by decide)).trans hg0_58)) ((if_neg (by decide)).trans (if_pos rfl)) ((if_neg (by decide)).trans ((if_neg (by decide)).trans hg2_58)) ((if_neg (by decide)).trans ((if_neg (by decide)).trans hg3_58)) (if_pos rfl))) (cwV 0 hts gX15_boil_X15_boiling rfl rfl rfl (by decide +kernel) ⟨(by show 0 + 1 ≤ x9 + 8; omega), (by show 8 + (1 + 11) + 0 ≤ y9 + 400; omega)⟩) (q_pV hA hW hS (ci := 15) rfl (q_ne (by omega) hk0_58)) rfl rfl hl.1 rfl (lv_room (Nat.le_of_ble_eq_true rfl)) dX15_boil_123 ⟨(by show _ ≤ 1 + z9; omega), (by show _ ≤ 20 * (1 + z9); omega)⟩) hS (fun r_123 f_123 n_123 H locs hp hW hS => ?_)
            obtain ⟨rfl, rfl, rfl⟩ := hp
            have hW : q_W E (va_up f_58 (pr i) (some (aI E 5 (upd (upd gr_58 1 (nI (aw - (aw * 5) / 5))) 4 (nI (dn + (aw * 5) * 100 / sl)))))) n_58 H := hW
            rw [show z_boil ((z_pan (z_warn v (k_T v) 5) i (nI (aw - (aw * 5) / 5)) ((z_warn v (k_T v) 5) (53 + 4 * i)) ((z_warn v (k_T v) 5) (54 + 4 * i)) (nI (dn + (aw * 5) * 100 / sl))) 0) = nI bl from (congrArg z_boil (z_pan_n (by omega))).trans ((congrArg z_boil (z_warn_lo (by decide) (by decide))).trans hbo)]
            refine q_iast hx hb hA hW hS q_eq (vp_in_nI (by decide) (by decide)) dX15_boil_126 (fun H locs hW hS => ?_)
            rw [show (3 : Int32).toNatClampNeg = 3 from (by decide)] at hW
            rw [q_upup] at hW
            have hW : q_W E (va_up f_58 (pr i) (some (aI E 5 (upd (upd (upd gr_58 1 (nI (aw - (aw * 5) / 5))) 4 (nI (dn + (aw * 5) * 100 / sl))) 3 (nI bl))))) n_58 H := hW
            refine lv_aload_n hx hb dX15_boil_127 rfl (lv_at hl 2 rfl) ?_
            refine lv_iload hx hb dX15_boil_128 (lv_at hl 0 rfl) ?_
            refine lv_iload_n hx hb dX15_boil_130 rfl (lv_at hl 3 rfl) ?_
            refine q_cv (va_runV (As := [.int (nI (aw * 5)), .int (nI i)]) (rest := []) ⟨hx, hb, hml, hown, hts⟩ (kX15_goBy l E (va_up f_58 (pr i) (some (aI E 5 (upd (upd (upd gr_58 1 (nI (aw - (aw * 5) / 5))) 4 (nI (dn + (aw * 5) * 100 / sl))) 3 (nI bl))))) n_58 k pa re ki wa2_58 no pn pr hd (z_pan (z_warn v (k_T v) 5) i (nI (aw - (aw * 5) / 5)) ((z_warn v (k_T v) 5) (53 + 4 * i)) (nI bl) (nI (dn + (aw * 5) * 100 / sl))) b (if w < 0 then nI b else w) (aw * 5) i (LK.pan eK_58 es_58 hi ((if_neg (by decide)).trans ((if_neg (by decide)).trans ((if_neg (by decide)).trans hg0_58))) ((if_neg (by decide)).trans ((if_neg (by decide)).trans (if_pos rfl))) ((if_neg (by decide)).trans ((if_neg (by decide)).trans ((if_neg (by decide)).trans hg2_58))) (if_pos rfl) ((if_neg (by decide)).trans (if_pos rfl))) es_58 hpn (by omega) (by omega) (w_ok.pan hok (fun _ => ⟨hh_, aw - (aw * 5) / 5, me, bl, dn + (aw * 5) * 100 / sl, hw0, rfl, ((z_warn_lo (by decide) (by omega)).trans hw2), rfl, rfl, ho1, (by omega), (by omega), (by omega), (by omega), (fun h9 => by omega)⟩)).hot) (cwV 2 hts gX15_boil_X15_goBy rfl rfl rfl (by decide +kernel) ⟨(by show 0 + 1 ≤ x9 + 8; omega), (by show 8 + (4 + 11) + 0 ≤ y9 + 400; omega)⟩) (q_pV hA hW hS (ci := 15) rfl (q_ne (by omega) hk0_58)) rfl rfl hl.1 rfl (lv_room (Nat.le_of_ble_eq_true rfl)) dX15_boil_131 ⟨(by show _ ≤ 1 + z9; omega), (by show _ ≤ 20 * (1 + z9); omega)⟩) hS (fun f_131 n_131 H locs hp hW hS => ?_)
            obtain ⟨eK_131, en_131, hfr_131⟩ := hp
            obtain ⟨hk0_131, ⟨gk_131, hki_131, hkv_131⟩, ⟨gw_131, hwa_131, hwv_131⟩, ⟨gn_131, hno_131, hnv_131⟩, ⟨gp_131, hpa_131, hpv_131⟩, hrow_131⟩ := id eK_131
            have eS : k_boilx pn i x (v, b, w) = k_pass pn (nI (aw * 5)) i (z_pan (z_warn v (k_T v) 5) i (nI (aw - (aw * 5) / 5)) ((z_warn v (k_T v) 5) (53 + 4 * i)) (nI bl) (nI (dn + (aw * 5) * 100 / sl)), b, if w < 0 then nI b else w) := by
              refine (if_neg (by rintro (h8 | h8); (have h8 : v (52 + 4 * i) = 0 := h8; rw [show v (52 + 4 * i) = nI aw from hw1] at h8; exact absurd ((nI_eq (b := 0) (by omega) (by decide)).mp h8) (by omega)); (have h8 : v (54 + 4 * i) < z_boil (v 0) := h8; rw [show v (54 + 4 * i) = nI t from hw3, show z_boil (v 0) = nI bl from hbo] at h8; exact absurd h8 (Int32.not_lt.mpr c_21)))).trans ?_
              show k_boil2 pn i (z_long (q_clamp x 0 999) (v 0)) (v, b, w) = _
              rw [hxh, hv0, hqe]
              show k_boil3 pn i (q_min (nI q) (5 * v (52 + 4 * i))) (if 5 * v (52 + 4 * i) < nI q then k_warn 5 (v, b, w) else (v, b, w)) = _
              rw [show (if 5 * v (52 + 4 * i) < nI q then k_warn 5 (v, b, w) else (v, b, w)) = k_warn 5 (v, b, w) from if_pos (by rw [hw1, show (5 : Int32) * nI aw = nI (5 * aw) from nI_mul 5 aw]; exact nI_lt (by omega) (by omega))]
              rw [hw1, bl_min (by omega) (by omega), hmin]
              show k_pass pn (nI (aw * 5)) i (z_pan (z_warn v (k_T v) 5) i ((z_warn v (k_T v) 5) (52 + 4 * i) - nI (aw * 5) / 5) ((z_warn v (k_T v) 5) (53 + 4 * i)) (z_boil ((z_warn v (k_T v) 5) 0)) (if 0 < (z_warn v (k_T v) 5) (53 + 4 * i) then q_min 100 ((z_warn v (k_T v) 5) (55 + 4 * i) + q_quot (nI (aw * 5) * 100) (z_slow ((z_warn v (k_T v) 5) 0))) else (z_warn v (k_T v) 5) (55 + 4 * i)), b, if w < 0 then nI b else w) = _
              rw [show (z_warn v (k_T v) 5) (52 + 4 * i) = nI aw from (z_warn_lo (by decide) (by omega)).trans hw1, show (z_warn v (k_T v) 5) (55 + 4 * i) = nI dn from (z_warn_lo (by decide) (by omega)).trans hw4, show z_boil ((z_warn v (k_T v) 5) 0) = nI bl from (congrArg z_boil (z_warn_lo (by decide) (by decide))).trans hbo, show z_slow ((z_warn v (k_T v) 5) 0) = nI sl from (congrArg z_slow (z_warn_lo (by decide) (by decide))).trans hso, show nI (aw * 5) / 5 = nI ((aw * 5) / 5) from pk_div (d := 5) (by omega) (by decide) (by decide), show nI aw - nI ((aw * 5) / 5) = nI (aw - (aw * 5) / 5) from pk_sub (by omega)]
              rw [if_pos (by rw [show (z_warn v (k_T v) 5) (53 + 4 * i) = nI me from (z_warn_lo (by decide) (by omega)).trans hw2]; exact nI_lt (a := 0) hme (by omega)), cook_nI (by omega) (by omega) (by omega), dn_min (by omega), hcl]
              all_goals rfl
            exact q_vret hx hb hr hlocks hW hS ⟨wa2_58, no, pr, (by rw [eS]; exact eK_131), es_58, PRN.rf, (by omega), (fun z9 g0 g1 g2 g3 g4 => ((hfr_131 _ g0 g3 (by omega)).trans (q_ne (g3 i hi) ((hfr_58 _ g0 g2 (by omega)).trans rfl))))⟩ (by show _ ≤ 1 + z9; omega) (by show _ ≤ 20 * (1 + z9); omega) dX15_boil_134
          · have hcl : min 100 (dn + (aw * 5) * 100 / sl) = 100 := by have h8 := q_gtn (b := 100) (by omega) c_112; omega
            refine lv_aload_n hx hb dX15_boil_115 rfl (lv_at hl 1 rfl) ?_
            refine lv_iconst (v := 4) hx hb dX15_boil_116 (by decide) ?_
            refine lv_bipush (v := 100) hx hb dX15_boil_117 (by decide) ?_
            refine q_iast hx hb hA hW hS q_eq (vp_in_nI (by decide) (by decide)) dX15_boil_119 (fun H locs hW hS => ?_)
            rw [show (4 : Int32).toNatClampNeg = 4 from (by decide)] at hW
            rw [q_upup] at hW
            have hW : q_W E (va_up f_58 (pr i) (some (aI E 5 (upd (upd (upd gr_58 1 (nI (aw - (aw * 5) / 5))) 4 (nI (dn + (aw * 5) * 100 / sl))) 4 100)))) n_58 H := hW
            refine lv_aload_n hx hb dX15_boil_120 rfl (lv_at hl 1 rfl) ?_
            refine lv_iconst (v := 3) hx hb dX15_boil_121 (by decide) ?_
            refine lv_aload_n hx hb dX15_boil_122 rfl (lv_at hl 2 rfl) ?_
            refine q_ci (va_runV (As := []) (rest := [.int 3, .ref (pr i)]) ⟨hx, hb, hml, hown, hts⟩ (kX15_boiling l E (va_up f_58 (pr i) (some (aI E 5 (upd (upd (upd gr_58 1 (nI (aw - (aw * 5) / 5))) 4 (nI (dn + (aw * 5) * 100 / sl))) 4 100)))) n_58 k pa re ki wa2_58 no pn pr hd (z_pan (z_warn v (k_T v) 5) i (nI (aw - (aw * 5) / 5)) ((z_warn v (k_T v) 5) (53 + 4 * i)) ((z_warn v (k_T v) 5) (54 + 4 * i)) 100) b (if w < 0 then nI b else w) (LK.pan eK_58 es_58 hi ((if_neg (by decide)).trans ((if_neg (by decide)).trans ((if_neg (by decide)).trans hg0_58))) ((if_neg (by decide)).trans ((if_neg (by decide)).trans (if_pos rfl))) ((if_neg (by decide)).trans ((if_neg (by decide)).trans ((if_neg (by decide)).trans hg2_58))) ((if_neg (by decide)).trans ((if_neg (by decide)).trans ((if_neg (by decide)).trans hg3_58))) (if_pos rfl))) (cwV 0 hts gX15_boil_X15_boiling rfl rfl rfl (by decide +kernel) ⟨(by show 0 + 1 ≤ x9 + 8; omega), (by show 8 + (1 + 11) + 0 ≤ y9 + 400; omega)⟩) (q_pV hA hW hS (ci := 15) rfl (q_ne (by omega) hk0_58)) rfl rfl hl.1 rfl (lv_room (Nat.le_of_ble_eq_true rfl)) dX15_boil_123 ⟨(by show _ ≤ 1 + z9; omega), (by show _ ≤ 20 * (1 + z9); omega)⟩) hS (fun r_123 f_123 n_123 H locs hp hW hS => ?_)
            obtain ⟨rfl, rfl, rfl⟩ := hp
            have hW : q_W E (va_up f_58 (pr i) (some (aI E 5 (upd (upd (upd gr_58 1 (nI (aw - (aw * 5) / 5))) 4 (nI (dn + (aw * 5) * 100 / sl))) 4 100)))) n_58 H := hW
            rw [show z_boil ((z_pan (z_warn v (k_T v) 5) i (nI (aw - (aw * 5) / 5)) ((z_warn v (k_T v) 5) (53 + 4 * i)) ((z_warn v (k_T v) 5) (54 + 4 * i)) 100) 0) = nI bl from (congrArg z_boil (z_pan_n (by omega))).trans ((congrArg z_boil (z_warn_lo (by decide) (by decide))).trans hbo)]
            refine q_iast hx hb hA hW hS q_eq (vp_in_nI (by decide) (by decide)) dX15_boil_126 (fun H locs hW hS => ?_)
            rw [show (3 : Int32).toNatClampNeg = 3 from (by decide)] at hW
            rw [q_upup] at hW
            have hW : q_W E (va_up f_58 (pr i) (some (aI E 5 (upd (upd (upd (upd gr_58 1 (nI (aw - (aw * 5) / 5))) 4 (nI (dn + (aw * 5) * 100 / sl))) 4 100) 3 (nI bl))))) n_58 H := hW
            refine lv_aload_n hx hb dX15_boil_127 rfl (lv_at hl 2 rfl) ?_
            refine lv_iload hx hb dX15_boil_128 (lv_at hl 0 rfl) ?_
            refine lv_iload_n hx hb dX15_boil_130 rfl (lv_at hl 3 rfl) ?_
            refine q_cv (va_runV (As := [.int (nI (aw * 5)), .int (nI i)]) (rest := []) ⟨hx, hb, hml, hown, hts⟩ (kX15_goBy l E (va_up f_58 (pr i) (some (aI E 5 (upd (upd (upd (upd gr_58 1 (nI (aw - (aw * 5) / 5))) 4 (nI (dn + (aw * 5) * 100 / sl))) 4 100) 3 (nI bl))))) n_58 k pa re ki wa2_58 no pn pr hd (z_pan (z_warn v (k_T v) 5) i (nI (aw - (aw * 5) / 5)) ((z_warn v (k_T v) 5) (53 + 4 * i)) (nI bl) 100) b (if w < 0 then nI b else w) (aw * 5) i (LK.pan eK_58 es_58 hi ((if_neg (by decide)).trans ((if_neg (by decide)).trans ((if_neg (by decide)).trans ((if_neg (by decide)).trans hg0_58)))) ((if_neg (by decide)).trans ((if_neg (by decide)).trans ((if_neg (by decide)).trans (if_pos rfl)))) ((if_neg (by decide)).trans ((if_neg (by decide)).trans ((if_neg (by decide)).trans ((if_neg (by decide)).trans hg2_58)))) (if_pos rfl) ((if_neg (by decide)).trans (if_pos rfl))) es_58 hpn (by omega) (by omega) (w_ok.pan hok (fun _ => ⟨hh_, aw - (aw * 5) / 5, me, bl, 100, hw0, rfl, ((z_warn_lo (by decide) (by omega)).trans hw2), rfl, rfl, ho1, (by omega), (by omega), (by omega), (by omega), (fun h9 => by omega)⟩)).hot) (cwV 2 hts gX15_boil_X15_goBy rfl rfl rfl (by decide +kernel) ⟨(by show 0 + 1 ≤ x9 + 8; omega), (by show 8 + (4 + 11) + 0 ≤ y9 + 400; omega)⟩) (q_pV hA hW hS (ci := 15) rfl (q_ne (by omega) hk0_58)) rfl rfl hl.1 rfl (lv_room (Nat.le_of_ble_eq_true rfl)) dX15_boil_131 ⟨(by show _ ≤ 1 + z9; omega), (by show _ ≤ 20 * (1 + z9); omega)⟩) hS (fun f_131 n_131 H locs hp hW hS => ?_)
            obtain ⟨eK_131, en_131, hfr_131⟩ := hp
            obtain ⟨hk0_131, ⟨gk_131, hki_131, hkv_131⟩, ⟨gw_131, hwa_131, hwv_131⟩, ⟨gn_131, hno_131, hnv_131⟩, ⟨gp_131, hpa_131, hpv_131⟩, hrow_131⟩ := id eK_131
            have eS : k_boilx pn i x (v, b, w) = k_pass pn (nI (aw * 5)) i (z_pan (z_warn v (k_T v) 5) i (nI (aw - (aw * 5) / 5)) ((z_warn v (k_T v) 5) (53 + 4 * i)) (nI bl) 100, b, if w < 0 then nI b else w) := by
              refine (if_neg (by rintro (h8 | h8); (have h8 : v (52 + 4 * i) = 0 := h8; rw [show v (52 + 4 * i) = nI aw from hw1] at h8; exact absurd ((nI_eq (b := 0) (by omega) (by decide)).mp h8) (by omega)); (have h8 : v (54 + 4 * i) < z_boil (v 0) := h8; rw [show v (54 + 4 * i) = nI t from hw3, show z_boil (v 0) = nI bl from hbo] at h8; exact absurd h8 (Int32.not_lt.mpr c_21)))).trans ?_
              show k_boil2 pn i (z_long (q_clamp x 0 999) (v 0)) (v, b, w) = _
              rw [hxh, hv0, hqe]
              show k_boil3 pn i (q_min (nI q) (5 * v (52 + 4 * i))) (if 5 * v (52 + 4 * i) < nI q then k_warn 5 (v, b, w) else (v, b, w)) = _
              rw [show (if 5 * v (52 + 4 * i) < nI q then k_warn 5 (v, b, w) else (v, b, w)) = k_warn 5 (v, b, w) from if_pos (by rw [hw1, show (5 : Int32) * nI aw = nI (5 * aw) from nI_mul 5 aw]; exact nI_lt (by omega) (by omega))]
              rw [hw1, bl_min (by omega) (by omega), hmin]
              show k_pass pn (nI (aw * 5)) i (z_pan (z_warn v (k_T v) 5) i ((z_warn v (k_T v) 5) (52 + 4 * i) - nI (aw * 5) / 5) ((z_warn v (k_T v) 5) (53 + 4 * i)) (z_boil ((z_warn v (k_T v) 5) 0)) (if 0 < (z_warn v (k_T v) 5) (53 + 4 * i) then q_min 100 ((z_warn v (k_T v) 5) (55 + 4 * i) + q_quot (nI (aw * 5) * 100) (z_slow ((z_warn v (k_T v) 5) 0))) else (z_warn v (k_T v) 5) (55 + 4 * i)), b, if w < 0 then nI b else w) = _
              rw [show (z_warn v (k_T v) 5) (52 + 4 * i) = nI aw from (z_warn_lo (by decide) (by omega)).trans hw1, show (z_warn v (k_T v) 5) (55 + 4 * i) = nI dn from (z_warn_lo (by decide) (by omega)).trans hw4, show z_boil ((z_warn v (k_T v) 5) 0) = nI bl from (congrArg z_boil (z_warn_lo (by decide) (by decide))).trans hbo, show z_slow ((z_warn v (k_T v) 5) 0) = nI sl from (congrArg z_slow (z_warn_lo (by decide) (by decide))).trans hso, show nI (aw * 5) / 5 = nI ((aw * 5) / 5) from pk_div (d := 5) (by omega) (by decide) (by decide), show nI aw - nI ((aw * 5) / 5) = nI (aw - (aw * 5) / 5) from pk_sub (by omega)]
              rw [if_pos (by rw [show (z_warn v (k_T v) 5) (53 + 4 * i) = nI me from (z_warn_lo (by decide) (by omega)).trans hw2]; exact nI_lt (a := 0) hme (by omega)), cook_nI (by omega) (by omega) (by omega), dn_min (by omega), hcl]
              all_goals rfl
            exact q_vret hx hb hr hlocks hW hS ⟨wa2_58, no, pr, (by rw [eS]; exact eK_131), es_58, PRN.rf, (by omega), (fun z9 g0 g1 g2 g3 g4 => ((hfr_131 _ g0 g3 (by omega)).trans (q_ne (g3 i hi) ((hfr_58 _ g0 g2 (by omega)).trans rfl))))⟩ (by show _ ≤ 1 + z9; omega) (by show _ ≤ 20 * (1 + z9); omega) dX15_boil_134
    · refine lv_aload_n hx hb dX15_boil_24 rfl (lv_at hl 1 rfl) ?_
      refine lv_iconst (v := 4) hx hb dX15_boil_25 (by decide) ?_
      refine q_cv (va_runV (As := [.int 4]) (rest := []) ⟨hx, hb, hml, hown, hts⟩ (kX15_warn l E f n k pa re ki wa no pn pr hd v b w 4 hK hs hpn (by decide) hi4 hi4b) (cwV 1 hts gX15_boil_X15_warn rfl rfl rfl (by decide +kernel) ⟨(by show 1 + 1 ≤ x9 + 8; omega), (by show 8 + (2 + 11) + 23 ≤ y9 + 400; omega)⟩) (q_pV hA hW hS (ci := 15) rfl hk0) rfl rfl hl.1 rfl (lv_room (Nat.le_of_ble_eq_true rfl)) dX15_boil_26 ⟨(by show _ ≤ 1 + z9; omega), (by show _ ≤ 20 * (1 + z9); omega)⟩) hS (fun f_26 n_26 H locs hp hW hS => ?_)
      obtain ⟨wa2_26, eK_26, es_26, ewa_26, en_26, hfr_26⟩ := hp
      obtain ⟨hk0_26, ⟨gk_26, hki_26, hkv_26⟩, ⟨gw_26, hwa_26, hwv_26⟩, ⟨gn_26, hno_26, hnv_26⟩, ⟨gp_26, hpa_26, hpv_26⟩, hrow_26⟩ := id eK_26
      obtain ⟨gr_26, hr_26, hg0_26, hg1_26, hg2_26, hg3_26, hg4_26⟩ := hrow_26 i hi
      have hok := hv.warn (kd := 4) (by decide) hi4b
      have eS : k_boilx pn i x (v, b, w) = k_warn 4 (v, b, w) := if_pos (Or.inr (by show v (54 + 4 * i) < z_boil (v 0); rw [hw3, hbo]; exact Int32.not_le.mp c_21))
      exact q_vret hx hb hr hlocks hW hS ⟨wa2_26, no, pr, (by rw [eS]; exact eK_26), es_26, PRN.rf, (by omega), (fun z9 g0 g1 g2 g3 g4 => ((hfr_26 _ g0 g2 (by omega)).trans rfl))⟩ (by show _ ≤ 1 + z9; omega) (by show _ ≤ 20 * (1 + z9); omega) dX15_boil_29

set_option maxHeartbeats 4000000 in
set_option maxRecDepth 100000 in
theorem kX15_carryOut_3 (l : Launch) (E : q_E) (f : q_H) (n : Nat) (x9 y9 z9 : Nat) (k pa re ki wa no pn : Nat) (pr : Nat → Nat) (hd v : q_V) (b : Nat) (w : Int32) (B : Nat) (a i y : Nat) (sg on ot blk el : Option Nat) (P : Nat → Prop) (D : q_D) (Wt : List Int32) (h0 : f a = some (cLA 3 (nI i) (some y) sg on ot blk el)) (hK : LK E f k pa re ki wa no pn pr hd v b w) (hs : LSp ki wa no pn pr) (hi : i < pn) (hpn : pn ≤ 8) (hv : w_ok pn hd v) (hB : B ≤ 2 ^ 29) (hI : k_inv1 B (v, b, w)) (hN : NODE pn P f 1 y D Wt) : Met l yX15_carryOut wsX15_carryOut ({ frames := x9 + 10, cells := 1 + z9, slots := 20 * (1 + z9), locals := y9 + 500 }) (q_P E [.ref k, .ref a] f n) (q_Qv E (fun f1 n1 => KB E f f1 n n1 k pa re ki pn pr hd (k_boil pn i D hd (v, b, w)))) (1 + z9) (20 * (1 + z9)) (q_ge E) := by
  refine Met.ofW (cc := cX15_carryOut) (maxL := 7) (ret := none) (by decide) rfl ?_
  intro p0_ e0_ s0_ m0_ args0_ below0_ meth0_ c0_ s1_ B0_ hml hv
  obtain ⟨rfl, hA, hW⟩ := hv
  have hx := B0_.exec
  have hb := B0_.bytes
  have hr := B0_.returns
  have hts := atoms_spec (ws := wsX15_carryOut) B0_.pre
  have hown : s0_.vm.findClass RX15 = some m0_.cls := findClass_of_methodNamed B0_.named
  have hlocks := B0_.notSynchronized
  have hS : va_S (q_ge E) s0_.heap s0_.heap [] := va_S.rf
  have iX13 : ∀ w ∈ wsX130, w ∈ wsX15_carryOut := by decide +kernel
  have iX15 : ∀ w ∈ wsX150, w ∈ wsX15_carryOut := by decide +kernel
  have hl := lv_entry ([.ref k, .ref a]) (n := 7) (Nat.le_of_ble_eq_true rfl)
  rw [lg_entry_eq]
  generalize (lg_sl ([.ref k, .ref a]) ++ List.replicate (7 - (lg_sl ([.ref k, .ref a])).length) Slot.unset).toArray = ls at hl ⊢
  have hl : lv_has ls 7 [(0, .ref k), (1, .ref a)] := hl
  obtain ⟨hk0, ⟨gk, hki, hkv⟩, ⟨gw, hwa, hwv⟩, ⟨gn, hno, hnv⟩, ⟨gp, hpa, hpv⟩, hrow⟩ := id hK
  have l_k := hW.lt hk0
  have l_ki := hW.lt hki
  have l_wa := hW.lt hwa
  have l_no := hW.lt hno
  have l_pa := hW.lt hpa
  have l_h0 := hW.lt h0
  have hkp9 := ne_ab hk0 hpa
  have hak : a ≠ k := ne_ci h0 hk0 (by decide)
  have hapa : a ≠ pa := fun e => ne_ab h0 hpa e.symm
  have haki : a ≠ ki := fun e => ne_ab h0 hki e.symm
  have har : ∀ i, i < pn → a ≠ pr i := fun i hi e9 => by obtain ⟨gr9, e8, -⟩ := hrow i hi; rw [← e9, h0] at e8; cases e8
  obtain ⟨gr, hr_i, hg0, hg1, hg2, hg3, hg4⟩ := hrow i hi
  have l_r := hW.lt hr_i
  have hrk := hK.kr hi
  have har9 := har i hi
  have hi4 := hI.2.1.1
  have hi4b : k_T v < 2 ^ 30 := by have h8 := hI.1; have h9 := hI.2.1.2; have h8 : b ≤ 100 := h8; have h9 : k_T v + 101 ≤ B + b := h9; omega
  have hi5b : k_N v < 2 ^ 30 := by have h8 := hI.1; have h9 := hI.2.2.2; have h8 : b ≤ 100 := h8; have h9 : k_N v + 101 ≤ B + b := h9; omega
  obtain ⟨-, so, ky, xy, yy, hcy⟩ := hN.cell
  have l_y := hW.lt hcy
  refine lv_aload_n hx hb dX15_carryOut_0 rfl (lv_at hl 1 rfl) ?_
  refine q_get hx hb hts hown hA hW iX13 h0 rfl 0 (by decide) (hts (.fieldLink RX15 81 "HighRecipesLaw$Act" "does" "I") (by decide +kernel)) (fun _ h9 => h9) (v := .int 3) rfl dX15_carryOut_1 ?_
  refine lv_bipush (v := 7) hx hb dX15_carryOut_4 (by decide) ?_
  refine lv_icmp_ne (tgt := 13) hx hb dX15_carryOut_6 (by decide) (fun c_6 => ?_) (fun c_6 => absurd c_6 (by decide))
  refine lv_aload_n hx hb dX15_carryOut_13 rfl (lv_at hl 0 rfl) ?_
  refine q_get hx hb hts hown hA hW iX15 hk0 rfl 4 (by decide) (hts (.fieldLink RX15 18 "HighRecipesLaw$Kitchen" "pans" "[[I") (by decide +kernel)) (fun _ h9 => h9) (v := .ref pa) rfl dX15_carryOut_14 ?_
  refine lv_aload_n hx hb dX15_carryOut_17 rfl (lv_at hl 1 rfl) ?_
  refine q_get hx hb hts hown hA hW iX13 h0 rfl 1 (by decide) (hts (.fieldLink RX15 86 "HighRecipesLaw$Act" "whom" "I") (by decide +kernel)) (fun _ h9 => h9) (v := .int (nI i)) rfl dX15_carryOut_18 ?_
  refine q_aaldA hx hb hA hW 8 rfl hpa (vp_in_nI (by omega) (by omega)) dX15_carryOut_21 ?_
  rw [show gp (nI i).toNatClampNeg = some (pr i) from by rw [nI_clamp (by omega)]; exact hpv i (by omega)]
  refine lv_astore_n (lv' := [(2, .ref (pr i)), (0, .ref k), (1, .ref a)]) hx hb dX15_carryOut_22 rfl hl (by decide) rfl (fun ls hl => ?_)
  refine lv_aload_n hx hb dX15_carryOut_23 rfl (lv_at hl 2 rfl) ?_
  refine q_get hx hb hts hown hA hW iX13 h0 rfl 2 (by decide) (hts (.fieldLink RX15 89 "HighRecipesLaw$Act" "value" "LHighRecipesLaw$Node;") (by decide +kernel)) (fun _ h9 => h9) (v := .ref y) rfl dX15_carryOut_24 ?_
  refine lv_ifnonnull (tgt := 34) hx hb dX15_carryOut_27 (by decide) ?_
  refine lv_aload_n hx hb dX15_carryOut_34 rfl (lv_at hl 2 rfl) ?_
  refine q_get hx hb hts hown hA hW iX13 h0 rfl 2 (by decide) (hts (.fieldLink RX15 89 "HighRecipesLaw$Act" "value" "LHighRecipesLaw$Node;") (by decide +kernel)) (fun _ h9 => h9) (v := .ref y) rfl dX15_carryOut_35 ?_
  refine lv_aload_n hx hb dX15_carryOut_38 rfl (lv_at hl 1 rfl) ?_
  refine q_ci (va_runV (As := [.ref k]) (rest := []) ⟨hx, hb, hml, hown, hts⟩ (kX16_value_1 l E f n k pa re ki wa no pn pr hd v b w y P D Wt hN hpn hK) (cwV 1 hts gX15_carryOut_X16_value rfl rfl rfl (by decide +kernel) ⟨(by show 6 + 1 ≤ x9 + 10; omega), (by show 8 + (4 + 11) + 240 ≤ y9 + 500; omega)⟩) (q_pV hA hW hS (ci := 16) rfl hcy) rfl rfl hl.1 rfl (lv_room (Nat.le_of_ble_eq_true rfl)) dX15_carryOut_39 ⟨(by show _ ≤ 1 + z9; omega), (by show _ ≤ 20 * (1 + z9); omega)⟩) hS (fun r_39 f_39 n_39 H locs hp hW hS => ?_)
  obtain ⟨rfl, rfl, rfl⟩ := hp
  have hW : q_W E (f) n H := hW
  refine lv_istore_n (lv' := [(3, .int (D hd v)), (2, .ref (pr i)), (0, .ref k), (1, .ref a)]) hx hb dX15_carryOut_42 rfl hl (by decide) rfl (fun ls hl => ?_)
  refine lv_aload_n hx hb dX15_carryOut_43 rfl (lv_at hl 3 rfl) ?_
  refine q_get hx hb hts hown hA hW iX13 h0 rfl 0 (by decide) (hts (.fieldLink RX15 81 "HighRecipesLaw$Act" "does" "I") (by decide +kernel)) (fun _ h9 => h9) (v := .int 3) rfl dX15_carryOut_44 ?_
  refine lv_tableIn (x := 3) (off := 203) (tgt := 250) hx hb dX15_carryOut_47 (by decide) (by decide) (by decide) (by decide) ?_
  refine lv_aload_n hx hb dX15_carryOut_250 rfl (lv_at hl 2 rfl) ?_
  refine lv_aload_n hx hb dX15_carryOut_251 rfl (lv_at hl 3 rfl) ?_
  refine q_get hx hb hts hown hA hW iX13 h0 rfl 1 (by decide) (hts (.fieldLink RX15 86 "HighRecipesLaw$Act" "whom" "I") (by decide +kernel)) (fun _ h9 => h9) (v := .int (nI i)) rfl dX15_carryOut_252 ?_
  refine lv_iload_n hx hb dX15_carryOut_255 rfl (lv_at hl 0 rfl) ?_
  refine q_cv (va_runV (As := [.int (nI i), .int (D hd v)]) (rest := []) ⟨hx, hb, hml, hown, hts⟩ (kX15_boil l E f n x9 y9 z9 k pa re ki wa no pn pr hd v b w B i (D hd v) hK hs hi hpn hv hB hI) (cwV 2 hts gX15_carryOut_X15_boil rfl rfl rfl (by decide +kernel) ⟨(by show (x9 + 8) + 1 ≤ x9 + 10; omega), (by show 8 + (5 + 11) + (y9 + 400) ≤ y9 + 500; omega)⟩) (q_pV hA hW hS (ci := 15) rfl hk0) rfl rfl hl.1 rfl (lv_room (Nat.le_of_ble_eq_true rfl)) dX15_carryOut_256 ⟨(by show _ ≤ 1 + z9; omega), (by show _ ≤ 20 * (1 + z9); omega)⟩) hS (fun f_256 n_256 H locs hp hW hS => ?_)
  have eB := hp
  refine lv_goto (tgt := 442) hx hb dX15_carryOut_259 (by decide) ?_
  exact q_vret hx hb hr hlocks hW hS eB (by show _ ≤ 1 + z9; omega) (by show _ ≤ 20 * (1 + z9); omega) dX15_carryOut_442

set_option maxHeartbeats 4000000 in
set_option maxRecDepth 100000 in
theorem kX15_carryOut_4 (l : Launch) (E : q_E) (f : q_H) (n : Nat) (x9 y9 z9 : Nat) (k pa re ki wa no pn : Nat) (pr : Nat → Nat) (hd v : q_V) (b : Nat) (w : Int32) (B : Nat) (a i : Nat) (sg on ot blk el : Option Nat) (h0 : f a = some (cLA 4 (nI i) none sg on ot blk el)) (hK : LK E f k pa re ki wa no pn pr hd v b w) (hs : LSp ki wa no pn pr) (hi : i < pn) (hpn : pn ≤ 8) (hv : w_ok pn hd v) (hB : B ≤ 2 ^ 29) (hI : k_inv1 B (v, b, w)) : Met l yX15_carryOut wsX15_carryOut ({ frames := x9 + 10, cells := 1 + z9, slots := 20 * (1 + z9), locals := y9 + 500 }) (q_P E [.ref k, .ref a] f n) (q_Qv E (fun f1 n1 => KB E f f1 n n1 k pa re ki pn pr hd (k_empty pn i hd (v, b, w)))) (1 + z9) (20 * (1 + z9)) (q_ge E) := by
  refine Met.ofW (cc := cX15_carryOut) (maxL := 7) (ret := none) (by decide) rfl ?_
  intro p0_ e0_ s0_ m0_ args0_ below0_ meth0_ c0_ s1_ B0_ hml hv
  obtain ⟨rfl, hA, hW⟩ := hv
  have hx := B0_.exec
  have hb := B0_.bytes
  have hr := B0_.returns
  have hts := atoms_spec (ws := wsX15_carryOut) B0_.pre
  have hown : s0_.vm.findClass RX15 = some m0_.cls := findClass_of_methodNamed B0_.named
  have hlocks := B0_.notSynchronized
  have hS : va_S (q_ge E) s0_.heap s0_.heap [] := va_S.rf
  have iX13 : ∀ w ∈ wsX130, w ∈ wsX15_carryOut := by decide +kernel
  have iX15 : ∀ w ∈ wsX150, w ∈ wsX15_carryOut := by decide +kernel
  have hl := lv_entry ([.ref k, .ref a]) (n := 7) (Nat.le_of_ble_eq_true rfl)
  rw [lg_entry_eq]
  generalize (lg_sl ([.ref k, .ref a]) ++ List.replicate (7 - (lg_sl ([.ref k, .ref a])).length) Slot.unset).toArray = ls at hl ⊢
  have hl : lv_has ls 7 [(0, .ref k), (1, .ref a)] := hl
  obtain ⟨hk0, ⟨gk, hki, hkv⟩, ⟨gw, hwa, hwv⟩, ⟨gn, hno, hnv⟩, ⟨gp, hpa, hpv⟩, hrow⟩ := id hK
  have l_k := hW.lt hk0
  have l_ki := hW.lt hki
  have l_wa := hW.lt hwa
  have l_no := hW.lt hno
  have l_pa := hW.lt hpa
  have l_h0 := hW.lt h0
  have hkp9 := ne_ab hk0 hpa
  have hak : a ≠ k := ne_ci h0 hk0 (by decide)
  have hapa : a ≠ pa := fun e => ne_ab h0 hpa e.symm
  have haki : a ≠ ki := fun e => ne_ab h0 hki e.symm
  have har : ∀ i, i < pn → a ≠ pr i := fun i hi e9 => by obtain ⟨gr9, e8, -⟩ := hrow i hi; rw [← e9, h0] at e8; cases e8
  obtain ⟨gr, hr_i, hg0, hg1, hg2, hg3, hg4⟩ := hrow i hi
  have l_r := hW.lt hr_i
  have hrk := hK.kr hi
  have har9 := har i hi
  have hi4 := hI.2.1.1
  have hi4b : k_T v < 2 ^ 30 := by have h8 := hI.1; have h9 := hI.2.1.2; have h8 : b ≤ 100 := h8; have h9 : k_T v + 101 ≤ B + b := h9; omega
  have hi5b : k_N v < 2 ^ 30 := by have h8 := hI.1; have h9 := hI.2.2.2; have h8 : b ≤ 100 := h8; have h9 : k_N v + 101 ≤ B + b := h9; omega
  have hlt0 : ∀ q x, f q = some x → q < n := fun q x h => hW.lt h
  obtain ⟨hh_, aw, me, t, dn, hw0, hw1, hw2, hw3, hw4, ho1, ho2, ho3, ho4, ho5, ho6⟩ := id (hv.2.2.2.2 i hi)
  refine lv_aload_n hx hb dX15_carryOut_0 rfl (lv_at hl 1 rfl) ?_
  refine q_get hx hb hts hown hA hW iX13 h0 rfl 0 (by decide) (hts (.fieldLink RX15 81 "HighRecipesLaw$Act" "does" "I") (by decide +kernel)) (fun _ h9 => h9) (v := .int 4) rfl dX15_carryOut_1 ?_
  refine lv_bipush (v := 7) hx hb dX15_carryOut_4 (by decide) ?_
  refine lv_icmp_ne (tgt := 13) hx hb dX15_carryOut_6 (by decide) (fun c_6 => ?_) (fun c_6 => absurd c_6 (by decide))
  refine lv_aload_n hx hb dX15_carryOut_13 rfl (lv_at hl 0 rfl) ?_
  refine q_get hx hb hts hown hA hW iX15 hk0 rfl 4 (by decide) (hts (.fieldLink RX15 18 "HighRecipesLaw$Kitchen" "pans" "[[I") (by decide +kernel)) (fun _ h9 => h9) (v := .ref pa) rfl dX15_carryOut_14 ?_
  refine lv_aload_n hx hb dX15_carryOut_17 rfl (lv_at hl 1 rfl) ?_
  refine q_get hx hb hts hown hA hW iX13 h0 rfl 1 (by decide) (hts (.fieldLink RX15 86 "HighRecipesLaw$Act" "whom" "I") (by decide +kernel)) (fun _ h9 => h9) (v := .int (nI i)) rfl dX15_carryOut_18 ?_
  refine q_aaldA hx hb hA hW 8 rfl hpa (vp_in_nI (by omega) (by omega)) dX15_carryOut_21 ?_
  rw [show gp (nI i).toNatClampNeg = some (pr i) from by rw [nI_clamp (by omega)]; exact hpv i (by omega)]
  refine lv_astore_n (lv' := [(2, .ref (pr i)), (0, .ref k), (1, .ref a)]) hx hb dX15_carryOut_22 rfl hl (by decide) rfl (fun ls hl => ?_)
  refine lv_aload_n hx hb dX15_carryOut_23 rfl (lv_at hl 2 rfl) ?_
  refine q_get hx hb hts hown hA hW iX13 h0 rfl 2 (by decide) (hts (.fieldLink RX15 89 "HighRecipesLaw$Act" "value" "LHighRecipesLaw$Node;") (by decide +kernel)) (fun _ h9 => h9) (v := .null) rfl dX15_carryOut_24 ?_
  refine lv_ifnonnullN hx hb dX15_carryOut_27 ?_
  refine lv_iconst (v := 0) hx hb dX15_carryOut_30 (by decide) ?_
  refine lv_goto (tgt := 42) hx hb dX15_carryOut_31 (by decide) ?_
  refine lv_istore_n (lv' := [(3, .int 0), (2, .ref (pr i)), (0, .ref k), (1, .ref a)]) hx hb dX15_carryOut_42 rfl hl (by decide) rfl (fun ls hl => ?_)
  refine lv_aload_n hx hb dX15_carryOut_43 rfl (lv_at hl 3 rfl) ?_
  refine q_get hx hb hts hown hA hW iX13 h0 rfl 0 (by decide) (hts (.fieldLink RX15 81 "HighRecipesLaw$Act" "does" "I") (by decide +kernel)) (fun _ h9 => h9) (v := .int 4) rfl dX15_carryOut_44 ?_
  refine lv_tableIn (x := 4) (off := 215) (tgt := 262) hx hb dX15_carryOut_47 (by decide) (by decide) (by decide) (by decide) ?_
  refine lv_aload_n hx hb dX15_carryOut_262 rfl (lv_at hl 2 rfl) ?_
  refine q_get hx hb hts hown hA hW iX15 hk0 rfl 4 (by decide) (hts (.fieldLink RX15 18 "HighRecipesLaw$Kitchen" "pans" "[[I") (by decide +kernel)) (fun _ h9 => h9) (v := .ref pa) rfl dX15_carryOut_263 ?_
  refine lv_aload_n hx hb dX15_carryOut_266 rfl (lv_at hl 3 rfl) ?_
  refine q_get hx hb hts hown hA hW iX13 h0 rfl 1 (by decide) (hts (.fieldLink RX15 86 "HighRecipesLaw$Act" "whom" "I") (by decide +kernel)) (fun _ h9 => h9) (v := .int (nI i)) rfl dX15_carryOut_267 ?_
  refine lv_iconst (v := 5) hx hb dX15_carryOut_270 (by decide) ?_
  refine q_newa (atype := .int) hx hb hA hW hS (hts (.arrayClass .int) (by decide +kernel)) (ty := .int) rfl 0 rfl (fun C h9 => by cases h9) (N' := 5) (a0 := (5, .inl (fun _ => 0))) (fun _ => rfl) (by decide) (by decide) (Nat.le_of_ble_eq_true rfl) (by show _ ≤ 1 + z9; omega) (by show _ ≤ 20 * (1 + z9); omega) dX15_carryOut_271 (fun H hW hS => ?_)
  have hW : q_W E (va_up f n (some (aI E 5 (fun _ => 0)))) (n + 1) H := hW
  refine lv_dup hx hb dX15_carryOut_273 rfl ?_
  refine lv_iconst (v := 0) hx hb dX15_carryOut_274 (by decide) ?_
  refine lv_aload_n hx hb dX15_carryOut_275 rfl (lv_at hl 1 rfl) ?_
  refine lv_iconst (v := 0) hx hb dX15_carryOut_276 (by decide) ?_
  refine q_iald hx hb hA hW (q_ne (by omega) hr_i) (vp_in_nI (by decide) (by decide)) dX15_carryOut_277 ?_
  rw [show gr (0 : Int32).toNatClampNeg = hd i from hg0]
  refine q_iast hx hb hA hW hS q_eq (vp_in_nI (by decide) (by decide)) dX15_carryOut_278 (fun H locs hW hS => ?_)
  rw [show (0 : Int32).toNatClampNeg = 0 from (by decide)] at hW
  rw [q_upup] at hW
  have hW : q_W E (va_up f n (some (aI E 5 (upd (fun _ => 0) 0 (hd i))))) (n + 1) H := hW
  refine lv_dup hx hb dX15_carryOut_279 rfl ?_
  refine lv_iconst (v := 1) hx hb dX15_carryOut_280 (by decide) ?_
  refine lv_iconst (v := 0) hx hb dX15_carryOut_281 (by decide) ?_
  refine q_iast hx hb hA hW hS q_eq (vp_in_nI (by decide) (by decide)) dX15_carryOut_282 (fun H locs hW hS => ?_)
  rw [show (1 : Int32).toNatClampNeg = 1 from (by decide)] at hW
  rw [q_upup] at hW
  have hW : q_W E (va_up f n (some (aI E 5 (upd (upd (fun _ => 0) 0 (hd i)) 1 0)))) (n + 1) H := hW
  refine lv_dup hx hb dX15_carryOut_283 rfl ?_
  refine lv_iconst (v := 2) hx hb dX15_carryOut_284 (by decide) ?_
  refine lv_iconst (v := 0) hx hb dX15_carryOut_285 (by decide) ?_
  refine q_iast hx hb hA hW hS q_eq (vp_in_nI (by decide) (by decide)) dX15_carryOut_286 (fun H locs hW hS => ?_)
  rw [show (2 : Int32).toNatClampNeg = 2 from (by decide)] at hW
  rw [q_upup] at hW
  have hW : q_W E (va_up f n (some (aI E 5 (upd (upd (upd (fun _ => 0) 0 (hd i)) 1 0) 2 0)))) (n + 1) H := hW
  refine lv_dup hx hb dX15_carryOut_287 rfl ?_
  refine lv_iconst (v := 3) hx hb dX15_carryOut_288 (by decide) ?_
  refine lv_bipush (v := 20) hx hb dX15_carryOut_289 (by decide) ?_
  refine q_iast hx hb hA hW hS q_eq (vp_in_nI (by decide) (by decide)) dX15_carryOut_291 (fun H locs hW hS => ?_)
  rw [show (3 : Int32).toNatClampNeg = 3 from (by decide)] at hW
  rw [q_upup] at hW
  have hW : q_W E (va_up f n (some (aI E 5 (upd (upd (upd (upd (fun _ => 0) 0 (hd i)) 1 0) 2 0) 3 20)))) (n + 1) H := hW
  refine lv_dup hx hb dX15_carryOut_292 rfl ?_
  refine lv_iconst (v := 4) hx hb dX15_carryOut_293 (by decide) ?_
  refine lv_iconst (v := 0) hx hb dX15_carryOut_294 (by decide) ?_
  refine q_iast hx hb hA hW hS q_eq (vp_in_nI (by decide) (by decide)) dX15_carryOut_295 (fun H locs hW hS => ?_)
  rw [show (4 : Int32).toNatClampNeg = 4 from (by decide)] at hW
  rw [q_upup] at hW
  have hW : q_W E (va_up f n (some (aI E 5 (upd (upd (upd (upd (upd (fun _ => 0) 0 (hd i)) 1 0) 2 0) 3 20) 4 0)))) (n + 1) H := hW
  refine q_aastA hx hb hA hW hS 8 0 hA.2.2.2.2.2.2.2.2.2.2.2.2.2.1 rfl rfl (q_fc8 hA) (q_ne (by omega) hpa) q_eq (vp_in_nI (by omega) (by omega)) dX15_carryOut_296 (fun H locs hW hS => ?_)
  rw [show (nI i).toNatClampNeg = i from (nI_clamp (by omega))] at hW
  have hW : q_W E (va_up (va_up f n (some (aI E 5 (upd (upd (upd (upd (upd (fun _ => 0) 0 (hd i)) 1 0) 2 0) 3 20) 4 0)))) pa (some (aQ E 8 pn (va_up gp i (some n))))) (n + 1) H := hW
  refine lv_aload_n hx hb dX15_carryOut_297 rfl (lv_at hl 2 rfl) ?_
  refine lv_iconst (v := 1) hx hb dX15_carryOut_298 (by decide) ?_
  refine lv_aload_n hx hb dX15_carryOut_299 rfl (lv_at hl 3 rfl) ?_
  refine q_get hx hb hts hown hA hW iX13 (q_ne (by omega) (q_ne (by omega) h0)) rfl 1 (by decide) (hts (.fieldLink RX15 86 "HighRecipesLaw$Act" "whom" "I") (by decide +kernel)) (fun _ h9 => h9) (v := .int (nI i)) rfl dX15_carryOut_300 ?_
  refine q_cv (va_runV (As := [.int 1, .int (nI i)]) (rest := []) ⟨hx, hb, hml, hown, hts⟩ (kX15_goBy l E (va_up (va_up f n (some (aI E 5 (upd (upd (upd (upd (upd (fun _ => 0) 0 (hd i)) 1 0) 2 0) 3 20) 4 0)))) pa (some (aQ E 8 pn (va_up gp i (some n))))) (n + 1) k pa re ki wa no pn (prx pr i n) hd (z_pan v i 0 0 20 0) b w 1 i (LK.empty hK hpa hpv hlt0 hi hpn ((if_neg (by decide)).trans ((if_neg (by decide)).trans ((if_neg (by decide)).trans ((if_neg (by decide)).trans (if_pos rfl))))) ((if_neg (by decide)).trans ((if_neg (by decide)).trans ((if_neg (by decide)).trans (if_pos rfl)))) ((if_neg (by decide)).trans ((if_neg (by decide)).trans (if_pos rfl))) ((if_neg (by decide)).trans (if_pos rfl)) (if_pos rfl)) (LSp.empty hs (by omega) (by omega) (by omega) (fun j hj => hlt0 _ _ (hrow j hj).choose_spec.1)) hpn (by decide) (by omega) (w_ok.pan hv (fun _ => ⟨hh_, 0, 0, 20, 0, hw0, rfl, rfl, rfl, rfl, ho1, (by omega), (by decide), (by decide), (by decide), (fun _ => rfl)⟩)).hot) (cwV 2 hts gX15_carryOut_X15_goBy rfl rfl rfl (by decide +kernel) ⟨(by show 0 + 1 ≤ x9 + 10; omega), (by show 8 + (4 + 11) + 0 ≤ y9 + 500; omega)⟩) (q_pV hA hW hS (ci := 15) rfl (q_ne (by omega) (q_ne (by omega) hk0))) rfl rfl hl.1 rfl (lv_room (Nat.le_of_ble_eq_true rfl)) dX15_carryOut_303 ⟨(by show _ ≤ 1 + z9; omega), (by show _ ≤ 20 * (1 + z9); omega)⟩) hS (fun f_303 n_303 H locs hp hW hS => ?_)
  obtain ⟨eK_303, en_303, hfr_303⟩ := hp
  obtain ⟨hk0_303, ⟨gk_303, hki_303, hkv_303⟩, ⟨gw_303, hwa_303, hwv_303⟩, ⟨gn_303, hno_303, hnv_303⟩, ⟨gp_303, hpa_303, hpv_303⟩, hrow_303⟩ := id eK_303
  refine lv_goto (tgt := 442) hx hb dX15_carryOut_306 (by decide) ?_
  have eS : k_empty pn i hd (v, b, w) = k_pass pn 1 i (z_pan v i 0 0 20 0, b, w) := rfl
  exact q_vret hx hb hr hlocks hW hS ⟨wa, no, prx pr i n, (by rw [eS]; exact eK_303), (LSp.empty hs (by omega) (by omega) (by omega) (fun j hj => hlt0 _ _ (hrow j hj).choose_spec.1)), PRN.empty, (by omega), (fun z9 g0 g1 g2 g3 g4 => (hfr_303 _ g0 (prx_off g3 g4) (by omega)).trans (q_ne g1 (q_ne (by omega) rfl)))⟩ (by show _ ≤ 1 + z9; omega) (by show _ ≤ 20 * (1 + z9); omega) dX15_carryOut_442

set_option maxHeartbeats 4000000 in
set_option maxRecDepth 100000 in
theorem kX15_carryOut_5 (l : Launch) (E : q_E) (f : q_H) (n : Nat) (x9 y9 z9 : Nat) (k pa re ki wa no pn : Nat) (pr : Nat → Nat) (hd v : q_V) (b : Nat) (w : Int32) (B : Nat) (a i y : Nat) (sg on ot blk el : Option Nat) (P : Nat → Prop) (D : q_D) (Wt : List Int32) (h0 : f a = some (cLA 5 (nI i) (some y) sg on ot blk el)) (hK : LK E f k pa re ki wa no pn pr hd v b w) (hs : LSp ki wa no pn pr) (hi : i < pn) (hpn : pn ≤ 8) (hv : w_ok pn hd v) (hB : B ≤ 2 ^ 29) (hI : k_inv1 B (v, b, w)) (hN : NODE pn P f 1 y D Wt) : Met l yX15_carryOut wsX15_carryOut ({ frames := x9 + 10, cells := 1 + z9, slots := 20 * (1 + z9), locals := y9 + 500 }) (q_P E [.ref k, .ref a] f n) (q_Qv E (fun f1 n1 => KB E f f1 n n1 k pa re ki pn pr hd (k_rest pn D hd (v, b, w)))) (1 + z9) (20 * (1 + z9)) (q_ge E) := by
  refine Met.ofW (cc := cX15_carryOut) (maxL := 7) (ret := none) (by decide) rfl ?_
  intro p0_ e0_ s0_ m0_ args0_ below0_ meth0_ c0_ s1_ B0_ hml hv
  obtain ⟨rfl, hA, hW⟩ := hv
  have hx := B0_.exec
  have hb := B0_.bytes
  have hr := B0_.returns
  have hts := atoms_spec (ws := wsX15_carryOut) B0_.pre
  have hown : s0_.vm.findClass RX15 = some m0_.cls := findClass_of_methodNamed B0_.named
  have hlocks := B0_.notSynchronized
  have hS : va_S (q_ge E) s0_.heap s0_.heap [] := va_S.rf
  have iX13 : ∀ w ∈ wsX130, w ∈ wsX15_carryOut := by decide +kernel
  have iX15 : ∀ w ∈ wsX150, w ∈ wsX15_carryOut := by decide +kernel
  have hl := lv_entry ([.ref k, .ref a]) (n := 7) (Nat.le_of_ble_eq_true rfl)
  rw [lg_entry_eq]
  generalize (lg_sl ([.ref k, .ref a]) ++ List.replicate (7 - (lg_sl ([.ref k, .ref a])).length) Slot.unset).toArray = ls at hl ⊢
  have hl : lv_has ls 7 [(0, .ref k), (1, .ref a)] := hl
  obtain ⟨hk0, ⟨gk, hki, hkv⟩, ⟨gw, hwa, hwv⟩, ⟨gn, hno, hnv⟩, ⟨gp, hpa, hpv⟩, hrow⟩ := id hK
  have l_k := hW.lt hk0
  have l_ki := hW.lt hki
  have l_wa := hW.lt hwa
  have l_no := hW.lt hno
  have l_pa := hW.lt hpa
  have l_h0 := hW.lt h0
  have hkp9 := ne_ab hk0 hpa
  have hak : a ≠ k := ne_ci h0 hk0 (by decide)
  have hapa : a ≠ pa := fun e => ne_ab h0 hpa e.symm
  have haki : a ≠ ki := fun e => ne_ab h0 hki e.symm
  have har : ∀ i, i < pn → a ≠ pr i := fun i hi e9 => by obtain ⟨gr9, e8, -⟩ := hrow i hi; rw [← e9, h0] at e8; cases e8
  obtain ⟨gr, hr_i, hg0, hg1, hg2, hg3, hg4⟩ := hrow i hi
  have l_r := hW.lt hr_i
  have hrk := hK.kr hi
  have har9 := har i hi
  have hi4 := hI.2.1.1
  have hi4b : k_T v < 2 ^ 30 := by have h8 := hI.1; have h9 := hI.2.1.2; have h8 : b ≤ 100 := h8; have h9 : k_T v + 101 ≤ B + b := h9; omega
  have hi5b : k_N v < 2 ^ 30 := by have h8 := hI.1; have h9 := hI.2.2.2; have h8 : b ≤ 100 := h8; have h9 : k_N v + 101 ≤ B + b := h9; omega
  obtain ⟨-, so, ky, xy, yy, hcy⟩ := hN.cell
  have l_y := hW.lt hcy
  obtain ⟨h6, hh6, hx6⟩ := clamp_600 (D hd v)
  refine lv_aload_n hx hb dX15_carryOut_0 rfl (lv_at hl 1 rfl) ?_
  refine q_get hx hb hts hown hA hW iX13 h0 rfl 0 (by decide) (hts (.fieldLink RX15 81 "HighRecipesLaw$Act" "does" "I") (by decide +kernel)) (fun _ h9 => h9) (v := .int 5) rfl dX15_carryOut_1 ?_
  refine lv_bipush (v := 7) hx hb dX15_carryOut_4 (by decide) ?_
  refine lv_icmp_ne (tgt := 13) hx hb dX15_carryOut_6 (by decide) (fun c_6 => ?_) (fun c_6 => absurd c_6 (by decide))
  refine lv_aload_n hx hb dX15_carryOut_13 rfl (lv_at hl 0 rfl) ?_
  refine q_get hx hb hts hown hA hW iX15 hk0 rfl 4 (by decide) (hts (.fieldLink RX15 18 "HighRecipesLaw$Kitchen" "pans" "[[I") (by decide +kernel)) (fun _ h9 => h9) (v := .ref pa) rfl dX15_carryOut_14 ?_
  refine lv_aload_n hx hb dX15_carryOut_17 rfl (lv_at hl 1 rfl) ?_
  refine q_get hx hb hts hown hA hW iX13 h0 rfl 1 (by decide) (hts (.fieldLink RX15 86 "HighRecipesLaw$Act" "whom" "I") (by decide +kernel)) (fun _ h9 => h9) (v := .int (nI i)) rfl dX15_carryOut_18 ?_
  refine q_aaldA hx hb hA hW 8 rfl hpa (vp_in_nI (by omega) (by omega)) dX15_carryOut_21 ?_
  rw [show gp (nI i).toNatClampNeg = some (pr i) from by rw [nI_clamp (by omega)]; exact hpv i (by omega)]
  refine lv_astore_n (lv' := [(2, .ref (pr i)), (0, .ref k), (1, .ref a)]) hx hb dX15_carryOut_22 rfl hl (by decide) rfl (fun ls hl => ?_)
  refine lv_aload_n hx hb dX15_carryOut_23 rfl (lv_at hl 2 rfl) ?_
  refine q_get hx hb hts hown hA hW iX13 h0 rfl 2 (by decide) (hts (.fieldLink RX15 89 "HighRecipesLaw$Act" "value" "LHighRecipesLaw$Node;") (by decide +kernel)) (fun _ h9 => h9) (v := .ref y) rfl dX15_carryOut_24 ?_
  refine lv_ifnonnull (tgt := 34) hx hb dX15_carryOut_27 (by decide) ?_
  refine lv_aload_n hx hb dX15_carryOut_34 rfl (lv_at hl 2 rfl) ?_
  refine q_get hx hb hts hown hA hW iX13 h0 rfl 2 (by decide) (hts (.fieldLink RX15 89 "HighRecipesLaw$Act" "value" "LHighRecipesLaw$Node;") (by decide +kernel)) (fun _ h9 => h9) (v := .ref y) rfl dX15_carryOut_35 ?_
  refine lv_aload_n hx hb dX15_carryOut_38 rfl (lv_at hl 1 rfl) ?_
  refine q_ci (va_runV (As := [.ref k]) (rest := []) ⟨hx, hb, hml, hown, hts⟩ (kX16_value_1 l E f n k pa re ki wa no pn pr hd v b w y P D Wt hN hpn hK) (cwV 1 hts gX15_carryOut_X16_value rfl rfl rfl (by decide +kernel) ⟨(by show 6 + 1 ≤ x9 + 10; omega), (by show 8 + (4 + 11) + 240 ≤ y9 + 500; omega)⟩) (q_pV hA hW hS (ci := 16) rfl hcy) rfl rfl hl.1 rfl (lv_room (Nat.le_of_ble_eq_true rfl)) dX15_carryOut_39 ⟨(by show _ ≤ 1 + z9; omega), (by show _ ≤ 20 * (1 + z9); omega)⟩) hS (fun r_39 f_39 n_39 H locs hp hW hS => ?_)
  obtain ⟨rfl, rfl, rfl⟩ := hp
  have hW : q_W E (f) n H := hW
  refine lv_istore_n (lv' := [(3, .int (D hd v)), (2, .ref (pr i)), (0, .ref k), (1, .ref a)]) hx hb dX15_carryOut_42 rfl hl (by decide) rfl (fun ls hl => ?_)
  refine lv_aload_n hx hb dX15_carryOut_43 rfl (lv_at hl 3 rfl) ?_
  refine q_get hx hb hts hown hA hW iX13 h0 rfl 0 (by decide) (hts (.fieldLink RX15 81 "HighRecipesLaw$Act" "does" "I") (by decide +kernel)) (fun _ h9 => h9) (v := .int 5) rfl dX15_carryOut_44 ?_
  refine lv_tableIn (x := 5) (off := 262) (tgt := 309) hx hb dX15_carryOut_47 (by decide) (by decide) (by decide) (by decide) ?_
  refine lv_aload_n hx hb dX15_carryOut_309 rfl (lv_at hl 2 rfl) ?_
  refine lv_iload_n hx hb dX15_carryOut_310 rfl (lv_at hl 0 rfl) ?_
  refine lv_sipush (v := 600) hx hb dX15_carryOut_311 (by decide) ?_
  refine q_ci (va_runS (As := [.int (D hd v), .int 600]) (rest := [.ref k]) ⟨hx, hb, hml, hown, hts⟩ (kX15_held l E f n (D hd v) 600 (by decide)) (va_cwS 2 hts gX15_carryOut_X15_held rfl rfl rfl (by decide +kernel) ⟨(by show 0 + 1 ≤ x9 + 10; omega), (by show 8 + (2 + 11) + 0 ≤ y9 + 500; omega)⟩) (q_pS hA hW hS) rfl rfl hl.1 rfl (lv_room (Nat.le_of_ble_eq_true rfl)) dX15_carryOut_314 ⟨(by show _ ≤ 1 + z9; omega), (by show _ ≤ 20 * (1 + z9); omega)⟩) hS (fun r_314 f_314 n_314 H locs hp hW hS => ?_)
  obtain ⟨rfl, rfl, rfl⟩ := hp
  have hW : q_W E (f) n H := hW
  rw [hx6]
  refine lv_iconst (v := (-1)) hx hb dX15_carryOut_317 (by decide) ?_
  refine q_cv (va_runV (As := [.int (nI h6), .int (-1)]) (rest := []) ⟨hx, hb, hml, hown, hts⟩ (kX15_goByN l E f n k pa re ki wa no pn pr hd v b w h6 hK hs hpn (by omega) hv.hot) (cwV 2 hts gX15_carryOut_X15_goBy rfl rfl rfl (by decide +kernel) ⟨(by show 0 + 1 ≤ x9 + 10; omega), (by show 8 + (4 + 11) + 0 ≤ y9 + 500; omega)⟩) (q_pV hA hW hS (ci := 15) rfl hk0) rfl rfl hl.1 rfl (lv_room (Nat.le_of_ble_eq_true rfl)) dX15_carryOut_318 ⟨(by show _ ≤ 1 + z9; omega), (by show _ ≤ 20 * (1 + z9); omega)⟩) hS (fun f_318 n_318 H locs hp hW hS => ?_)
  obtain ⟨eK_318, en_318, hfr_318⟩ := hp
  have ha_318 : f_318 a = some (cLA 5 (nI i) (some y) sg on ot blk el) := (hfr_318 _ hak har (by omega)).trans h0
  obtain ⟨hk0_318, ⟨gk_318, hki_318, hkv_318⟩, ⟨gw_318, hwa_318, hwv_318⟩, ⟨gn_318, hno_318, hnv_318⟩, ⟨gp_318, hpa_318, hpv_318⟩, hrow_318⟩ := id eK_318
  refine lv_goto (tgt := 442) hx hb dX15_carryOut_321 (by decide) ?_
  have eS : k_rest pn D hd (v, b, w) = k_pass pn (nI h6) 8 (v, b, w) := by
    show k_pass pn (q_clamp (D hd v) 0 600) 8 (v, b, w) = _
    rw [hx6]
  exact q_vret hx hb hr hlocks hW hS ⟨wa, no, pr, (by rw [eS]; exact eK_318), hs, PRN.rf, (by omega), (fun z9 g0 g1 g2 g3 g4 => ((hfr_318 _ g0 g3 (by omega)).trans rfl))⟩ (by show _ ≤ 1 + z9; omega) (by show _ ≤ 20 * (1 + z9); omega) dX15_carryOut_442

set_option maxHeartbeats 4000000 in
set_option maxRecDepth 100000 in
theorem kX15_carryOut_6 (l : Launch) (E : q_E) (f : q_H) (n : Nat) (x9 y9 z9 : Nat) (k pa re ki wa no pn : Nat) (pr : Nat → Nat) (hd v : q_V) (b : Nat) (w : Int32) (B : Nat) (a i y : Nat) (sg on ot blk el : Option Nat) (P : Nat → Prop) (D : q_D) (Wt : List Int32) (h0 : f a = some (cLA 6 (nI i) (some y) sg on ot blk el)) (hK : LK E f k pa re ki wa no pn pr hd v b w) (hs : LSp ki wa no pn pr) (hi : i < pn) (hpn : pn ≤ 8) (hv : w_ok pn hd v) (hB : B ≤ 2 ^ 29) (hI : k_inv1 B (v, b, w)) (hN : NODE pn P f 1 y D Wt) : Met l yX15_carryOut wsX15_carryOut ({ frames := x9 + 10, cells := 1 + z9, slots := 20 * (1 + z9), locals := y9 + 500 }) (q_P E [.ref k, .ref a] f n) (q_Qv E (fun f1 n1 => KB E f f1 n n1 k pa re ki pn pr hd (k_note D hd (v, b, w)))) (1 + z9) (20 * (1 + z9)) (q_ge E) := by
  refine Met.ofW (cc := cX15_carryOut) (maxL := 7) (ret := none) (by decide) rfl ?_
  intro p0_ e0_ s0_ m0_ args0_ below0_ meth0_ c0_ s1_ B0_ hml hv
  obtain ⟨rfl, hA, hW⟩ := hv
  have hx := B0_.exec
  have hb := B0_.bytes
  have hr := B0_.returns
  have hts := atoms_spec (ws := wsX15_carryOut) B0_.pre
  have hown : s0_.vm.findClass RX15 = some m0_.cls := findClass_of_methodNamed B0_.named
  have hlocks := B0_.notSynchronized
  have hS : va_S (q_ge E) s0_.heap s0_.heap [] := va_S.rf
  have iX13 : ∀ w ∈ wsX130, w ∈ wsX15_carryOut := by decide +kernel
  have iX15 : ∀ w ∈ wsX150, w ∈ wsX15_carryOut := by decide +kernel
  have hl := lv_entry ([.ref k, .ref a]) (n := 7) (Nat.le_of_ble_eq_true rfl)
  rw [lg_entry_eq]
  generalize (lg_sl ([.ref k, .ref a]) ++ List.replicate (7 - (lg_sl ([.ref k, .ref a])).length) Slot.unset).toArray = ls at hl ⊢
  have hl : lv_has ls 7 [(0, .ref k), (1, .ref a)] := hl
  obtain ⟨hk0, ⟨gk, hki, hkv⟩, ⟨gw, hwa, hwv⟩, ⟨gn, hno, hnv⟩, ⟨gp, hpa, hpv⟩, hrow⟩ := id hK
  have l_k := hW.lt hk0
  have l_ki := hW.lt hki
  have l_wa := hW.lt hwa
  have l_no := hW.lt hno
  have l_pa := hW.lt hpa
  have l_h0 := hW.lt h0
  have hkp9 := ne_ab hk0 hpa
  have hak : a ≠ k := ne_ci h0 hk0 (by decide)
  have hapa : a ≠ pa := fun e => ne_ab h0 hpa e.symm
  have haki : a ≠ ki := fun e => ne_ab h0 hki e.symm
  have har : ∀ i, i < pn → a ≠ pr i := fun i hi e9 => by obtain ⟨gr9, e8, -⟩ := hrow i hi; rw [← e9, h0] at e8; cases e8
  obtain ⟨gr, hr_i, hg0, hg1, hg2, hg3, hg4⟩ := hrow i hi
  have l_r := hW.lt hr_i
  have hrk := hK.kr hi
  have har9 := har i hi
  have hi4 := hI.2.1.1
  have hi4b : k_T v < 2 ^ 30 := by have h8 := hI.1; have h9 := hI.2.1.2; have h8 : b ≤ 100 := h8; have h9 : k_T v + 101 ≤ B + b := h9; omega
  have hi5b : k_N v < 2 ^ 30 := by have h8 := hI.1; have h9 := hI.2.2.2; have h8 : b ≤ 100 := h8; have h9 : k_N v + 101 ≤ B + b := h9; omega
  obtain ⟨-, so, ky, xy, yy, hcy⟩ := hN.cell
  have l_y := hW.lt hcy
  have hlt0 : ∀ q x, f q = some x → q < n := fun q x h => hW.lt h
  have hi5 := hI.2.2.1
  refine lv_aload_n hx hb dX15_carryOut_0 rfl (lv_at hl 1 rfl) ?_
  refine q_get hx hb hts hown hA hW iX13 h0 rfl 0 (by decide) (hts (.fieldLink RX15 81 "HighRecipesLaw$Act" "does" "I") (by decide +kernel)) (fun _ h9 => h9) (v := .int 6) rfl dX15_carryOut_1 ?_
  refine lv_bipush (v := 7) hx hb dX15_carryOut_4 (by decide) ?_
  refine lv_icmp_ne (tgt := 13) hx hb dX15_carryOut_6 (by decide) (fun c_6 => ?_) (fun c_6 => absurd c_6 (by decide))
  refine lv_aload_n hx hb dX15_carryOut_13 rfl (lv_at hl 0 rfl) ?_
  refine q_get hx hb hts hown hA hW iX15 hk0 rfl 4 (by decide) (hts (.fieldLink RX15 18 "HighRecipesLaw$Kitchen" "pans" "[[I") (by decide +kernel)) (fun _ h9 => h9) (v := .ref pa) rfl dX15_carryOut_14 ?_
  refine lv_aload_n hx hb dX15_carryOut_17 rfl (lv_at hl 1 rfl) ?_
  refine q_get hx hb hts hown hA hW iX13 h0 rfl 1 (by decide) (hts (.fieldLink RX15 86 "HighRecipesLaw$Act" "whom" "I") (by decide +kernel)) (fun _ h9 => h9) (v := .int (nI i)) rfl dX15_carryOut_18 ?_
  refine q_aaldA hx hb hA hW 8 rfl hpa (vp_in_nI (by omega) (by omega)) dX15_carryOut_21 ?_
  rw [show gp (nI i).toNatClampNeg = some (pr i) from by rw [nI_clamp (by omega)]; exact hpv i (by omega)]
  refine lv_astore_n (lv' := [(2, .ref (pr i)), (0, .ref k), (1, .ref a)]) hx hb dX15_carryOut_22 rfl hl (by decide) rfl (fun ls hl => ?_)
  refine lv_aload_n hx hb dX15_carryOut_23 rfl (lv_at hl 2 rfl) ?_
  refine q_get hx hb hts hown hA hW iX13 h0 rfl 2 (by decide) (hts (.fieldLink RX15 89 "HighRecipesLaw$Act" "value" "LHighRecipesLaw$Node;") (by decide +kernel)) (fun _ h9 => h9) (v := .ref y) rfl dX15_carryOut_24 ?_
  refine lv_ifnonnull (tgt := 34) hx hb dX15_carryOut_27 (by decide) ?_
  refine lv_aload_n hx hb dX15_carryOut_34 rfl (lv_at hl 2 rfl) ?_
  refine q_get hx hb hts hown hA hW iX13 h0 rfl 2 (by decide) (hts (.fieldLink RX15 89 "HighRecipesLaw$Act" "value" "LHighRecipesLaw$Node;") (by decide +kernel)) (fun _ h9 => h9) (v := .ref y) rfl dX15_carryOut_35 ?_
  refine lv_aload_n hx hb dX15_carryOut_38 rfl (lv_at hl 1 rfl) ?_
  refine q_ci (va_runV (As := [.ref k]) (rest := []) ⟨hx, hb, hml, hown, hts⟩ (kX16_value_1 l E f n k pa re ki wa no pn pr hd v b w y P D Wt hN hpn hK) (cwV 1 hts gX15_carryOut_X16_value rfl rfl rfl (by decide +kernel) ⟨(by show 6 + 1 ≤ x9 + 10; omega), (by show 8 + (4 + 11) + 240 ≤ y9 + 500; omega)⟩) (q_pV hA hW hS (ci := 16) rfl hcy) rfl rfl hl.1 rfl (lv_room (Nat.le_of_ble_eq_true rfl)) dX15_carryOut_39 ⟨(by show _ ≤ 1 + z9; omega), (by show _ ≤ 20 * (1 + z9); omega)⟩) hS (fun r_39 f_39 n_39 H locs hp hW hS => ?_)
  obtain ⟨rfl, rfl, rfl⟩ := hp
  have hW : q_W E (f) n H := hW
  refine lv_istore_n (lv' := [(3, .int (D hd v)), (2, .ref (pr i)), (0, .ref k), (1, .ref a)]) hx hb dX15_carryOut_42 rfl hl (by decide) rfl (fun ls hl => ?_)
  refine lv_aload_n hx hb dX15_carryOut_43 rfl (lv_at hl 3 rfl) ?_
  refine q_get hx hb hts hown hA hW iX13 h0 rfl 0 (by decide) (hts (.fieldLink RX15 81 "HighRecipesLaw$Act" "does" "I") (by decide +kernel)) (fun _ h9 => h9) (v := .int 6) rfl dX15_carryOut_44 ?_
  refine lv_tableIn (x := 6) (off := 277) (tgt := 324) hx hb dX15_carryOut_47 (by decide) (by decide) (by decide) (by decide) ?_
  refine lv_aload_n hx hb dX15_carryOut_324 rfl (lv_at hl 2 rfl) ?_
  refine lv_aload_n hx hb dX15_carryOut_325 rfl (lv_at hl 2 rfl) ?_
  refine q_get hx hb hts hown hA hW iX15 hk0 rfl 8 (by decide) (hts (.fieldLink RX15 34 "HighRecipesLaw$Kitchen" "noted" "[I") (by decide +kernel)) (fun _ h9 => h9) (v := .ref no) rfl dX15_carryOut_326 ?_
  refine lv_iload_n hx hb dX15_carryOut_329 rfl (lv_at hl 0 rfl) ?_
  refine q_cq (va_runS (As := [.ref no, .int (D hd v)]) (rest := [.ref k]) ⟨hx, hb, hml, hown, hts⟩ (kX15_ahead l E f n no (min (k_N v) 20) (D hd v) gn hno (by omega)) (va_cwS 2 hts gX15_carryOut_X15_ahead rfl rfl rfl (by decide +kernel) ⟨(by show 0 + 1 ≤ x9 + 10; omega), (by show 8 + (4 + 11) + 0 ≤ y9 + 500; omega)⟩) (q_pS hA hW hS) rfl rfl hl.1 rfl (lv_room (Nat.le_of_ble_eq_true rfl)) dX15_carryOut_330 ⟨(by show _ ≤ 1 + z9; omega), (by show _ ≤ 20 * (1 + z9); omega)⟩) hS (fun r_330 f_330 n_330 H locs hp hW hS => ?_)
  obtain ⟨g1_330, rfl, e0_330, eg0_330, eg_330, en_330, hfr_330⟩ := hp
  have l_e0_330 := hW.lt e0_330
  have ha_330 : f_330 a = some (cLA 6 (nI i) (some y) sg on ot blk el) := (hfr_330 _ (by omega)).trans h0
  have hk_330 : f_330 k = some (cLK (v 0) (v 1) (v 2) (v 3) (some pa) (some re) (some ki) (some wa) (some no) (v 5) (nI b) w) := (hfr_330 _ (by omega)).trans hk0
  have hki_330 : f_330 ki = some (aI E 6 gk) := (hfr_330 _ (by omega)).trans hki
  have hwa_330 : f_330 wa = some (aI E (min (k_T v) 20) gw) := (hfr_330 _ (by omega)).trans hwa
  have hno_330 : f_330 no = some (aI E (min (k_N v) 20) gn) := (hfr_330 _ (by omega)).trans hno
  have hpa_330 : f_330 pa = some (aQ E 8 pn gp) := (hfr_330 _ (by omega)).trans hpa
  have hpr_i_330 : f_330 (pr i) = some (aI E 5 gr) := (hfr_330 _ (by omega)).trans hr_i
  have hy_330 : f_330 y = some (cNode so ky xy yy) := (hfr_330 _ (by omega)).trans hcy
  refine q_put hx hb hts hown hA hW hS iX15 tyX15 tyX15_ok nmX15 hk_330 rfl 8 (by decide) (hts (.fieldLink RX15 34 "HighRecipesLaw$Kitchen" "noted" "[I") (by decide +kernel)) (fun _ h9 => h9) rfl rfl rfl (Nat.le_of_ble_eq_true rfl) dX15_carryOut_333 (fun H locs hW hS => ?_)
  have hW : q_W E (va_up f_330 k (some (cLK (v 0) (v 1) (v 2) (v 3) (some pa) (some re) (some ki) (some wa) (some n) (v 5) (nI b) w))) n_330 H := hW
  refine lv_aload_n hx hb dX15_carryOut_336 rfl (lv_at hl 2 rfl) ?_
  refine lv_dup hx hb dX15_carryOut_337 rfl ?_
  refine q_get hx hb hts hown hA hW iX15 q_eq rfl 9 (by decide) (hts (.fieldLink RX15 48 "HighRecipesLaw$Kitchen" "notes" "I") (by decide +kernel)) (fun _ h9 => h9) (v := .int (v 5)) rfl dX15_carryOut_338 ?_
  refine lv_iconst (v := 1) hx hb dX15_carryOut_341 (by decide) ?_
  refine lv_iadd hx hb dX15_carryOut_342 ?_
  refine q_put hx hb hts hown hA hW hS iX15 tyX15 tyX15_ok nmX15 q_eq rfl 9 (by decide) (hts (.fieldLink RX15 48 "HighRecipesLaw$Kitchen" "notes" "I") (by decide +kernel)) (fun _ h9 => h9) rfl rfl rfl (Nat.le_of_ble_eq_true rfl) dX15_carryOut_343 (fun H locs hW hS => ?_)
  rw [q_upup] at hW
  have hW : q_W E (va_up f_330 k (some (cLK (v 0) (v 1) (v 2) (v 3) (some pa) (some re) (some ki) (some wa) (some n) ((v 5) + 1) (nI b) w))) n_330 H := hW
  refine lv_goto (tgt := 442) hx hb dX15_carryOut_346 (by decide) ?_
  have eS : k_note D hd (v, b, w) = (z_note v (k_N v) (D hd v), b, w) := rfl
  exact q_vret hx hb hr hlocks hW hS ⟨wa, n, pr, (by rw [eS]; exact LK.note hK hnv hi5 hi5b (fun q y h8 h7 => (q_ne h7 ((hfr_330 _ (hlt0 _ _ h8)).trans h8))) q_eq (q_ne (by omega) e0_330) eg0_330 eg_330), ⟨hs.1, (by omega), (fun j hj => ⟨(hs.2.2.1 j hj).1, (hs.2.2.1 j hj).2.1, (by have := hlt0 _ _ (hrow j hj).choose_spec.1; omega)⟩), hs.2.2.2⟩, PRN.rf, (by omega), (fun z9 g0 g1 g2 g3 g4 => (q_ne g0 ((hfr_330 _ (by omega)).trans rfl)))⟩ (by show _ ≤ 1 + z9; omega) (by show _ ≤ 20 * (1 + z9); omega) dX15_carryOut_442

