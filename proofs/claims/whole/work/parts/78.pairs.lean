/-! pairs of calls -/
theorem o_at {og : Nat → Int64} {x : Int64} : vp_updL og 0 x 0 = x := by simp [vp_updL]
theorem k_inv_end {B : Nat} {s : q_KS} (h : k_inv B s) : k_inv (B + 100) (s.1, 0, (-1)) := by
  obtain ⟨h1, ⟨h2, h3⟩, h4, h5⟩ := h
  refine ⟨Nat.zero_le _, ⟨h2, ?_⟩, h4, ?_⟩
  · show k_T s.1 + 100 ≤ B + 100 + 0
    omega
  · show k_N s.1 + 100 ≤ B + 100 + 0
    omega
theorem k_inv_k {B : Nat} {v w : q_V} (h : k_inv B (v, 0, (-1))) (h4 : w 4 = v 4) (h5 : w 5 = v 5) : k_inv B (w, 0, (-1)) := k_inv_same (s' := (w, 0, (-1))) h h4 h5 rfl
theorem z_hot_eq {v v' : q_V} : ∀ (pn : Nat), (∀ i, i < pn → v (54 + 4 * i) = v' (54 + 4 * i)) → z_hot v pn = z_hot v' pn
  | 0, _ => rfl
  | j + 1, h => by
    unfold z_hot
    rw [h j (by omega), z_hot_eq j (fun i hI => h i (by omega))]
theorem z_sum_eq {v v' : q_V} : ∀ (pn : Nat), (∀ i, i < pn → v (54 + 4 * i) = v' (54 + 4 * i)) → z_sum v pn = z_sum v' pn
  | 0, _ => rfl
  | j + 1, h => by
    unfold z_sum
    rw [h j (by omega), z_sum_eq j (fun i hI => h i (by omega))]
theorem v_ok_up2 {pn k : Nat} {hd v : q_V} (h : v_ok pn hd v) (h1 : 1 ≤ k) (h2 : k ≤ 10) : v_ok pn hd (upd v 2 (nI k)) := by
  obtain ⟨h0, -, hq⟩ := h
  refine ⟨by rw [z_un (by decide)]; exact h0, ⟨k, h1, h2, z_us⟩, fun i hI => ?_⟩
  rw [z_un (by omega), z_un (by omega)]
  exact hq i hI
theorem v_rel_u2 {pn : Nat} {hd hd' v v' : q_V} {x : Int32} (h : v_rel pn hd hd' v v') : v_rel pn hd hd' (upd v 2 x) (upd v' 2 x) := by
  obtain ⟨h1, h2, h3⟩ := h
  refine ⟨h1, fun q hq => ?_, fun i hI => ?_⟩
  · by_cases e : q = 2
    · subst e
      rw [z_us, z_us]
    · rw [z_un e, z_un e]
      exact h2 q hq
  · rw [z_un (by omega), z_un (by omega), z_un (by omega), z_un (by omega), z_un (by omega), z_un (by omega), z_un (by omega), z_un (by omega)]
    exact h3 i hI
theorem z_best_eq {F G : Nat → Bool} (h : ∀ i, F i = G i) {k : Nat} : z_best F k = z_best G k := by rw [show F = G from funext h]
theorem z_best1_eq {F G : Nat → Bool} (h : ∀ i, F i = G i) {k : Nat} : z_best1 F k = z_best1 G k := by rw [show F = G from funext h]
theorem dec_eq {a b c d : Int32} (h1 : a = c) (h2 : b = d) : decide (a = b) = decide (c = d) := by rw [h1, h2]

set_option maxHeartbeats 1000000 in
theorem P_holdsOf (l : Launch) (E : q_E) (a BB : Nat) (f : q_H) (n : Nat) (hst : l.stackTraces = false) (hB : BB ≤ 2 ^ 29) (hJ : JJ E a BB f n) (x1 : Int32) : PAIR l E a (JJ E a (BB + 100)) yL_holdsOf wsL_holdsOf yX14_holdsOf wsX14_holdsOf [.int x1] f n := by
  obtain ⟨ep, L, g, bk0, et, er0, c0, here0, k0, kk0, po0, wo0, b0, w0, b1, w1, bk, pn, rc, ac, gB, hd, v, bt, hdt, vt, lo, hi, RS, r, og, hF, hQ, hM, hO⟩ := hJ
  have hF0 := hF
  obtain ⟨c1, c2, c3, c4, c5, c6, c7, c8, c9, c10, c12, c13, k1, k2, s1⟩ := hF0
  have hQ0 := hQ
  obtain ⟨p1, p2, p3, p4, p5, p6, p7, p8, i1, i2, r1, r2, r3, r4, r5, r6, r7, r8, r9⟩ := hQ0
  by_cases h : ∃ i, i < pn ∧ x1 = nI i
  · obtain ⟨i, hI, rfl⟩ := h
    refine ⟨0, _, _, _, _, _, (by omega), (by omega), (by omega), (by omega), kL_holdsOf l E f n a (a + 99) _ _ _ _ _ _ _ (nI i) _ _ _ _ (hd i) _ og c1 (kX12_holdsOf l E f n (hX := c1) (hB := c12) (hk := k1) (hbo := (by unfold kOut; omega)) (hxo := (by unfold kOut; omega)) (hpn := p2) (hrc := p3) (i := i) (hi := hI)) ?_, ?_⟩
    · rintro f9 n9 ⟨rfl, rfl⟩
      exact hO
    rintro f1 n1 ⟨f9, ⟨rfl, rfl⟩, rfl⟩
    have hm1 : RM E (va_up (f) (a + 99) (some (aJ E 1 (vp_updL og 0 (hd i).toInt64)))) (a + 55) r := hM.other (fun q h1 h2 => (va_up_ne _ _ (by omega)).trans rfl)
    have jf1 : JF E a (f) ep L g bk0 et er0 c0 here0 k0 kk0 po0 wo0 b0 w0 b1 w1 bk pn rc ac gB hd v bt hdt vt lo hi RS := hF
    refine ⟨_, _, _, _, _, _, (by omega), (by omega), (by omega), (by omega), kX14_holdsOf l E _ _ (a + 55) (r := r) (hm := hm1) (pn := pn) (i := i) (hpn9 := r1) (hpn := p2) (hi := hI), ⟨_, _, _, _, _, _, _, (va_up_ne _ _ (by omega)).trans jf1.1⟩, ⟨r, hm1⟩, ?_⟩
    rintro f2 n2 ⟨rfl, rfl⟩
    exact ⟨_, _, rO_K, rfl, (rO_out (by omega)).trans q_eq, fun _ => by rw [o_at, show (hd i) = (r 9) i from r8.1 i hI], ⟨ep, L, g, bk0, et, er0, c0, here0, k0, kk0, po0, wo0, b0, w0, b1, w1, bk, pn, rc, ac, gB, hd, v, bt, hdt, vt, lo, hi, RS, _, _, jf1.frame (n := n) (fun q hq => (rO_out (by omega)).trans (va_up_ne _ _ (by omega))) p4 p7 p5 p6, ((hQ.row (j := 100) (x := fun _ => 0) (Nat.le_refl _) (by decide)).le (by omega) (Nat.le_refl _)), rO_K, (rO_out (by omega)).trans q_eq⟩⟩
  · have hno := idx_no h
    refine ⟨1, _, _, _, _, _, (by omega), (by omega), (by omega), (by omega), kL_holdsOf_X l E f n a (a + 99) _ _ _ _ _ _ _ x1 _ _ _ _ c1 (kX12_holdsOf_X l E f n (hX := c1) (hB := c12) (hk := k1) (hbo := (by unfold kOut; omega)) (hxo := (by unfold kOut; omega)) (hpn := p2) (hrc := p3) (hst := hst) (hno := hno)), ?_⟩
    rintro f1 n1 ⟨rfl, hn9⟩
    refine ⟨_, _, _, _, _, _, (by omega), (by omega), (by omega), (by omega), kX14_holdsOf_F l E _ _ (a + 55) (r := r) (hm := hM) (pn := pn) (hpn9 := r1) (hpn := p2) (hno := hno), ⟨_, _, _, _, _, _, _, c1⟩, ⟨r, hM⟩, ?_⟩
    rintro f2 n2 ⟨rfl, rfl⟩
    exact ⟨_, og, rO_K, rfl, (rO_out (by omega)).trans hO, fun h9 => absurd h9 (by decide), ⟨ep, L, g, bk0, et, er0, c0, here0, k0, kk0, po0, wo0, b0, w0, b1, w1, bk, pn, rc, ac, gB, hd, v, bt, hdt, vt, lo, hi, RS, _, og, hF.frame (n := n) (fun q hq => rO_out (by omega)) p4 p7 p5 p6, (hQ.row (j := 100) (x := fun _ => 1) hn9 (by decide)).le (by omega) (Nat.le_refl _), rO_K, (rO_out (by omega)).trans hO⟩⟩

set_option maxHeartbeats 1000000 in
theorem P_waterIn (l : Launch) (E : q_E) (a BB : Nat) (f : q_H) (n : Nat) (hst : l.stackTraces = false) (hB : BB ≤ 2 ^ 29) (hJ : JJ E a BB f n) (x1 : Int32) : PAIR l E a (JJ E a (BB + 100)) yL_waterIn wsL_waterIn yX14_waterIn wsX14_waterIn [.int x1] f n := by
  obtain ⟨ep, L, g, bk0, et, er0, c0, here0, k0, kk0, po0, wo0, b0, w0, b1, w1, bk, pn, rc, ac, gB, hd, v, bt, hdt, vt, lo, hi, RS, r, og, hF, hQ, hM, hO⟩ := hJ
  have hF0 := hF
  obtain ⟨c1, c2, c3, c4, c5, c6, c7, c8, c9, c10, c12, c13, k1, k2, s1⟩ := hF0
  have hQ0 := hQ
  obtain ⟨p1, p2, p3, p4, p5, p6, p7, p8, i1, i2, r1, r2, r3, r4, r5, r6, r7, r8, r9⟩ := hQ0
  by_cases h : ∃ i, i < pn ∧ x1 = nI i
  · obtain ⟨i, hI, rfl⟩ := h
    refine ⟨0, _, _, _, _, _, (by omega), (by omega), (by omega), (by omega), kL_waterIn l E f n a (a + 99) _ _ _ _ _ _ _ (nI i) _ _ _ _ (v (52 + 4 * i)) _ og c1 (kX12_waterIn l E f n (hX := c1) (hB := c12) (hk := k1) (hbo := (by unfold kOut; omega)) (hxo := (by unfold kOut; omega)) (hpn := p2) (hrc := p3) (i := i) (hi := hI)) ?_, ?_⟩
    · rintro f9 n9 ⟨rfl, rfl⟩
      exact hO
    rintro f1 n1 ⟨f9, ⟨rfl, rfl⟩, rfl⟩
    have hm1 : RM E (va_up (f) (a + 99) (some (aJ E 1 (vp_updL og 0 (v (52 + 4 * i)).toInt64)))) (a + 55) r := hM.other (fun q h1 h2 => (va_up_ne _ _ (by omega)).trans rfl)
    have jf1 : JF E a (f) ep L g bk0 et er0 c0 here0 k0 kk0 po0 wo0 b0 w0 b1 w1 bk pn rc ac gB hd v bt hdt vt lo hi RS := hF
    refine ⟨_, _, _, _, _, _, (by omega), (by omega), (by omega), (by omega), kX14_waterIn l E _ _ (a + 55) (r := r) (hm := hm1) (pn := pn) (i := i) (hpn9 := r1) (hpn := p2) (hi := hI), ⟨_, _, _, _, _, _, _, (va_up_ne _ _ (by omega)).trans jf1.1⟩, ⟨r, hm1⟩, ?_⟩
    rintro f2 n2 ⟨rfl, rfl⟩
    exact ⟨_, _, rO_K, rfl, (rO_out (by omega)).trans q_eq, fun _ => by rw [o_at, show (v (52 + 4 * i)) = (r 42) (52 + 4 * i) from (r8.2.2 i hI).1], ⟨ep, L, g, bk0, et, er0, c0, here0, k0, kk0, po0, wo0, b0, w0, b1, w1, bk, pn, rc, ac, gB, hd, v, bt, hdt, vt, lo, hi, RS, _, _, jf1.frame (n := n) (fun q hq => (rO_out (by omega)).trans (va_up_ne _ _ (by omega))) p4 p7 p5 p6, ((hQ.row (j := 100) (x := fun _ => 0) (Nat.le_refl _) (by decide)).le (by omega) (Nat.le_refl _)), rO_K, (rO_out (by omega)).trans q_eq⟩⟩
  · have hno := idx_no h
    refine ⟨1, _, _, _, _, _, (by omega), (by omega), (by omega), (by omega), kL_waterIn_X l E f n a (a + 99) _ _ _ _ _ _ _ x1 _ _ _ _ c1 (kX12_waterIn_X l E f n (hX := c1) (hB := c12) (hk := k1) (hbo := (by unfold kOut; omega)) (hxo := (by unfold kOut; omega)) (hpn := p2) (hrc := p3) (hst := hst) (hno := hno)), ?_⟩
    rintro f1 n1 ⟨rfl, hn9⟩
    refine ⟨_, _, _, _, _, _, (by omega), (by omega), (by omega), (by omega), kX14_waterIn_F l E _ _ (a + 55) (r := r) (hm := hM) (pn := pn) (hpn9 := r1) (hpn := p2) (hno := hno), ⟨_, _, _, _, _, _, _, c1⟩, ⟨r, hM⟩, ?_⟩
    rintro f2 n2 ⟨rfl, rfl⟩
    exact ⟨_, og, rO_K, rfl, (rO_out (by omega)).trans hO, fun h9 => absurd h9 (by decide), ⟨ep, L, g, bk0, et, er0, c0, here0, k0, kk0, po0, wo0, b0, w0, b1, w1, bk, pn, rc, ac, gB, hd, v, bt, hdt, vt, lo, hi, RS, _, og, hF.frame (n := n) (fun q hq => rO_out (by omega)) p4 p7 p5 p6, (hQ.row (j := 100) (x := fun _ => 1) hn9 (by decide)).le (by omega) (Nat.le_refl _), rO_K, (rO_out (by omega)).trans hO⟩⟩

set_option maxHeartbeats 1000000 in
theorem P_mealIn (l : Launch) (E : q_E) (a BB : Nat) (f : q_H) (n : Nat) (hst : l.stackTraces = false) (hB : BB ≤ 2 ^ 29) (hJ : JJ E a BB f n) (x1 : Int32) : PAIR l E a (JJ E a (BB + 100)) yL_mealIn wsL_mealIn yX14_mealIn wsX14_mealIn [.int x1] f n := by
  obtain ⟨ep, L, g, bk0, et, er0, c0, here0, k0, kk0, po0, wo0, b0, w0, b1, w1, bk, pn, rc, ac, gB, hd, v, bt, hdt, vt, lo, hi, RS, r, og, hF, hQ, hM, hO⟩ := hJ
  have hF0 := hF
  obtain ⟨c1, c2, c3, c4, c5, c6, c7, c8, c9, c10, c12, c13, k1, k2, s1⟩ := hF0
  have hQ0 := hQ
  obtain ⟨p1, p2, p3, p4, p5, p6, p7, p8, i1, i2, r1, r2, r3, r4, r5, r6, r7, r8, r9⟩ := hQ0
  by_cases h : ∃ i, i < pn ∧ x1 = nI i
  · obtain ⟨i, hI, rfl⟩ := h
    refine ⟨0, _, _, _, _, _, (by omega), (by omega), (by omega), (by omega), kL_mealIn l E f n a (a + 99) _ _ _ _ _ _ _ (nI i) _ _ _ _ (v (53 + 4 * i)) _ og c1 (kX12_mealIn l E f n (hX := c1) (hB := c12) (hk := k1) (hbo := (by unfold kOut; omega)) (hxo := (by unfold kOut; omega)) (hpn := p2) (hrc := p3) (i := i) (hi := hI)) ?_, ?_⟩
    · rintro f9 n9 ⟨rfl, rfl⟩
      exact hO
    rintro f1 n1 ⟨f9, ⟨rfl, rfl⟩, rfl⟩
    have hm1 : RM E (va_up (f) (a + 99) (some (aJ E 1 (vp_updL og 0 (v (53 + 4 * i)).toInt64)))) (a + 55) r := hM.other (fun q h1 h2 => (va_up_ne _ _ (by omega)).trans rfl)
    have jf1 : JF E a (f) ep L g bk0 et er0 c0 here0 k0 kk0 po0 wo0 b0 w0 b1 w1 bk pn rc ac gB hd v bt hdt vt lo hi RS := hF
    refine ⟨_, _, _, _, _, _, (by omega), (by omega), (by omega), (by omega), kX14_mealIn l E _ _ (a + 55) (r := r) (hm := hm1) (pn := pn) (i := i) (hpn9 := r1) (hpn := p2) (hi := hI), ⟨_, _, _, _, _, _, _, (va_up_ne _ _ (by omega)).trans jf1.1⟩, ⟨r, hm1⟩, ?_⟩
    rintro f2 n2 ⟨rfl, rfl⟩
    exact ⟨_, _, rO_K, rfl, (rO_out (by omega)).trans q_eq, fun _ => by rw [o_at, show (v (53 + 4 * i)) = (r 42) (53 + 4 * i) from (r8.2.2 i hI).2.1], ⟨ep, L, g, bk0, et, er0, c0, here0, k0, kk0, po0, wo0, b0, w0, b1, w1, bk, pn, rc, ac, gB, hd, v, bt, hdt, vt, lo, hi, RS, _, _, jf1.frame (n := n) (fun q hq => (rO_out (by omega)).trans (va_up_ne _ _ (by omega))) p4 p7 p5 p6, ((hQ.row (j := 100) (x := fun _ => 0) (Nat.le_refl _) (by decide)).le (by omega) (Nat.le_refl _)), rO_K, (rO_out (by omega)).trans q_eq⟩⟩
  · have hno := idx_no h
    refine ⟨1, _, _, _, _, _, (by omega), (by omega), (by omega), (by omega), kL_mealIn_X l E f n a (a + 99) _ _ _ _ _ _ _ x1 _ _ _ _ c1 (kX12_mealIn_X l E f n (hX := c1) (hB := c12) (hk := k1) (hbo := (by unfold kOut; omega)) (hxo := (by unfold kOut; omega)) (hpn := p2) (hrc := p3) (hst := hst) (hno := hno)), ?_⟩
    rintro f1 n1 ⟨rfl, hn9⟩
    refine ⟨_, _, _, _, _, _, (by omega), (by omega), (by omega), (by omega), kX14_mealIn_F l E _ _ (a + 55) (r := r) (hm := hM) (pn := pn) (hpn9 := r1) (hpn := p2) (hno := hno), ⟨_, _, _, _, _, _, _, c1⟩, ⟨r, hM⟩, ?_⟩
    rintro f2 n2 ⟨rfl, rfl⟩
    exact ⟨_, og, rO_K, rfl, (rO_out (by omega)).trans hO, fun h9 => absurd h9 (by decide), ⟨ep, L, g, bk0, et, er0, c0, here0, k0, kk0, po0, wo0, b0, w0, b1, w1, bk, pn, rc, ac, gB, hd, v, bt, hdt, vt, lo, hi, RS, _, og, hF.frame (n := n) (fun q hq => rO_out (by omega)) p4 p7 p5 p6, (hQ.row (j := 100) (x := fun _ => 1) hn9 (by decide)).le (by omega) (Nat.le_refl _), rO_K, (rO_out (by omega)).trans hO⟩⟩

set_option maxHeartbeats 1000000 in
theorem P_heatOf (l : Launch) (E : q_E) (a BB : Nat) (f : q_H) (n : Nat) (hst : l.stackTraces = false) (hB : BB ≤ 2 ^ 29) (hJ : JJ E a BB f n) (x1 : Int32) : PAIR l E a (JJ E a (BB + 100)) yL_heatOf wsL_heatOf yX14_heatOf wsX14_heatOf [.int x1] f n := by
  obtain ⟨ep, L, g, bk0, et, er0, c0, here0, k0, kk0, po0, wo0, b0, w0, b1, w1, bk, pn, rc, ac, gB, hd, v, bt, hdt, vt, lo, hi, RS, r, og, hF, hQ, hM, hO⟩ := hJ
  have hF0 := hF
  obtain ⟨c1, c2, c3, c4, c5, c6, c7, c8, c9, c10, c12, c13, k1, k2, s1⟩ := hF0
  have hQ0 := hQ
  obtain ⟨p1, p2, p3, p4, p5, p6, p7, p8, i1, i2, r1, r2, r3, r4, r5, r6, r7, r8, r9⟩ := hQ0
  by_cases h : ∃ i, i < pn ∧ x1 = nI i
  · obtain ⟨i, hI, rfl⟩ := h
    refine ⟨0, _, _, _, _, _, (by omega), (by omega), (by omega), (by omega), kL_heatOf l E f n a (a + 99) _ _ _ _ _ _ _ (nI i) _ _ _ _ (v (54 + 4 * i)) _ og c1 (kX12_heatOf l E f n (hX := c1) (hB := c12) (hk := k1) (hbo := (by unfold kOut; omega)) (hxo := (by unfold kOut; omega)) (hpn := p2) (hrc := p3) (i := i) (hi := hI)) ?_, ?_⟩
    · rintro f9 n9 ⟨rfl, rfl⟩
      exact hO
    rintro f1 n1 ⟨f9, ⟨rfl, rfl⟩, rfl⟩
    have hm1 : RM E (va_up (f) (a + 99) (some (aJ E 1 (vp_updL og 0 (v (54 + 4 * i)).toInt64)))) (a + 55) r := hM.other (fun q h1 h2 => (va_up_ne _ _ (by omega)).trans rfl)
    have jf1 : JF E a (f) ep L g bk0 et er0 c0 here0 k0 kk0 po0 wo0 b0 w0 b1 w1 bk pn rc ac gB hd v bt hdt vt lo hi RS := hF
    refine ⟨_, _, _, _, _, _, (by omega), (by omega), (by omega), (by omega), kX14_heatOf l E _ _ (a + 55) (r := r) (hm := hm1) (pn := pn) (i := i) (hpn9 := r1) (hpn := p2) (hi := hI), ⟨_, _, _, _, _, _, _, (va_up_ne _ _ (by omega)).trans jf1.1⟩, ⟨r, hm1⟩, ?_⟩
    rintro f2 n2 ⟨rfl, rfl⟩
    exact ⟨_, _, rO_K, rfl, (rO_out (by omega)).trans q_eq, fun _ => by rw [o_at, show (v (54 + 4 * i)) = (r 42) (54 + 4 * i) from (r8.2.2 i hI).2.2.1], ⟨ep, L, g, bk0, et, er0, c0, here0, k0, kk0, po0, wo0, b0, w0, b1, w1, bk, pn, rc, ac, gB, hd, v, bt, hdt, vt, lo, hi, RS, _, _, jf1.frame (n := n) (fun q hq => (rO_out (by omega)).trans (va_up_ne _ _ (by omega))) p4 p7 p5 p6, ((hQ.row (j := 100) (x := fun _ => 0) (Nat.le_refl _) (by decide)).le (by omega) (Nat.le_refl _)), rO_K, (rO_out (by omega)).trans q_eq⟩⟩
  · have hno := idx_no h
    refine ⟨1, _, _, _, _, _, (by omega), (by omega), (by omega), (by omega), kL_heatOf_X l E f n a (a + 99) _ _ _ _ _ _ _ x1 _ _ _ _ c1 (kX12_heatOf_X l E f n (hX := c1) (hB := c12) (hk := k1) (hbo := (by unfold kOut; omega)) (hxo := (by unfold kOut; omega)) (hpn := p2) (hrc := p3) (hst := hst) (hno := hno)), ?_⟩
    rintro f1 n1 ⟨rfl, hn9⟩
    refine ⟨_, _, _, _, _, _, (by omega), (by omega), (by omega), (by omega), kX14_heatOf_F l E _ _ (a + 55) (r := r) (hm := hM) (pn := pn) (hpn9 := r1) (hpn := p2) (hno := hno), ⟨_, _, _, _, _, _, _, c1⟩, ⟨r, hM⟩, ?_⟩
    rintro f2 n2 ⟨rfl, rfl⟩
    exact ⟨_, og, rO_K, rfl, (rO_out (by omega)).trans hO, fun h9 => absurd h9 (by decide), ⟨ep, L, g, bk0, et, er0, c0, here0, k0, kk0, po0, wo0, b0, w0, b1, w1, bk, pn, rc, ac, gB, hd, v, bt, hdt, vt, lo, hi, RS, _, og, hF.frame (n := n) (fun q hq => rO_out (by omega)) p4 p7 p5 p6, (hQ.row (j := 100) (x := fun _ => 1) hn9 (by decide)).le (by omega) (Nat.le_refl _), rO_K, (rO_out (by omega)).trans hO⟩⟩

set_option maxHeartbeats 1000000 in
theorem P_doneIn (l : Launch) (E : q_E) (a BB : Nat) (f : q_H) (n : Nat) (hst : l.stackTraces = false) (hB : BB ≤ 2 ^ 29) (hJ : JJ E a BB f n) (x1 : Int32) : PAIR l E a (JJ E a (BB + 100)) yL_doneIn wsL_doneIn yX14_doneIn wsX14_doneIn [.int x1] f n := by
  obtain ⟨ep, L, g, bk0, et, er0, c0, here0, k0, kk0, po0, wo0, b0, w0, b1, w1, bk, pn, rc, ac, gB, hd, v, bt, hdt, vt, lo, hi, RS, r, og, hF, hQ, hM, hO⟩ := hJ
  have hF0 := hF
  obtain ⟨c1, c2, c3, c4, c5, c6, c7, c8, c9, c10, c12, c13, k1, k2, s1⟩ := hF0
  have hQ0 := hQ
  obtain ⟨p1, p2, p3, p4, p5, p6, p7, p8, i1, i2, r1, r2, r3, r4, r5, r6, r7, r8, r9⟩ := hQ0
  by_cases h : ∃ i, i < pn ∧ x1 = nI i
  · obtain ⟨i, hI, rfl⟩ := h
    refine ⟨0, _, _, _, _, _, (by omega), (by omega), (by omega), (by omega), kL_doneIn l E f n a (a + 99) _ _ _ _ _ _ _ (nI i) _ _ _ _ (v (55 + 4 * i)) _ og c1 (kX12_doneIn l E f n (hX := c1) (hB := c12) (hk := k1) (hbo := (by unfold kOut; omega)) (hxo := (by unfold kOut; omega)) (hpn := p2) (hrc := p3) (i := i) (hi := hI)) ?_, ?_⟩
    · rintro f9 n9 ⟨rfl, rfl⟩
      exact hO
    rintro f1 n1 ⟨f9, ⟨rfl, rfl⟩, rfl⟩
    have hm1 : RM E (va_up (f) (a + 99) (some (aJ E 1 (vp_updL og 0 (v (55 + 4 * i)).toInt64)))) (a + 55) r := hM.other (fun q h1 h2 => (va_up_ne _ _ (by omega)).trans rfl)
    have jf1 : JF E a (f) ep L g bk0 et er0 c0 here0 k0 kk0 po0 wo0 b0 w0 b1 w1 bk pn rc ac gB hd v bt hdt vt lo hi RS := hF
    refine ⟨_, _, _, _, _, _, (by omega), (by omega), (by omega), (by omega), kX14_doneIn l E _ _ (a + 55) (r := r) (hm := hm1) (pn := pn) (i := i) (hpn9 := r1) (hpn := p2) (hi := hI), ⟨_, _, _, _, _, _, _, (va_up_ne _ _ (by omega)).trans jf1.1⟩, ⟨r, hm1⟩, ?_⟩
    rintro f2 n2 ⟨rfl, rfl⟩
    exact ⟨_, _, rO_K, rfl, (rO_out (by omega)).trans q_eq, fun _ => by rw [o_at, show (v (55 + 4 * i)) = (r 42) (55 + 4 * i) from (r8.2.2 i hI).2.2.2], ⟨ep, L, g, bk0, et, er0, c0, here0, k0, kk0, po0, wo0, b0, w0, b1, w1, bk, pn, rc, ac, gB, hd, v, bt, hdt, vt, lo, hi, RS, _, _, jf1.frame (n := n) (fun q hq => (rO_out (by omega)).trans (va_up_ne _ _ (by omega))) p4 p7 p5 p6, ((hQ.row (j := 100) (x := fun _ => 0) (Nat.le_refl _) (by decide)).le (by omega) (Nat.le_refl _)), rO_K, (rO_out (by omega)).trans q_eq⟩⟩
  · have hno := idx_no h
    refine ⟨1, _, _, _, _, _, (by omega), (by omega), (by omega), (by omega), kL_doneIn_X l E f n a (a + 99) _ _ _ _ _ _ _ x1 _ _ _ _ c1 (kX12_doneIn_X l E f n (hX := c1) (hB := c12) (hk := k1) (hbo := (by unfold kOut; omega)) (hxo := (by unfold kOut; omega)) (hpn := p2) (hrc := p3) (hst := hst) (hno := hno)), ?_⟩
    rintro f1 n1 ⟨rfl, hn9⟩
    refine ⟨_, _, _, _, _, _, (by omega), (by omega), (by omega), (by omega), kX14_doneIn_F l E _ _ (a + 55) (r := r) (hm := hM) (pn := pn) (hpn9 := r1) (hpn := p2) (hno := hno), ⟨_, _, _, _, _, _, _, c1⟩, ⟨r, hM⟩, ?_⟩
    rintro f2 n2 ⟨rfl, rfl⟩
    exact ⟨_, og, rO_K, rfl, (rO_out (by omega)).trans hO, fun h9 => absurd h9 (by decide), ⟨ep, L, g, bk0, et, er0, c0, here0, k0, kk0, po0, wo0, b0, w0, b1, w1, bk, pn, rc, ac, gB, hd, v, bt, hdt, vt, lo, hi, RS, _, og, hF.frame (n := n) (fun q hq => rO_out (by omega)) p4 p7 p5 p6, (hQ.row (j := 100) (x := fun _ => 1) hn9 (by decide)).le (by omega) (Nat.le_refl _), rO_K, (rO_out (by omega)).trans hO⟩⟩

set_option maxHeartbeats 1000000 in
theorem P_roomIn (l : Launch) (E : q_E) (a BB : Nat) (f : q_H) (n : Nat) (hst : l.stackTraces = false) (hB : BB ≤ 2 ^ 29) (hJ : JJ E a BB f n) (x1 : Int32) : PAIR l E a (JJ E a (BB + 100)) yL_roomIn wsL_roomIn yX14_roomIn wsX14_roomIn [.int x1] f n := by
  obtain ⟨ep, L, g, bk0, et, er0, c0, here0, k0, kk0, po0, wo0, b0, w0, b1, w1, bk, pn, rc, ac, gB, hd, v, bt, hdt, vt, lo, hi, RS, r, og, hF, hQ, hM, hO⟩ := hJ
  have hF0 := hF
  obtain ⟨c1, c2, c3, c4, c5, c6, c7, c8, c9, c10, c12, c13, k1, k2, s1⟩ := hF0
  have hQ0 := hQ
  obtain ⟨p1, p2, p3, p4, p5, p6, p7, p8, i1, i2, r1, r2, r3, r4, r5, r6, r7, r8, r9⟩ := hQ0
  by_cases h : ∃ i, i < pn ∧ x1 = nI i
  · obtain ⟨i, hI, rfl⟩ := h
    refine ⟨0, _, _, _, _, _, (by omega), (by omega), (by omega), (by omega), kL_roomIn l E f n a (a + 99) _ _ _ _ _ _ _ (nI i) _ _ _ _ (hd i - v (52 + 4 * i) - v (53 + 4 * i)) _ og c1 (kX12_roomIn l E f n (hX := c1) (hB := c12) (hk := k1) (hbo := (by unfold kOut; omega)) (hxo := (by unfold kOut; omega)) (hpn := p2) (hrc := p3) (i := i) (hi := hI)) ?_, ?_⟩
    · rintro f9 n9 ⟨rfl, rfl⟩
      exact hO
    rintro f1 n1 ⟨f9, ⟨rfl, rfl⟩, rfl⟩
    have hm1 : RM E (va_up (f) (a + 99) (some (aJ E 1 (vp_updL og 0 (hd i - v (52 + 4 * i) - v (53 + 4 * i)).toInt64)))) (a + 55) r := hM.other (fun q h1 h2 => (va_up_ne _ _ (by omega)).trans rfl)
    have jf1 : JF E a (f) ep L g bk0 et er0 c0 here0 k0 kk0 po0 wo0 b0 w0 b1 w1 bk pn rc ac gB hd v bt hdt vt lo hi RS := hF
    refine ⟨_, _, _, _, _, _, (by omega), (by omega), (by omega), (by omega), kX14_roomIn l E _ _ (a + 55) (r := r) (hm := hm1) (pn := pn) (i := i) (hpn9 := r1) (hpn := p2) (hi := hI), ⟨_, _, _, _, _, _, _, (va_up_ne _ _ (by omega)).trans jf1.1⟩, ⟨r, hm1⟩, ?_⟩
    rintro f2 n2 ⟨rfl, rfl⟩
    exact ⟨_, _, rO_K, rfl, (rO_out (by omega)).trans q_eq, fun _ => by rw [o_at, show (hd i - v (52 + 4 * i) - v (53 + 4 * i)) = (r 9) i - (r 42) (52 + 4 * i) - (r 42) (53 + 4 * i) from by rw [r8.1 i hI, (r8.2.2 i hI).1, (r8.2.2 i hI).2.1]], ⟨ep, L, g, bk0, et, er0, c0, here0, k0, kk0, po0, wo0, b0, w0, b1, w1, bk, pn, rc, ac, gB, hd, v, bt, hdt, vt, lo, hi, RS, _, _, jf1.frame (n := n) (fun q hq => (rO_out (by omega)).trans (va_up_ne _ _ (by omega))) p4 p7 p5 p6, ((hQ.row (j := 100) (x := fun _ => 0) (Nat.le_refl _) (by decide)).le (by omega) (Nat.le_refl _)), rO_K, (rO_out (by omega)).trans q_eq⟩⟩
  · have hno := idx_no h
    refine ⟨1, _, _, _, _, _, (by omega), (by omega), (by omega), (by omega), kL_roomIn_X l E f n a (a + 99) _ _ _ _ _ _ _ x1 _ _ _ _ c1 (kX12_roomIn_X l E f n (hX := c1) (hB := c12) (hk := k1) (hbo := (by unfold kOut; omega)) (hxo := (by unfold kOut; omega)) (hpn := p2) (hrc := p3) (hst := hst) (hno := hno)), ?_⟩
    rintro f1 n1 ⟨rfl, hn9⟩
    refine ⟨_, _, _, _, _, _, (by omega), (by omega), (by omega), (by omega), kX14_roomIn_F l E _ _ (a + 55) (r := r) (hm := hM) (pn := pn) (hpn9 := r1) (hpn := p2) (hno := hno), ⟨_, _, _, _, _, _, _, c1⟩, ⟨r, hM⟩, ?_⟩
    rintro f2 n2 ⟨rfl, rfl⟩
    exact ⟨_, og, rO_K, rfl, (rO_out (by omega)).trans hO, fun h9 => absurd h9 (by decide), ⟨ep, L, g, bk0, et, er0, c0, here0, k0, kk0, po0, wo0, b0, w0, b1, w1, bk, pn, rc, ac, gB, hd, v, bt, hdt, vt, lo, hi, RS, _, og, hF.frame (n := n) (fun q hq => rO_out (by omega)) p4 p7 p5 p6, (hQ.row (j := 100) (x := fun _ => 1) hn9 (by decide)).le (by omega) (Nat.le_refl _), rO_K, (rO_out (by omega)).trans hO⟩⟩

set_option maxHeartbeats 1000000 in
theorem P_boilingAt (l : Launch) (E : q_E) (a BB : Nat) (f : q_H) (n : Nat) (hst : l.stackTraces = false) (hB : BB ≤ 2 ^ 29) (hJ : JJ E a BB f n) (x1 : Int32) : PAIR l E a (JJ E a (BB + 100)) yL_boilingAt wsL_boilingAt yX14_boilingAt wsX14_boilingAt [.int x1] f n := by
  obtain ⟨ep, L, g, bk0, et, er0, c0, here0, k0, kk0, po0, wo0, b0, w0, b1, w1, bk, pn, rc, ac, gB, hd, v, bt, hdt, vt, lo, hi, RS, r, og, hF, hQ, hM, hO⟩ := hJ
  have hF0 := hF
  obtain ⟨c1, c2, c3, c4, c5, c6, c7, c8, c9, c10, c12, c13, k1, k2, s1⟩ := hF0
  have hQ0 := hQ
  obtain ⟨p1, p2, p3, p4, p5, p6, p7, p8, i1, i2, r1, r2, r3, r4, r5, r6, r7, r8, r9⟩ := hQ0
  cases hin : b_in x1 0 60 with
  | false =>
    refine ⟨1, _, _, _, _, _, (by omega), (by omega), (by omega), (by omega), kL_boilingAt_X l E f n a (a + 99) _ _ _ _ _ _ _ x1 _ _ _ _ c1 (kX12_boilingAt_X l E f n (x := a) (tp := 0) (pr := 0) (k := 0) (ck := 0) (tr := 0) (tk := 0) (ep := 0) (hst := hst) (hin := hin)), ?_⟩
    rintro f1 n1 ⟨rfl, hn9⟩
    refine ⟨_, _, _, _, _, _, (by omega), (by omega), (by omega), (by omega), kX14_boilingAt_F l E _ _ (a + 55) (r := r) (hm := hM) (hin := hin), ⟨_, _, _, _, _, _, _, c1⟩, ⟨r, hM⟩, ?_⟩
    rintro f2 n2 ⟨rfl, rfl⟩
    exact ⟨_, og, rO_K, rfl, (rO_out (by omega)).trans hO, fun h9 => absurd h9 (by decide), ⟨ep, L, g, bk0, et, er0, c0, here0, k0, kk0, po0, wo0, b0, w0, b1, w1, bk, pn, rc, ac, gB, hd, v, bt, hdt, vt, lo, hi, RS, _, og, hF.frame (n := n) (fun q hq => rO_out (by omega)) p4 p7 p5 p6, (hQ.row (j := 100) (x := fun _ => 1) hn9 (by decide)).le (by omega) (Nat.le_refl _), rO_K, (rO_out (by omega)).trans hO⟩⟩
  | true =>
    refine ⟨0, _, _, _, _, _, (by omega), (by omega), (by omega), (by omega), kL_boilingAt l E f n a (a + 99) _ _ _ _ _ _ _ x1 _ _ _ _ (z_boil x1) _ og c1 (kX12_boilingAt l E f n (x := a) (tp := 0) (pr := 0) (k := 0) (ck := 0) (tr := 0) (tk := 0) (ep := 0) (hin := hin)) ?_, ?_⟩
    · rintro f9 n9 ⟨rfl, rfl⟩
      exact hO
    rintro f1 n1 ⟨f9, ⟨rfl, rfl⟩, rfl⟩
    have hm1 : RM E (va_up (f) (a + 99) (some (aJ E 1 (vp_updL og 0 (z_boil x1).toInt64)))) (a + 55) r := hM.other (fun q h1 h2 => (va_up_ne _ _ (by omega)).trans rfl)
    have jf1 : JF E a (f) ep L g bk0 et er0 c0 here0 k0 kk0 po0 wo0 b0 w0 b1 w1 bk pn rc ac gB hd v bt hdt vt lo hi RS := hF
    refine ⟨_, _, _, _, _, _, (by omega), (by omega), (by omega), (by omega), kX14_boilingAt l E _ _ (a + 55) (r := r) (hm := hm1) (hin := hin), ⟨_, _, _, _, _, _, _, (va_up_ne _ _ (by omega)).trans jf1.1⟩, ⟨r, hm1⟩, ?_⟩
    rintro f2 n2 ⟨rfl, rfl⟩
    exact ⟨_, _, rO_K, rfl, (rO_out (by omega)).trans q_eq, fun _ => by rw [o_at, show (z_boil x1) = z_boil x1 from rfl], ⟨ep, L, g, bk0, et, er0, c0, here0, k0, kk0, po0, wo0, b0, w0, b1, w1, bk, pn, rc, ac, gB, hd, v, bt, hdt, vt, lo, hi, RS, _, _, jf1.frame (n := n) (fun q hq => (rO_out (by omega)).trans (va_up_ne _ _ (by omega))) p4 p7 p5 p6, ((hQ.row (j := 100) (x := fun _ => 0) (Nat.le_refl _) (by decide)).le (by omega) (Nat.le_refl _)), rO_K, (rO_out (by omega)).trans q_eq⟩⟩

set_option maxHeartbeats 1000000 in
theorem P_minutesAt (l : Launch) (E : q_E) (a BB : Nat) (f : q_H) (n : Nat) (hst : l.stackTraces = false) (hB : BB ≤ 2 ^ 29) (hJ : JJ E a BB f n) (x1 x2 : Int32) : PAIR l E a (JJ E a (BB + 100)) yL_minutesAt wsL_minutesAt yX14_minutesAt wsX14_minutesAt [.int x1, .int x2] f n := by
  obtain ⟨ep, L, g, bk0, et, er0, c0, here0, k0, kk0, po0, wo0, b0, w0, b1, w1, bk, pn, rc, ac, gB, hd, v, bt, hdt, vt, lo, hi, RS, r, og, hF, hQ, hM, hO⟩ := hJ
  have hF0 := hF
  obtain ⟨c1, c2, c3, c4, c5, c6, c7, c8, c9, c10, c12, c13, k1, k2, s1⟩ := hF0
  have hQ0 := hQ
  obtain ⟨p1, p2, p3, p4, p5, p6, p7, p8, i1, i2, r1, r2, r3, r4, r5, r6, r7, r8, r9⟩ := hQ0
  cases hin : b_in x1 0 999 with
  | false =>
    refine ⟨1, _, _, _, _, _, (by omega), (by omega), (by omega), (by omega), kL_minutesAt_X l E f n a (a + 99) _ _ _ _ _ _ _ x1 x2 _ _ _ _ c1 (kX12_minutesAt_X l E f n (x := a) (tp := 0) (pr := 0) (k := 0) (ck := 0) (tr := 0) (tk := 0) (ep := 0) (a := x2) (hst := hst) (hin := hin)), ?_⟩
    rintro f1 n1 ⟨rfl, hn9⟩
    refine ⟨_, _, _, _, _, _, (by omega), (by omega), (by omega), (by omega), kX14_minutesAt_F l E _ _ (a + 55) (r := r) (hm := hM) (y := x2) (hin := hin), ⟨_, _, _, _, _, _, _, c1⟩, ⟨r, hM⟩, ?_⟩
    rintro f2 n2 ⟨rfl, rfl⟩
    exact ⟨_, og, rO_K, rfl, (rO_out (by omega)).trans hO, fun h9 => absurd h9 (by decide), ⟨ep, L, g, bk0, et, er0, c0, here0, k0, kk0, po0, wo0, b0, w0, b1, w1, bk, pn, rc, ac, gB, hd, v, bt, hdt, vt, lo, hi, RS, _, og, hF.frame (n := n) (fun q hq => rO_out (by omega)) p4 p7 p5 p6, (hQ.row (j := 100) (x := fun _ => 1) hn9 (by decide)).le (by omega) (Nat.le_refl _), rO_K, (rO_out (by omega)).trans hO⟩⟩
  | true =>
    cases hin2 : b_in x2 0 60 with
    | false =>
      refine ⟨1, _, _, _, _, _, (by omega), (by omega), (by omega), (by omega), kL_minutesAt_X l E f n a (a + 99) _ _ _ _ _ _ _ x1 x2 _ _ _ _ c1 (kX12_minutesAt_Y l E f n (x := a) (tp := 0) (pr := 0) (k := 0) (ck := 0) (tr := 0) (tk := 0) (ep := 0) (hst := hst) (hin := hin) (hin2 := hin2)), ?_⟩
      rintro f1 n1 ⟨rfl, hn9⟩
      refine ⟨_, _, _, _, _, _, (by omega), (by omega), (by omega), (by omega), kX14_minutesAt_G l E _ _ (a + 55) (r := r) (hm := hM) (hin := hin) (hin2 := hin2), ⟨_, _, _, _, _, _, _, c1⟩, ⟨r, hM⟩, ?_⟩
      rintro f2 n2 ⟨rfl, rfl⟩
      exact ⟨_, og, rO_K, rfl, (rO_out (by omega)).trans hO, fun h9 => absurd h9 (by decide), ⟨ep, L, g, bk0, et, er0, c0, here0, k0, kk0, po0, wo0, b0, w0, b1, w1, bk, pn, rc, ac, gB, hd, v, bt, hdt, vt, lo, hi, RS, _, og, hF.frame (n := n) (fun q hq => rO_out (by omega)) p4 p7 p5 p6, (hQ.row (j := 100) (x := fun _ => 1) hn9 (by decide)).le (by omega) (Nat.le_refl _), rO_K, (rO_out (by omega)).trans hO⟩⟩
    | true =>
      refine ⟨0, _, _, _, _, _, (by omega), (by omega), (by omega), (by omega), kL_minutesAt l E f n a (a + 99) _ _ _ _ _ _ _ x1 x2 _ _ _ _ (z_long x1 x2) _ og c1 (kX12_minutesAt l E f n (x := a) (tp := 0) (pr := 0) (k := 0) (ck := 0) (tr := 0) (tk := 0) (ep := 0) (hin := hin) (hin2 := hin2)) ?_, ?_⟩
      · rintro f9 n9 ⟨rfl, rfl⟩
        exact hO
      rintro f1 n1 ⟨f9, ⟨rfl, rfl⟩, rfl⟩
      have hm1 : RM E (va_up (f) (a + 99) (some (aJ E 1 (vp_updL og 0 (z_long x1 x2).toInt64)))) (a + 55) r := hM.other (fun q h1 h2 => (va_up_ne _ _ (by omega)).trans rfl)
      have jf1 : JF E a (f) ep L g bk0 et er0 c0 here0 k0 kk0 po0 wo0 b0 w0 b1 w1 bk pn rc ac gB hd v bt hdt vt lo hi RS := hF
      refine ⟨_, _, _, _, _, _, (by omega), (by omega), (by omega), (by omega), kX14_minutesAt l E _ _ (a + 55) (r := r) (hm := hm1) (hin := hin) (hin2 := hin2), ⟨_, _, _, _, _, _, _, (va_up_ne _ _ (by omega)).trans jf1.1⟩, ⟨r, hm1⟩, ?_⟩
      rintro f2 n2 ⟨rfl, rfl⟩
      exact ⟨_, _, rO_K, rfl, (rO_out (by omega)).trans q_eq, fun _ => by rw [o_at, show (z_long x1 x2) = z_long x1 x2 from rfl], ⟨ep, L, g, bk0, et, er0, c0, here0, k0, kk0, po0, wo0, b0, w0, b1, w1, bk, pn, rc, ac, gB, hd, v, bt, hdt, vt, lo, hi, RS, _, _, jf1.frame (n := n) (fun q hq => (rO_out (by omega)).trans (va_up_ne _ _ (by omega))) p4 p7 p5 p6, ((hQ.row (j := 100) (x := fun _ => 0) (Nat.le_refl _) (by decide)).le (by omega) (Nat.le_refl _)), rO_K, (rO_out (by omega)).trans q_eq⟩⟩

set_option maxHeartbeats 1000000 in
theorem P_amountFor (l : Launch) (E : q_E) (a BB : Nat) (f : q_H) (n : Nat) (hst : l.stackTraces = false) (hB : BB ≤ 2 ^ 29) (hJ : JJ E a BB f n) (x1 : Int32) : PAIR l E a (JJ E a (BB + 100)) yL_amountFor wsL_amountFor yX14_amountFor wsX14_amountFor [.int x1] f n := by
  obtain ⟨ep, L, g, bk0, et, er0, c0, here0, k0, kk0, po0, wo0, b0, w0, b1, w1, bk, pn, rc, ac, gB, hd, v, bt, hdt, vt, lo, hi, RS, r, og, hF, hQ, hM, hO⟩ := hJ
  have hF0 := hF
  obtain ⟨c1, c2, c3, c4, c5, c6, c7, c8, c9, c10, c12, c13, k1, k2, s1⟩ := hF0
  have hQ0 := hQ
  obtain ⟨p1, p2, p3, p4, p5, p6, p7, p8, i1, i2, r1, r2, r3, r4, r5, r6, r7, r8, r9⟩ := hQ0
  cases hin : b_in x1 0 999 with
  | false =>
    refine ⟨1, _, _, _, _, _, (by omega), (by omega), (by omega), (by omega), kL_amountFor_X l E f n a (a + 99) _ _ _ _ _ _ _ x1 _ _ _ _ c1 (kX12_amountFor_X l E f n (hX := c1) (hB := c12) (hk := k1) (hbo := (by unfold kOut; omega)) (hxo := (by unfold kOut; omega)) (hpn := p2) (hrc := p3) (hst := hst) (hin := hin)), ?_⟩
    rintro f1 n1 ⟨rfl, hn9⟩
    refine ⟨_, _, _, _, _, _, (by omega), (by omega), (by omega), (by omega), kX14_amountFor_F l E _ _ (a + 55) (r := r) (hm := hM) (hin := hin), ⟨_, _, _, _, _, _, _, c1⟩, ⟨r, hM⟩, ?_⟩
    rintro f2 n2 ⟨rfl, rfl⟩
    exact ⟨_, og, rO_K, rfl, (rO_out (by omega)).trans hO, fun h9 => absurd h9 (by decide), ⟨ep, L, g, bk0, et, er0, c0, here0, k0, kk0, po0, wo0, b0, w0, b1, w1, bk, pn, rc, ac, gB, hd, v, bt, hdt, vt, lo, hi, RS, _, og, hF.frame (n := n) (fun q hq => rO_out (by omega)) p4 p7 p5 p6, (hQ.row (j := 100) (x := fun _ => 1) hn9 (by decide)).le (by omega) (Nat.le_refl _), rO_K, (rO_out (by omega)).trans hO⟩⟩
  | true =>
    refine ⟨0, _, _, _, _, _, (by omega), (by omega), (by omega), (by omega), kL_amountFor l E f n a (a + 99) _ _ _ _ _ _ _ x1 _ _ _ _ (z_tr v x1) _ og c1 (kX12_amountFor l E f n (hX := c1) (hB := c12) (hk := k1) (hbo := (by unfold kOut; omega)) (hxo := (by unfold kOut; omega)) (hpn := p2) (hrc := p3) (hin := hin)) ?_, ?_⟩
    · rintro f9 n9 ⟨rfl, rfl⟩
      exact hO
    rintro f1 n1 ⟨f9, ⟨rfl, rfl⟩, rfl⟩
    have hm1 : RM E (va_up (f) (a + 99) (some (aJ E 1 (vp_updL og 0 (z_tr v x1).toInt64)))) (a + 55) r := hM.other (fun q h1 h2 => (va_up_ne _ _ (by omega)).trans rfl)
    have jf1 : JF E a (f) ep L g bk0 et er0 c0 here0 k0 kk0 po0 wo0 b0 w0 b1 w1 bk pn rc ac gB hd v bt hdt vt lo hi RS := hF
    refine ⟨_, _, _, _, _, _, (by omega), (by omega), (by omega), (by omega), kX14_amountFor l E _ _ (a + 55) (r := r) (hm := hm1) (hin := hin) (hsp := v_ok_sp r7), ⟨_, _, _, _, _, _, _, (va_up_ne _ _ (by omega)).trans jf1.1⟩, ⟨r, hm1⟩, ?_⟩
    rintro f2 n2 ⟨rfl, rfl⟩
    exact ⟨_, _, rO_K, rfl, (rO_out (by omega)).trans q_eq, fun _ => by rw [o_at, show (z_tr v x1) = z_tr (r 42) x1 from z_tr_eq (r8.2.1 1 (by decide)) (r8.2.1 2 (by decide))], ⟨ep, L, g, bk0, et, er0, c0, here0, k0, kk0, po0, wo0, b0, w0, b1, w1, bk, pn, rc, ac, gB, hd, v, bt, hdt, vt, lo, hi, RS, _, _, jf1.frame (n := n) (fun q hq => (rO_out (by omega)).trans (va_up_ne _ _ (by omega))) p4 p7 p5 p6, ((hQ.row (j := 100) (x := fun _ => 0) (Nat.le_refl _) (by decide)).le (by omega) (Nat.le_refl _)), rO_K, (rO_out (by omega)).trans q_eq⟩⟩

set_option maxHeartbeats 1000000 in
theorem P_warningsOf (l : Launch) (E : q_E) (a BB : Nat) (f : q_H) (n : Nat) (hst : l.stackTraces = false) (hB : BB ≤ 2 ^ 29) (hJ : JJ E a BB f n) (x1 : Int32) : PAIR l E a (JJ E a (BB + 100)) yL_warningsOf wsL_warningsOf yX14_warningsOf wsX14_warningsOf [.int x1] f n := by
  obtain ⟨ep, L, g, bk0, et, er0, c0, here0, k0, kk0, po0, wo0, b0, w0, b1, w1, bk, pn, rc, ac, gB, hd, v, bt, hdt, vt, lo, hi, RS, r, og, hF, hQ, hM, hO⟩ := hJ
  have hF0 := hF
  obtain ⟨c1, c2, c3, c4, c5, c6, c7, c8, c9, c10, c12, c13, k1, k2, s1⟩ := hF0
  have hQ0 := hQ
  obtain ⟨p1, p2, p3, p4, p5, p6, p7, p8, i1, i2, r1, r2, r3, r4, r5, r6, r7, r8, r9⟩ := hQ0
  cases hin : b_in x1 1 5 with
  | false =>
    refine ⟨1, _, _, _, _, _, (by omega), (by omega), (by omega), (by omega), kL_warningsOf_X l E f n a (a + 99) _ _ _ _ _ _ _ x1 _ _ _ _ c1 (kX12_warningsOf_X l E f n (hX := c1) (hB := c12) (hk := k1) (hbo := (by unfold kOut; omega)) (hxo := (by unfold kOut; omega)) (hpn := p2) (hrc := p3) (hst := hst) (hin := hin)), ?_⟩
    rintro f1 n1 ⟨rfl, hn9⟩
    refine ⟨_, _, _, _, _, _, (by omega), (by omega), (by omega), (by omega), kX14_warningsOf_F l E _ _ (a + 55) (r := r) (hm := hM) (hin := hin), ⟨_, _, _, _, _, _, _, c1⟩, ⟨r, hM⟩, ?_⟩
    rintro f2 n2 ⟨rfl, rfl⟩
    exact ⟨_, og, rO_K, rfl, (rO_out (by omega)).trans hO, fun h9 => absurd h9 (by decide), ⟨ep, L, g, bk0, et, er0, c0, here0, k0, kk0, po0, wo0, b0, w0, b1, w1, bk, pn, rc, ac, gB, hd, v, bt, hdt, vt, lo, hi, RS, _, og, hF.frame (n := n) (fun q hq => rO_out (by omega)) p4 p7 p5 p6, (hQ.row (j := 100) (x := fun _ => 1) hn9 (by decide)).le (by omega) (Nat.le_refl _), rO_K, (rO_out (by omega)).trans hO⟩⟩
  | true =>
    obtain ⟨kd, rfl, hk1, hk5⟩ := b_in_n (a := 1) (b := 5) (by decide) (by decide) hin
    refine ⟨0, _, _, _, _, _, (by omega), (by omega), (by omega), (by omega), kL_warningsOf l E f n a (a + 99) _ _ _ _ _ _ _ (nI kd) _ _ _ _ (v (6 + kd)) _ og c1 (kX12_warningsOf l E f n (hX := c1) (hB := c12) (hk := k1) (hbo := (by unfold kOut; omega)) (hxo := (by unfold kOut; omega)) (hpn := p2) (hrc := p3) (kd := kd) (hin := hin) (hkd := by omega)) ?_, ?_⟩
    · rintro f9 n9 ⟨rfl, rfl⟩
      exact hO
    rintro f1 n1 ⟨f9, ⟨rfl, rfl⟩, rfl⟩
    have hm1 : RM E (va_up (f) (a + 99) (some (aJ E 1 (vp_updL og 0 (v (6 + kd)).toInt64)))) (a + 55) r := hM.other (fun q h1 h2 => (va_up_ne _ _ (by omega)).trans rfl)
    have jf1 : JF E a (f) ep L g bk0 et er0 c0 here0 k0 kk0 po0 wo0 b0 w0 b1 w1 bk pn rc ac gB hd v bt hdt vt lo hi RS := hF
    refine ⟨_, _, _, _, _, _, (by omega), (by omega), (by omega), (by omega), kX14_warningsOf l E _ _ (a + 55) (r := r) (hm := hm1) (kd := kd) (h1 := hk1) (h5 := hk5), ⟨_, _, _, _, _, _, _, (va_up_ne _ _ (by omega)).trans jf1.1⟩, ⟨r, hm1⟩, ?_⟩
    rintro f2 n2 ⟨rfl, rfl⟩
    exact ⟨_, _, rO_K, rfl, (rO_out (by omega)).trans q_eq, fun _ => by rw [o_at, show (v (6 + kd)) = (r 42) (6 + kd) from r9.2.2.1 kd (by omega)], ⟨ep, L, g, bk0, et, er0, c0, here0, k0, kk0, po0, wo0, b0, w0, b1, w1, bk, pn, rc, ac, gB, hd, v, bt, hdt, vt, lo, hi, RS, _, _, jf1.frame (n := n) (fun q hq => (rO_out (by omega)).trans (va_up_ne _ _ (by omega))) p4 p7 p5 p6, ((hQ.row (j := 100) (x := fun _ => 0) (Nat.le_refl _) (by decide)).le (by omega) (Nat.le_refl _)), rO_K, (rO_out (by omega)).trans q_eq⟩⟩

set_option maxHeartbeats 1000000 in
theorem P_warningAt (l : Launch) (E : q_E) (a BB : Nat) (f : q_H) (n : Nat) (hst : l.stackTraces = false) (hB : BB ≤ 2 ^ 29) (hJ : JJ E a BB f n) (x1 : Int32) : PAIR l E a (JJ E a (BB + 100)) yL_warningAt wsL_warningAt yX14_warningAt wsX14_warningAt [.int x1] f n := by
  obtain ⟨ep, L, g, bk0, et, er0, c0, here0, k0, kk0, po0, wo0, b0, w0, b1, w1, bk, pn, rc, ac, gB, hd, v, bt, hdt, vt, lo, hi, RS, r, og, hF, hQ, hM, hO⟩ := hJ
  have hF0 := hF
  obtain ⟨c1, c2, c3, c4, c5, c6, c7, c8, c9, c10, c12, c13, k1, k2, s1⟩ := hF0
  have hQ0 := hQ
  obtain ⟨p1, p2, p3, p4, p5, p6, p7, p8, i1, i2, r1, r2, r3, r4, r5, r6, r7, r8, r9⟩ := hQ0
  have ok9 := i1.ok hB
  have hv9 : v 4 = nI (k_T v) := ok9.1.1
  have hT9 : k_T v < 2 ^ 30 := ok9.1.2
  have hr9 : (r 42) 4 = nI (k_T v) := by rw [← r9.1]; exact hv9
  by_cases h : ∃ i, i < min (k_T v) 20 ∧ x1 = nI i
  · obtain ⟨i, hI, rfl⟩ := h
    refine ⟨0, _, _, _, _, _, (by omega), (by omega), (by omega), (by omega), kL_warningAt l E f n a (a + 99) _ _ _ _ _ _ _ (nI i) _ _ _ _ (v (12 + (k_T v - 1 - i) % 20)) _ og c1 (kX12_warningAt l E f n (hX := c1) (hB := c12) (hk := k1) (hbo := (by unfold kOut; omega)) (hxo := (by unfold kOut; omega)) (hpn := p2) (hrc := p3) (T9 := k_T v) (i := i) (hv9 := hv9) (hT9 := hT9) (hi := hI)) ?_, ?_⟩
    · rintro f9 n9 ⟨rfl, rfl⟩
      exact hO
    rintro f1 n1 ⟨f9, ⟨rfl, rfl⟩, rfl⟩
    have hm1 : RM E (va_up (f) (a + 99) (some (aJ E 1 (vp_updL og 0 (v (12 + (k_T v - 1 - i) % 20)).toInt64)))) (a + 55) r := hM.other (fun q h1 h2 => (va_up_ne _ _ (by omega)).trans rfl)
    have jf1 : JF E a (f) ep L g bk0 et er0 c0 here0 k0 kk0 po0 wo0 b0 w0 b1 w1 bk pn rc ac gB hd v bt hdt vt lo hi RS := hF
    refine ⟨_, _, _, _, _, _, (by omega), (by omega), (by omega), (by omega), kX14_warningAt l E _ _ (a + 55) (r := r) (hm := hm1) (t := k_T v) (b := i) (h4 := hr9) (ht := hT9) (hb1 := by omega), ⟨_, _, _, _, _, _, _, (va_up_ne _ _ (by omega)).trans jf1.1⟩, ⟨r, hm1⟩, ?_⟩
    rintro f2 n2 ⟨rfl, rfl⟩
    exact ⟨_, _, rO_K, rfl, (rO_out (by omega)).trans q_eq, fun _ => by rw [o_at, show (v (12 + (k_T v - 1 - i) % 20)) = (r 42) (12 + (k_T v - 1 - i) % 20) from r9.2.2.2.1 i hI], ⟨ep, L, g, bk0, et, er0, c0, here0, k0, kk0, po0, wo0, b0, w0, b1, w1, bk, pn, rc, ac, gB, hd, v, bt, hdt, vt, lo, hi, RS, _, _, jf1.frame (n := n) (fun q hq => (rO_out (by omega)).trans (va_up_ne _ _ (by omega))) p4 p7 p5 p6, ((hQ.row (j := 100) (x := fun _ => 0) (Nat.le_refl _) (by decide)).le (by omega) (Nat.le_refl _)), rO_K, (rO_out (by omega)).trans q_eq⟩⟩
  · have hno := idx_no h
    refine ⟨1, _, _, _, _, _, (by omega), (by omega), (by omega), (by omega), kL_warningAt_X l E f n a (a + 99) _ _ _ _ _ _ _ x1 _ _ _ _ c1 (kX12_warningAt_X l E f n (hX := c1) (hB := c12) (hk := k1) (hbo := (by unfold kOut; omega)) (hxo := (by unfold kOut; omega)) (hpn := p2) (hrc := p3) (T9 := k_T v) (hst := hst) (hv9 := hv9) (hT9 := hT9) (hno := hno)), ?_⟩
    rintro f1 n1 ⟨rfl, hn9⟩
    refine ⟨_, _, _, _, _, _, (by omega), (by omega), (by omega), (by omega), kX14_warningAt_F l E _ _ (a + 55) (r := r) (hm := hM) (t := k_T v) (h4 := hr9) (ht := hT9) (hno := by rw [Nat.min_comm]; exact hno), ⟨_, _, _, _, _, _, _, c1⟩, ⟨r, hM⟩, ?_⟩
    rintro f2 n2 ⟨rfl, rfl⟩
    exact ⟨_, og, rO_K, rfl, (rO_out (by omega)).trans hO, fun h9 => absurd h9 (by decide), ⟨ep, L, g, bk0, et, er0, c0, here0, k0, kk0, po0, wo0, b0, w0, b1, w1, bk, pn, rc, ac, gB, hd, v, bt, hdt, vt, lo, hi, RS, _, og, hF.frame (n := n) (fun q hq => rO_out (by omega)) p4 p7 p5 p6, (hQ.row (j := 100) (x := fun _ => 1) hn9 (by decide)).le (by omega) (Nat.le_refl _), rO_K, (rO_out (by omega)).trans hO⟩⟩

set_option maxHeartbeats 1000000 in
theorem P_noteAt (l : Launch) (E : q_E) (a BB : Nat) (f : q_H) (n : Nat) (hst : l.stackTraces = false) (hB : BB ≤ 2 ^ 29) (hJ : JJ E a BB f n) (x1 : Int32) : PAIR l E a (JJ E a (BB + 100)) yL_noteAt wsL_noteAt yX14_noteAt wsX14_noteAt [.int x1] f n := by
  obtain ⟨ep, L, g, bk0, et, er0, c0, here0, k0, kk0, po0, wo0, b0, w0, b1, w1, bk, pn, rc, ac, gB, hd, v, bt, hdt, vt, lo, hi, RS, r, og, hF, hQ, hM, hO⟩ := hJ
  have hF0 := hF
  obtain ⟨c1, c2, c3, c4, c5, c6, c7, c8, c9, c10, c12, c13, k1, k2, s1⟩ := hF0
  have hQ0 := hQ
  obtain ⟨p1, p2, p3, p4, p5, p6, p7, p8, i1, i2, r1, r2, r3, r4, r5, r6, r7, r8, r9⟩ := hQ0
  have ok9 := i1.ok hB
  have hv9 : v 5 = nI (k_N v) := ok9.2.1
  have hT9 : k_N v < 2 ^ 30 := ok9.2.2
  have hr9 : (r 42) 5 = nI (k_N v) := by rw [← r9.2.1]; exact hv9
  by_cases h : ∃ i, i < min (k_N v) 20 ∧ x1 = nI i
  · obtain ⟨i, hI, rfl⟩ := h
    refine ⟨0, _, _, _, _, _, (by omega), (by omega), (by omega), (by omega), kL_noteAt l E f n a (a + 99) _ _ _ _ _ _ _ (nI i) _ _ _ _ (v (32 + (k_N v - 1 - i) % 20)) _ og c1 (kX12_noteAt l E f n (hX := c1) (hB := c12) (hk := k1) (hbo := (by unfold kOut; omega)) (hxo := (by unfold kOut; omega)) (hpn := p2) (hrc := p3) (T9 := k_N v) (i := i) (hv9 := hv9) (hT9 := hT9) (hi := hI)) ?_, ?_⟩
    · rintro f9 n9 ⟨rfl, rfl⟩
      exact hO
    rintro f1 n1 ⟨f9, ⟨rfl, rfl⟩, rfl⟩
    have hm1 : RM E (va_up (f) (a + 99) (some (aJ E 1 (vp_updL og 0 (v (32 + (k_N v - 1 - i) % 20)).toInt64)))) (a + 55) r := hM.other (fun q h1 h2 => (va_up_ne _ _ (by omega)).trans rfl)
    have jf1 : JF E a (f) ep L g bk0 et er0 c0 here0 k0 kk0 po0 wo0 b0 w0 b1 w1 bk pn rc ac gB hd v bt hdt vt lo hi RS := hF
    refine ⟨_, _, _, _, _, _, (by omega), (by omega), (by omega), (by omega), kX14_noteAt l E _ _ (a + 55) (r := r) (hm := hm1) (t := k_N v) (b := i) (h4 := hr9) (ht := hT9) (hb1 := by omega), ⟨_, _, _, _, _, _, _, (va_up_ne _ _ (by omega)).trans jf1.1⟩, ⟨r, hm1⟩, ?_⟩
    rintro f2 n2 ⟨rfl, rfl⟩
    exact ⟨_, _, rO_K, rfl, (rO_out (by omega)).trans q_eq, fun _ => by rw [o_at, show (v (32 + (k_N v - 1 - i) % 20)) = (r 42) (32 + (k_N v - 1 - i) % 20) from r9.2.2.2.2 i hI], ⟨ep, L, g, bk0, et, er0, c0, here0, k0, kk0, po0, wo0, b0, w0, b1, w1, bk, pn, rc, ac, gB, hd, v, bt, hdt, vt, lo, hi, RS, _, _, jf1.frame (n := n) (fun q hq => (rO_out (by omega)).trans (va_up_ne _ _ (by omega))) p4 p7 p5 p6, ((hQ.row (j := 100) (x := fun _ => 0) (Nat.le_refl _) (by decide)).le (by omega) (Nat.le_refl _)), rO_K, (rO_out (by omega)).trans q_eq⟩⟩
  · have hno := idx_no h
    refine ⟨1, _, _, _, _, _, (by omega), (by omega), (by omega), (by omega), kL_noteAt_X l E f n a (a + 99) _ _ _ _ _ _ _ x1 _ _ _ _ c1 (kX12_noteAt_X l E f n (hX := c1) (hB := c12) (hk := k1) (hbo := (by unfold kOut; omega)) (hxo := (by unfold kOut; omega)) (hpn := p2) (hrc := p3) (T9 := k_N v) (hst := hst) (hv9 := hv9) (hT9 := hT9) (hno := hno)), ?_⟩
    rintro f1 n1 ⟨rfl, hn9⟩
    refine ⟨_, _, _, _, _, _, (by omega), (by omega), (by omega), (by omega), kX14_noteAt_F l E _ _ (a + 55) (r := r) (hm := hM) (t := k_N v) (h4 := hr9) (ht := hT9) (hno := by rw [Nat.min_comm]; exact hno), ⟨_, _, _, _, _, _, _, c1⟩, ⟨r, hM⟩, ?_⟩
    rintro f2 n2 ⟨rfl, rfl⟩
    exact ⟨_, og, rO_K, rfl, (rO_out (by omega)).trans hO, fun h9 => absurd h9 (by decide), ⟨ep, L, g, bk0, et, er0, c0, here0, k0, kk0, po0, wo0, b0, w0, b1, w1, bk, pn, rc, ac, gB, hd, v, bt, hdt, vt, lo, hi, RS, _, og, hF.frame (n := n) (fun q hq => rO_out (by omega)) p4 p7 p5 p6, (hQ.row (j := 100) (x := fun _ => 1) hn9 (by decide)).le (by omega) (Nat.le_refl _), rO_K, (rO_out (by omega)).trans hO⟩⟩

set_option maxHeartbeats 1000000 in
theorem P_setAltitude (l : Launch) (E : q_E) (a BB : Nat) (f : q_H) (n : Nat) (hst : l.stackTraces = false) (hB : BB ≤ 2 ^ 29) (hJ : JJ E a BB f n) (x1 : Int32) : PAIR l E a (JJ E a (BB + 100)) yL_setAltitude wsL_setAltitude yX14_setAltitude wsX14_setAltitude [.int x1] f n := by
  obtain ⟨ep, L, g, bk0, et, er0, c0, here0, k0, kk0, po0, wo0, b0, w0, b1, w1, bk, pn, rc, ac, gB, hd, v, bt, hdt, vt, lo, hi, RS, r, og, hF, hQ, hM, hO⟩ := hJ
  have hF0 := hF
  obtain ⟨c1, c2, c3, c4, c5, c6, c7, c8, c9, c10, c12, c13, k1, k2, s1⟩ := hF0
  have hQ0 := hQ
  obtain ⟨p1, p2, p3, p4, p5, p6, p7, p8, i1, i2, r1, r2, r3, r4, r5, r6, r7, r8, r9⟩ := hQ0
  cases hin : b_in x1 0 60 with
  | false =>
    refine ⟨1, _, _, _, _, _, (by omega), (by omega), (by omega), (by omega), kL_setAltitude_X l E f n a (a + 99) _ _ _ _ _ _ _ x1 _ _ _ _ c1 (kX12_setAltitude_X l E f n (hX := c1) (hB := c12) (hk := k1) (hbo := (by unfold kOut; omega)) (hxo := (by unfold kOut; omega)) (hpn := p2) (hrc := p3) (hst := hst) (hin := hin)), ?_⟩
    rintro f1 n1 ⟨rfl, hn9⟩
    refine ⟨_, _, _, _, _, _, (by omega), (by omega), (by omega), (by omega), kX14_setAltitude_F l E _ _ (a + 55) (r := r) (hm := hM) (hin := hin), ⟨_, _, _, _, _, _, _, c1⟩, ⟨r, hM⟩, ?_⟩
    rintro f2 n2 ⟨rfl, rfl⟩
    exact ⟨_, og, rO_K, rfl, (rO_out (by omega)).trans hO, fun h9 => absurd h9 (by decide), ⟨ep, L, g, bk0, et, er0, c0, here0, k0, kk0, po0, wo0, b0, w0, b1, w1, bk, pn, rc, ac, gB, hd, v, bt, hdt, vt, lo, hi, RS, _, og, hF.frame (n := n) (fun q hq => rO_out (by omega)) p4 p7 p5 p6, (hQ.row (j := 100) (x := fun _ => 1) hn9 (by decide)).le (by omega) (Nat.le_refl _), rO_K, (rO_out (by omega)).trans hO⟩⟩
  | true =>
    obtain ⟨k9, rfl, -, hk60⟩ := b_in_n (a := 0) (b := 60) (by decide) (by decide) hin
    refine ⟨0, _, _, _, _, _, (by omega), (by omega), (by omega), (by omega), kL_setAltitude l E f n a (a + 99) _ _ _ _ _ _ _ (nI k9) _ _ _ _ (v 0) _ og c1 (kX12_setAltitude l E f n (hX := c1) (hB := c12) (hk := k1) (hbo := (by unfold kOut; omega)) (hxo := (by unfold kOut; omega)) (hpn := p2) (hrc := p3) (hin := hin)) ?_, ?_⟩
    · rintro f9 n9 ⟨rfl, rfl⟩
      exact ((kO_out (by unfold kOut; omega)).trans hO)
    rintro f1 n1 ⟨f9, ⟨rfl, rfl⟩, rfl⟩
    have hm1 : RM E (va_up (kO E f (a + 13) bk hd (z_move v (nI k9) pn)) (a + 99) (some (aJ E 1 (vp_updL og 0 (v 0).toInt64)))) (a + 55) r := hM.other (fun q h1 h2 => (va_up_ne _ _ (by omega)).trans ((kO_out (by unfold kOut; omega)).trans rfl))
    have jf1 : JF E a (kO E f (a + 13) bk hd (z_move v (nI k9) pn)) ep L g bk0 et er0 c0 here0 k0 kk0 po0 wo0 b0 w0 b1 w1 bk pn rc ac gB hd (z_move v (nI k9) pn) bt hdt vt lo hi RS := hF.kit p4 p5
    refine ⟨_, _, _, _, _, _, (by omega), (by omega), (by omega), (by omega), kX14_setAltitude l E _ _ (a + 55) (r := r) (hm := hm1) (pn := pn) (hin := hin) (hpn9 := r1) (hpn := p2), ⟨_, _, _, _, _, _, _, (va_up_ne _ _ (by omega)).trans jf1.1⟩, ⟨r, hm1⟩, ?_⟩
    rintro f2 n2 ⟨rfl, rfl⟩
    exact ⟨_, _, rO_K, rfl, (rO_out (by omega)).trans q_eq, fun _ => by rw [o_at, show (v 0) = (r 42) 0 from r8.2.1 0 (by decide)], ⟨ep, L, g, bk0, et, er0, c0, here0, k0, kk0, po0, wo0, b0, w0, b1, w1, bk, pn, rc, ac, gB, hd, (z_move v (nI k9) pn), bt, hdt, vt, lo, hi, RS, _, _, jf1.frame (n := n) (fun q hq => (rO_out (by omega)).trans (va_up_ne _ _ (by omega))) p4 p7 p5 p6, (((hQ.row (j := 100) (x := fun _ => 0) (Nat.le_refl _) (by decide)).kit (w := z_move v (nI k9) pn) (w' := z_move (r 42) (nI k9) pn) (k_inv_mv i1) (k_inv_mv i2) (v_ok_move r7 hk60) (v_rel_move r8) (X_E_lo r9 (fun q h1 h2 => ⟨z_move_lo (by omega) (by omega), z_move_lo (by omega) (by omega)⟩))).le (by omega) (Nat.le_refl _)), rO_K, (rO_out (by omega)).trans q_eq⟩⟩

set_option maxHeartbeats 1000000 in
theorem P_setServings (l : Launch) (E : q_E) (a BB : Nat) (f : q_H) (n : Nat) (hst : l.stackTraces = false) (hB : BB ≤ 2 ^ 29) (hJ : JJ E a BB f n) (x1 : Int32) : PAIR l E a (JJ E a (BB + 100)) yL_setServings wsL_setServings yX14_setServings wsX14_setServings [.int x1] f n := by
  obtain ⟨ep, L, g, bk0, et, er0, c0, here0, k0, kk0, po0, wo0, b0, w0, b1, w1, bk, pn, rc, ac, gB, hd, v, bt, hdt, vt, lo, hi, RS, r, og, hF, hQ, hM, hO⟩ := hJ
  have hF0 := hF
  obtain ⟨c1, c2, c3, c4, c5, c6, c7, c8, c9, c10, c12, c13, k1, k2, s1⟩ := hF0
  have hQ0 := hQ
  obtain ⟨p1, p2, p3, p4, p5, p6, p7, p8, i1, i2, r1, r2, r3, r4, r5, r6, r7, r8, r9⟩ := hQ0
  cases hin : b_in x1 1 12 with
  | false =>
    refine ⟨1, _, _, _, _, _, (by omega), (by omega), (by omega), (by omega), kL_setServings_X l E f n a (a + 99) _ _ _ _ _ _ _ x1 _ _ _ _ c1 (kX12_setServings_X l E f n (hX := c1) (hB := c12) (hk := k1) (hbo := (by unfold kOut; omega)) (hxo := (by unfold kOut; omega)) (hpn := p2) (hrc := p3) (hst := hst) (hin := hin)), ?_⟩
    rintro f1 n1 ⟨rfl, hn9⟩
    refine ⟨_, _, _, _, _, _, (by omega), (by omega), (by omega), (by omega), kX14_setServings_F l E _ _ (a + 55) (r := r) (hm := hM) (hin := hin), ⟨_, _, _, _, _, _, _, c1⟩, ⟨r, hM⟩, ?_⟩
    rintro f2 n2 ⟨rfl, rfl⟩
    exact ⟨_, og, rO_K, rfl, (rO_out (by omega)).trans hO, fun h9 => absurd h9 (by decide), ⟨ep, L, g, bk0, et, er0, c0, here0, k0, kk0, po0, wo0, b0, w0, b1, w1, bk, pn, rc, ac, gB, hd, v, bt, hdt, vt, lo, hi, RS, _, og, hF.frame (n := n) (fun q hq => rO_out (by omega)) p4 p7 p5 p6, (hQ.row (j := 100) (x := fun _ => 1) hn9 (by decide)).le (by omega) (Nat.le_refl _), rO_K, (rO_out (by omega)).trans hO⟩⟩
  | true =>
    refine ⟨0, _, _, _, _, _, (by omega), (by omega), (by omega), (by omega), kL_setServings l E f n a (a + 99) _ _ _ _ _ _ _ x1 _ _ _ _ (v 1) _ og c1 (kX12_setServings l E f n (hX := c1) (hB := c12) (hk := k1) (hbo := (by unfold kOut; omega)) (hxo := (by unfold kOut; omega)) (hpn := p2) (hrc := p3) (hin := hin)) ?_, ?_⟩
    · rintro f9 n9 ⟨rfl, rfl⟩
      exact ((kO_out (by unfold kOut; omega)).trans hO)
    rintro f1 n1 ⟨f9, ⟨rfl, rfl⟩, rfl⟩
    have hm1 : RM E (va_up (kO E f (a + 13) bk hd (upd v 1 x1)) (a + 99) (some (aJ E 1 (vp_updL og 0 (v 1).toInt64)))) (a + 55) r := hM.other (fun q h1 h2 => (va_up_ne _ _ (by omega)).trans ((kO_out (by unfold kOut; omega)).trans rfl))
    have jf1 : JF E a (kO E f (a + 13) bk hd (upd v 1 x1)) ep L g bk0 et er0 c0 here0 k0 kk0 po0 wo0 b0 w0 b1 w1 bk pn rc ac gB hd (upd v 1 x1) bt hdt vt lo hi RS := hF.kit p4 p5
    refine ⟨_, _, _, _, _, _, (by omega), (by omega), (by omega), (by omega), kX14_setServings l E _ _ (a + 55) (r := r) (hm := hm1) (hin := hin), ⟨_, _, _, _, _, _, _, (va_up_ne _ _ (by omega)).trans jf1.1⟩, ⟨r, hm1⟩, ?_⟩
    rintro f2 n2 ⟨rfl, rfl⟩
    exact ⟨_, _, rO_K, rfl, (rO_out (by omega)).trans q_eq, fun _ => by rw [o_at, show (v 1) = (r 42) 1 from r8.2.1 1 (by decide)], ⟨ep, L, g, bk0, et, er0, c0, here0, k0, kk0, po0, wo0, b0, w0, b1, w1, bk, pn, rc, ac, gB, hd, (upd v 1 x1), bt, hdt, vt, lo, hi, RS, _, _, jf1.frame (n := n) (fun q hq => (rO_out (by omega)).trans (va_up_ne _ _ (by omega))) p4 p7 p5 p6, (((hQ.row (j := 100) (x := fun _ => 0) (Nat.le_refl _) (by decide)).kit (w := upd v 1 x1) (w' := upd (r 42) 1 x1) (k_inv_up1 i1) (k_inv_up1 i2) (v_ok_up1 r7) (v_rel_u1 r8) (X_E_lo r9 (fun q h1 h2 => ⟨z_un (by omega), z_un (by omega)⟩))).le (by omega) (Nat.le_refl _)), rO_K, (rO_out (by omega)).trans q_eq⟩⟩

set_option maxHeartbeats 1000000 in
theorem P_setSpoon (l : Launch) (E : q_E) (a BB : Nat) (f : q_H) (n : Nat) (hst : l.stackTraces = false) (hB : BB ≤ 2 ^ 29) (hJ : JJ E a BB f n) (x1 : Int32) : PAIR l E a (JJ E a (BB + 100)) yL_setSpoon wsL_setSpoon yX14_setSpoon wsX14_setSpoon [.int x1] f n := by
  obtain ⟨ep, L, g, bk0, et, er0, c0, here0, k0, kk0, po0, wo0, b0, w0, b1, w1, bk, pn, rc, ac, gB, hd, v, bt, hdt, vt, lo, hi, RS, r, og, hF, hQ, hM, hO⟩ := hJ
  have hF0 := hF
  obtain ⟨c1, c2, c3, c4, c5, c6, c7, c8, c9, c10, c12, c13, k1, k2, s1⟩ := hF0
  have hQ0 := hQ
  obtain ⟨p1, p2, p3, p4, p5, p6, p7, p8, i1, i2, r1, r2, r3, r4, r5, r6, r7, r8, r9⟩ := hQ0
  cases hin : b_in x1 1 10 with
  | false =>
    refine ⟨1, _, _, _, _, _, (by omega), (by omega), (by omega), (by omega), kL_setSpoon_X l E f n a (a + 99) _ _ _ _ _ _ _ x1 _ _ _ _ c1 (kX12_setSpoon_X l E f n (hX := c1) (hB := c12) (hk := k1) (hbo := (by unfold kOut; omega)) (hxo := (by unfold kOut; omega)) (hpn := p2) (hrc := p3) (hst := hst) (hin := hin)), ?_⟩
    rintro f1 n1 ⟨rfl, hn9⟩
    refine ⟨_, _, _, _, _, _, (by omega), (by omega), (by omega), (by omega), kX14_setSpoon_F l E _ _ (a + 55) (r := r) (hm := hM) (hin := hin), ⟨_, _, _, _, _, _, _, c1⟩, ⟨r, hM⟩, ?_⟩
    rintro f2 n2 ⟨rfl, rfl⟩
    exact ⟨_, og, rO_K, rfl, (rO_out (by omega)).trans hO, fun h9 => absurd h9 (by decide), ⟨ep, L, g, bk0, et, er0, c0, here0, k0, kk0, po0, wo0, b0, w0, b1, w1, bk, pn, rc, ac, gB, hd, v, bt, hdt, vt, lo, hi, RS, _, og, hF.frame (n := n) (fun q hq => rO_out (by omega)) p4 p7 p5 p6, (hQ.row (j := 100) (x := fun _ => 1) hn9 (by decide)).le (by omega) (Nat.le_refl _), rO_K, (rO_out (by omega)).trans hO⟩⟩
  | true =>
    obtain ⟨k9, rfl, hk1, hk10⟩ := b_in_n (a := 1) (b := 10) (by decide) (by decide) hin
    refine ⟨0, _, _, _, _, _, (by omega), (by omega), (by omega), (by omega), kL_setSpoon l E f n a (a + 99) _ _ _ _ _ _ _ (nI k9) _ _ _ _ (v 2) _ og c1 (kX12_setSpoon l E f n (hX := c1) (hB := c12) (hk := k1) (hbo := (by unfold kOut; omega)) (hxo := (by unfold kOut; omega)) (hpn := p2) (hrc := p3) (hin := hin)) ?_, ?_⟩
    · rintro f9 n9 ⟨rfl, rfl⟩
      exact ((kO_out (by unfold kOut; omega)).trans hO)
    rintro f1 n1 ⟨f9, ⟨rfl, rfl⟩, rfl⟩
    have hm1 : RM E (va_up (kO E f (a + 13) bk hd (upd v 2 (nI k9))) (a + 99) (some (aJ E 1 (vp_updL og 0 (v 2).toInt64)))) (a + 55) r := hM.other (fun q h1 h2 => (va_up_ne _ _ (by omega)).trans ((kO_out (by unfold kOut; omega)).trans rfl))
    have jf1 : JF E a (kO E f (a + 13) bk hd (upd v 2 (nI k9))) ep L g bk0 et er0 c0 here0 k0 kk0 po0 wo0 b0 w0 b1 w1 bk pn rc ac gB hd (upd v 2 (nI k9)) bt hdt vt lo hi RS := hF.kit p4 p5
    refine ⟨_, _, _, _, _, _, (by omega), (by omega), (by omega), (by omega), kX14_setSpoon l E _ _ (a + 55) (r := r) (hm := hm1) (hin := hin), ⟨_, _, _, _, _, _, _, (va_up_ne _ _ (by omega)).trans jf1.1⟩, ⟨r, hm1⟩, ?_⟩
    rintro f2 n2 ⟨rfl, rfl⟩
    exact ⟨_, _, rO_K, rfl, (rO_out (by omega)).trans q_eq, fun _ => by rw [o_at, show (v 2) = (r 42) 2 from r8.2.1 2 (by decide)], ⟨ep, L, g, bk0, et, er0, c0, here0, k0, kk0, po0, wo0, b0, w0, b1, w1, bk, pn, rc, ac, gB, hd, (upd v 2 (nI k9)), bt, hdt, vt, lo, hi, RS, _, _, jf1.frame (n := n) (fun q hq => (rO_out (by omega)).trans (va_up_ne _ _ (by omega))) p4 p7 p5 p6, (((hQ.row (j := 100) (x := fun _ => 0) (Nat.le_refl _) (by decide)).kit (w := upd v 2 (nI k9)) (w' := upd (r 42) 2 (nI k9)) (k_inv_k i1 (z_un (by decide)) (z_un (by decide))) (k_inv_k i2 (z_un (by decide)) (z_un (by decide))) (v_ok_up2 r7 hk1 hk10) (v_rel_u2 r8) (X_E_lo r9 (fun q h1 h2 => ⟨z_un (by omega), z_un (by omega)⟩))).le (by omega) (Nat.le_refl _)), rO_K, (rO_out (by omega)).trans q_eq⟩⟩

set_option maxHeartbeats 1000000 in
theorem P_rest (l : Launch) (E : q_E) (a BB : Nat) (f : q_H) (n : Nat) (hst : l.stackTraces = false) (hB : BB ≤ 2 ^ 29) (hJ : JJ E a BB f n) (x1 : Int32) : PAIR l E a (JJ E a (BB + 100)) yL_rest wsL_rest yX14_rest wsX14_rest [.int x1] f n := by
  obtain ⟨ep, L, g, bk0, et, er0, c0, here0, k0, kk0, po0, wo0, b0, w0, b1, w1, bk, pn, rc, ac, gB, hd, v, bt, hdt, vt, lo, hi, RS, r, og, hF, hQ, hM, hO⟩ := hJ
  have hF0 := hF
  obtain ⟨c1, c2, c3, c4, c5, c6, c7, c8, c9, c10, c12, c13, k1, k2, s1⟩ := hF0
  have hQ0 := hQ
  obtain ⟨p1, p2, p3, p4, p5, p6, p7, p8, i1, i2, r1, r2, r3, r4, r5, r6, r7, r8, r9⟩ := hQ0
  cases hin : b_in x1 1 600 with
  | false =>
    refine ⟨1, _, _, _, _, _, (by omega), (by omega), (by omega), (by omega), kL_rest_X l E f n a (a + 99) _ _ _ _ _ _ _ x1 _ _ _ _ c1 (kX12_rest_X l E f n (hX := c1) (hB := c12) (hk := k1) (hbo := (by unfold kOut; omega)) (hxo := (by unfold kOut; omega)) (hpn := p2) (hrc := p3) (hst := hst) (hin := hin)), ?_⟩
    rintro f1 n1 ⟨rfl, hn9⟩
    refine ⟨_, _, _, _, _, _, (by omega), (by omega), (by omega), (by omega), kX14_rest_F l E _ _ (a + 55) (r := r) (hm := hM) (hin := hin), ⟨_, _, _, _, _, _, _, c1⟩, ⟨r, hM⟩, ?_⟩
    rintro f2 n2 ⟨rfl, rfl⟩
    exact ⟨_, og, rO_K, rfl, (rO_out (by omega)).trans hO, fun h9 => absurd h9 (by decide), ⟨ep, L, g, bk0, et, er0, c0, here0, k0, kk0, po0, wo0, b0, w0, b1, w1, bk, pn, rc, ac, gB, hd, v, bt, hdt, vt, lo, hi, RS, _, og, hF.frame (n := n) (fun q hq => rO_out (by omega)) p4 p7 p5 p6, (hQ.row (j := 100) (x := fun _ => 1) hn9 (by decide)).le (by omega) (Nat.le_refl _), rO_K, (rO_out (by omega)).trans hO⟩⟩
  | true =>
    have sr := (s_rel_pass X_E_ok (pn := pn) (but := 8) (mi := x1) (hd := hd) (hd' := r 9) (s := (v, 0, (-1))) (s' := (r 42, 0, (-1))) ⟨r8, r9, rfl⟩)
    refine ⟨0, _, _, _, _, _, (by omega), (by omega), (by omega), (by omega), kL_rest l E f n a (a + 99) _ _ _ _ _ _ _ x1 _ _ _ _ (z_hot (z_pass v x1 8 pn) pn) _ og c1 (kX12_rest l E f n (hX := c1) (hB := c12) (hk := k1) (hbo := (by unfold kOut; omega)) (hxo := (by unfold kOut; omega)) (hpn := p2) (hrc := p3) (hin := hin)) ?_, ?_⟩
    · rintro f9 n9 ⟨rfl, rfl⟩
      exact ((kO_out (by unfold kOut; omega)).trans hO)
    rintro f1 n1 ⟨f9, ⟨rfl, rfl⟩, rfl⟩
    have hm1 : RM E (va_up (kO E f (a + 13) bk hd (z_pass v x1 8 pn)) (a + 99) (some (aJ E 1 (vp_updL og 0 (z_hot (z_pass v x1 8 pn) pn).toInt64)))) (a + 55) r := hM.other (fun q h1 h2 => (va_up_ne _ _ (by omega)).trans ((kO_out (by unfold kOut; omega)).trans rfl))
    have jf1 : JF E a (kO E f (a + 13) bk hd (z_pass v x1 8 pn)) ep L g bk0 et er0 c0 here0 k0 kk0 po0 wo0 b0 w0 b1 w1 bk pn rc ac gB hd (z_pass v x1 8 pn) bt hdt vt lo hi RS := hF.kit p4 p5
    refine ⟨_, _, _, _, _, _, (by omega), (by omega), (by omega), (by omega), kX14_rest l E _ _ (a + 55) (r := r) (hm := hm1) (pn := pn) (hin := hin) (hpn9 := r1) (hpn := p2), ⟨_, _, _, _, _, _, _, (va_up_ne _ _ (by omega)).trans jf1.1⟩, ⟨r, hm1⟩, ?_⟩
    rintro f2 n2 ⟨rfl, rfl⟩
    exact ⟨_, _, rO_K, rfl, (rO_out (by omega)).trans q_eq, fun _ => by rw [o_at, show (z_hot (z_pass v x1 8 pn) pn) = z_hot (z_pass (r 42) x1 8 pn) pn from z_hot_eq pn (fun i hI => (sr.1.2.2 i hI).2.2.1)], ⟨ep, L, g, bk0, et, er0, c0, here0, k0, kk0, po0, wo0, b0, w0, b1, w1, bk, pn, rc, ac, gB, hd, (z_pass v x1 8 pn), bt, hdt, vt, lo, hi, RS, _, _, jf1.frame (n := n) (fun q hq => (rO_out (by omega)).trans (va_up_ne _ _ (by omega))) p4 p7 p5 p6, (((hQ.row (j := 100) (x := fun _ => 0) (Nat.le_refl _) (by decide)).kit (w := z_pass v x1 8 pn) (w' := z_pass (r 42) x1 8 pn) (k_inv_k i1 (z_pass_lo (by omega) (by omega)) (z_pass_lo (by omega) (by omega))) (k_inv_k i2 (z_pass_lo (by omega) (by omega)) (z_pass_lo (by omega) (by omega))) (v_ok_pass r7) (sr.1) (sr.2.1)).le (by omega) (Nat.le_refl _)), rO_K, (rO_out (by omega)).trans q_eq⟩⟩

set_option maxHeartbeats 1000000 in
theorem P_pourWater (l : Launch) (E : q_E) (a BB : Nat) (f : q_H) (n : Nat) (hst : l.stackTraces = false) (hB : BB ≤ 2 ^ 29) (hJ : JJ E a BB f n) (x1 x2 : Int32) : PAIR l E a (JJ E a (BB + 100)) yL_pourWater wsL_pourWater yX14_pourWater wsX14_pourWater [.int x1, .int x2] f n := by
  obtain ⟨ep, L, g, bk0, et, er0, c0, here0, k0, kk0, po0, wo0, b0, w0, b1, w1, bk, pn, rc, ac, gB, hd, v, bt, hdt, vt, lo, hi, RS, r, og, hF, hQ, hM, hO⟩ := hJ
  have hF0 := hF
  obtain ⟨c1, c2, c3, c4, c5, c6, c7, c8, c9, c10, c12, c13, k1, k2, s1⟩ := hF0
  have hQ0 := hQ
  obtain ⟨p1, p2, p3, p4, p5, p6, p7, p8, i1, i2, r1, r2, r3, r4, r5, r6, r7, r8, r9⟩ := hQ0
  by_cases h : ∃ i, i < pn ∧ x1 = nI i
  · obtain ⟨i, hI, rfl⟩ := h
    cases hin : b_in x2 1 200 with
    | false =>
      refine ⟨2, _, _, _, _, _, (by omega), (by omega), (by omega), (by omega), kL_pourWater_Y l E f n a (a + 99) _ _ _ _ _ _ _ (nI i) x2 _ _ _ _ c1 (kX12_pourWater_Y l E f n (hX := c1) (hB := c12) (hk := k1) (hbo := (by unfold kOut; omega)) (hxo := (by unfold kOut; omega)) (hpn := p2) (hrc := p3) (i := i) (hst := hst) (hi := hI) (hin := hin)), ?_⟩
      rintro f1 n1 ⟨rfl, hn9⟩
      refine ⟨_, _, _, _, _, _, (by omega), (by omega), (by omega), (by omega), kX14_pourWater_G l E _ _ (a + 55) (r := r) (hm := hM) (pn := pn) (i := i) (hpn9 := r1) (hpn := p2) (hi := hI) (hin := hin), ⟨_, _, _, _, _, _, _, c1⟩, ⟨r, hM⟩, ?_⟩
      rintro f2 n2 ⟨rfl, rfl⟩
      exact ⟨_, og, rO_K, rfl, (rO_out (by omega)).trans hO, fun h9 => absurd h9 (by decide), ⟨ep, L, g, bk0, et, er0, c0, here0, k0, kk0, po0, wo0, b0, w0, b1, w1, bk, pn, rc, ac, gB, hd, v, bt, hdt, vt, lo, hi, RS, _, og, hF.frame (n := n) (fun q hq => rO_out (by omega)) p4 p7 p5 p6, (hQ.row (j := 100) (x := fun _ => 2) hn9 (by decide)).le (by omega) (Nat.le_refl _), rO_K, (rO_out (by omega)).trans hO⟩⟩
    | true =>
      have sr := s_fill X_E_ok (b := 0) (u := (0, (-1))) (x := x2) hI rfl (⟨r8, r9, rfl⟩ : s_rel X_E pn hd (r 9) (v, 0, (-1)) (r 42, 0, (-1)))
      refine ⟨0, _, _, _, _, _, (by omega), (by omega), (by omega), (by omega), kL_pourWater l E f n a (a + 99) _ _ _ _ _ _ _ (nI i) x2 _ _ _ _ (z_frv hd v i x2) _ og c1 (kX12_pourWater l E f n (hX := c1) (hB := c12) (hk := k1) (hbo := (by unfold kOut; omega)) (hxo := (by unfold kOut; omega)) (hpn := p2) (hrc := p3) (i := i) (hi := hI) (hin := hin)) ?_, ?_⟩
      · rintro f9 n9 ⟨rfl, rfl⟩
        exact ((kO_out (by unfold kOut; omega)).trans hO)
      rintro f1 n1 ⟨f9, ⟨rfl, rfl⟩, rfl⟩
      have hm1 : RM E (va_up (kO E f (a + 13) bk hd (z_fillv hd v i 0 x2)) (a + 99) (some (aJ E 1 (vp_updL og 0 (z_frv hd v i x2).toInt64)))) (a + 55) r := hM.other (fun q h1 h2 => (va_up_ne _ _ (by omega)).trans ((kO_out (by unfold kOut; omega)).trans rfl))
      have jf1 : JF E a (kO E f (a + 13) bk hd (z_fillv hd v i 0 x2)) ep L g bk0 et er0 c0 here0 k0 kk0 po0 wo0 b0 w0 b1 w1 bk pn rc ac gB hd (z_fillv hd v i 0 x2) bt hdt vt lo hi RS := hF.kit p4 p5
      refine ⟨_, _, _, _, _, _, (by omega), (by omega), (by omega), (by omega), kX14_pourWater l E _ _ (a + 55) (r := r) (hm := hm1) (pn := pn) (i := i) (hpn9 := r1) (hpn := p2) (hi := hI) (hin := hin) (hvo := r7), ⟨_, _, _, _, _, _, _, (va_up_ne _ _ (by omega)).trans jf1.1⟩, ⟨r, hm1⟩, ?_⟩
      rintro f2 n2 ⟨rfl, rfl⟩
      exact ⟨_, _, rO_K, rfl, (rO_out (by omega)).trans q_eq, fun _ => by rw [o_at, show (z_frv hd v i x2) = z_frv (r 9) (r 42) i x2 from by show z_fr _ _ _ _ = z_fr _ _ _ _; rw [r8.1 i hI, (r8.2.2 i hI).1, (r8.2.2 i hI).2.1]], ⟨ep, L, g, bk0, et, er0, c0, here0, k0, kk0, po0, wo0, b0, w0, b1, w1, bk, pn, rc, ac, gB, hd, (z_fillv hd v i 0 x2), bt, hdt, vt, lo, hi, RS, _, _, jf1.frame (n := n) (fun q hq => (rO_out (by omega)).trans (va_up_ne _ _ (by omega))) p4 p7 p5 p6, (((hQ.row (j := 100) (x := fun _ => 0) (Nat.le_refl _) (by decide)).kit (w := z_fillv hd v i 0 x2) (w' := z_fillv (r 9) (r 42) i 0 x2) (k_inv_k i1 (z_fillv_n (by omega)) (z_fillv_n (by omega))) (k_inv_k i2 (z_fillv_n (by omega)) (z_fillv_n (by omega))) (v_ok_fill r7 hI) (sr.1) (sr.2.1)).le (by omega) (Nat.le_refl _)), rO_K, (rO_out (by omega)).trans q_eq⟩⟩
  · have hno := idx_no h
    refine ⟨1, _, _, _, _, _, (by omega), (by omega), (by omega), (by omega), kL_pourWater_X l E f n a (a + 99) _ _ _ _ _ _ _ x1 x2 _ _ _ _ c1 (kX12_pourWater_X l E f n (hX := c1) (hB := c12) (hk := k1) (hbo := (by unfold kOut; omega)) (hxo := (by unfold kOut; omega)) (hpn := p2) (hrc := p3) (a := x2) (hst := hst) (hno := hno)), ?_⟩
    rintro f1 n1 ⟨rfl, hn9⟩
    refine ⟨_, _, _, _, _, _, (by omega), (by omega), (by omega), (by omega), kX14_pourWater_F l E _ _ (a + 55) (r := r) (hm := hM) (y := x2) (pn := pn) (hpn9 := r1) (hpn := p2) (hno := hno), ⟨_, _, _, _, _, _, _, c1⟩, ⟨r, hM⟩, ?_⟩
    rintro f2 n2 ⟨rfl, rfl⟩
    exact ⟨_, og, rO_K, rfl, (rO_out (by omega)).trans hO, fun h9 => absurd h9 (by decide), ⟨ep, L, g, bk0, et, er0, c0, here0, k0, kk0, po0, wo0, b0, w0, b1, w1, bk, pn, rc, ac, gB, hd, v, bt, hdt, vt, lo, hi, RS, _, og, hF.frame (n := n) (fun q hq => rO_out (by omega)) p4 p7 p5 p6, (hQ.row (j := 100) (x := fun _ => 1) hn9 (by decide)).le (by omega) (Nat.le_refl _), rO_K, (rO_out (by omega)).trans hO⟩⟩

set_option maxHeartbeats 1000000 in
theorem P_pourMeal (l : Launch) (E : q_E) (a BB : Nat) (f : q_H) (n : Nat) (hst : l.stackTraces = false) (hB : BB ≤ 2 ^ 29) (hJ : JJ E a BB f n) (x1 x2 : Int32) : PAIR l E a (JJ E a (BB + 100)) yL_pourMeal wsL_pourMeal yX14_pourMeal wsX14_pourMeal [.int x1, .int x2] f n := by
  obtain ⟨ep, L, g, bk0, et, er0, c0, here0, k0, kk0, po0, wo0, b0, w0, b1, w1, bk, pn, rc, ac, gB, hd, v, bt, hdt, vt, lo, hi, RS, r, og, hF, hQ, hM, hO⟩ := hJ
  have hF0 := hF
  obtain ⟨c1, c2, c3, c4, c5, c6, c7, c8, c9, c10, c12, c13, k1, k2, s1⟩ := hF0
  have hQ0 := hQ
  obtain ⟨p1, p2, p3, p4, p5, p6, p7, p8, i1, i2, r1, r2, r3, r4, r5, r6, r7, r8, r9⟩ := hQ0
  by_cases h : ∃ i, i < pn ∧ x1 = nI i
  · obtain ⟨i, hI, rfl⟩ := h
    cases hin : b_in x2 1 200 with
    | false =>
      refine ⟨2, _, _, _, _, _, (by omega), (by omega), (by omega), (by omega), kL_pourMeal_Y l E f n a (a + 99) _ _ _ _ _ _ _ (nI i) x2 _ _ _ _ c1 (kX12_pourMeal_Y l E f n (hX := c1) (hB := c12) (hk := k1) (hbo := (by unfold kOut; omega)) (hxo := (by unfold kOut; omega)) (hpn := p2) (hrc := p3) (i := i) (hst := hst) (hi := hI) (hin := hin)), ?_⟩
      rintro f1 n1 ⟨rfl, hn9⟩
      refine ⟨_, _, _, _, _, _, (by omega), (by omega), (by omega), (by omega), kX14_pourMeal_G l E _ _ (a + 55) (r := r) (hm := hM) (pn := pn) (i := i) (hpn9 := r1) (hpn := p2) (hi := hI) (hin := hin), ⟨_, _, _, _, _, _, _, c1⟩, ⟨r, hM⟩, ?_⟩
      rintro f2 n2 ⟨rfl, rfl⟩
      exact ⟨_, og, rO_K, rfl, (rO_out (by omega)).trans hO, fun h9 => absurd h9 (by decide), ⟨ep, L, g, bk0, et, er0, c0, here0, k0, kk0, po0, wo0, b0, w0, b1, w1, bk, pn, rc, ac, gB, hd, v, bt, hdt, vt, lo, hi, RS, _, og, hF.frame (n := n) (fun q hq => rO_out (by omega)) p4 p7 p5 p6, (hQ.row (j := 100) (x := fun _ => 2) hn9 (by decide)).le (by omega) (Nat.le_refl _), rO_K, (rO_out (by omega)).trans hO⟩⟩
    | true =>
      have sr := s_fill X_E_ok (b := 1) (u := (0, (-1))) (x := x2) hI rfl (⟨r8, r9, rfl⟩ : s_rel X_E pn hd (r 9) (v, 0, (-1)) (r 42, 0, (-1)))
      refine ⟨0, _, _, _, _, _, (by omega), (by omega), (by omega), (by omega), kL_pourMeal l E f n a (a + 99) _ _ _ _ _ _ _ (nI i) x2 _ _ _ _ (z_frv hd v i x2) _ og c1 (kX12_pourMeal l E f n (hX := c1) (hB := c12) (hk := k1) (hbo := (by unfold kOut; omega)) (hxo := (by unfold kOut; omega)) (hpn := p2) (hrc := p3) (i := i) (hi := hI) (hin := hin)) ?_, ?_⟩
      · rintro f9 n9 ⟨rfl, rfl⟩
        exact ((kO_out (by unfold kOut; omega)).trans hO)
      rintro f1 n1 ⟨f9, ⟨rfl, rfl⟩, rfl⟩
      have hm1 : RM E (va_up (kO E f (a + 13) bk hd (z_fillv hd v i 1 x2)) (a + 99) (some (aJ E 1 (vp_updL og 0 (z_frv hd v i x2).toInt64)))) (a + 55) r := hM.other (fun q h1 h2 => (va_up_ne _ _ (by omega)).trans ((kO_out (by unfold kOut; omega)).trans rfl))
      have jf1 : JF E a (kO E f (a + 13) bk hd (z_fillv hd v i 1 x2)) ep L g bk0 et er0 c0 here0 k0 kk0 po0 wo0 b0 w0 b1 w1 bk pn rc ac gB hd (z_fillv hd v i 1 x2) bt hdt vt lo hi RS := hF.kit p4 p5
      refine ⟨_, _, _, _, _, _, (by omega), (by omega), (by omega), (by omega), kX14_pourMeal l E _ _ (a + 55) (r := r) (hm := hm1) (pn := pn) (i := i) (hpn9 := r1) (hpn := p2) (hi := hI) (hin := hin) (hvo := r7), ⟨_, _, _, _, _, _, _, (va_up_ne _ _ (by omega)).trans jf1.1⟩, ⟨r, hm1⟩, ?_⟩
      rintro f2 n2 ⟨rfl, rfl⟩
      exact ⟨_, _, rO_K, rfl, (rO_out (by omega)).trans q_eq, fun _ => by rw [o_at, show (z_frv hd v i x2) = z_frv (r 9) (r 42) i x2 from by show z_fr _ _ _ _ = z_fr _ _ _ _; rw [r8.1 i hI, (r8.2.2 i hI).1, (r8.2.2 i hI).2.1]], ⟨ep, L, g, bk0, et, er0, c0, here0, k0, kk0, po0, wo0, b0, w0, b1, w1, bk, pn, rc, ac, gB, hd, (z_fillv hd v i 1 x2), bt, hdt, vt, lo, hi, RS, _, _, jf1.frame (n := n) (fun q hq => (rO_out (by omega)).trans (va_up_ne _ _ (by omega))) p4 p7 p5 p6, (((hQ.row (j := 100) (x := fun _ => 0) (Nat.le_refl _) (by decide)).kit (w := z_fillv hd v i 1 x2) (w' := z_fillv (r 9) (r 42) i 1 x2) (k_inv_k i1 (z_fillv_n (by omega)) (z_fillv_n (by omega))) (k_inv_k i2 (z_fillv_n (by omega)) (z_fillv_n (by omega))) (v_ok_fill r7 hI) (sr.1) (sr.2.1)).le (by omega) (Nat.le_refl _)), rO_K, (rO_out (by omega)).trans q_eq⟩⟩
  · have hno := idx_no h
    refine ⟨1, _, _, _, _, _, (by omega), (by omega), (by omega), (by omega), kL_pourMeal_X l E f n a (a + 99) _ _ _ _ _ _ _ x1 x2 _ _ _ _ c1 (kX12_pourMeal_X l E f n (hX := c1) (hB := c12) (hk := k1) (hbo := (by unfold kOut; omega)) (hxo := (by unfold kOut; omega)) (hpn := p2) (hrc := p3) (a := x2) (hst := hst) (hno := hno)), ?_⟩
    rintro f1 n1 ⟨rfl, hn9⟩
    refine ⟨_, _, _, _, _, _, (by omega), (by omega), (by omega), (by omega), kX14_pourMeal_F l E _ _ (a + 55) (r := r) (hm := hM) (y := x2) (pn := pn) (hpn9 := r1) (hpn := p2) (hno := hno), ⟨_, _, _, _, _, _, _, c1⟩, ⟨r, hM⟩, ?_⟩
    rintro f2 n2 ⟨rfl, rfl⟩
    exact ⟨_, og, rO_K, rfl, (rO_out (by omega)).trans hO, fun h9 => absurd h9 (by decide), ⟨ep, L, g, bk0, et, er0, c0, here0, k0, kk0, po0, wo0, b0, w0, b1, w1, bk, pn, rc, ac, gB, hd, v, bt, hdt, vt, lo, hi, RS, _, og, hF.frame (n := n) (fun q hq => rO_out (by omega)) p4 p7 p5 p6, (hQ.row (j := 100) (x := fun _ => 1) hn9 (by decide)).le (by omega) (Nat.le_refl _), rO_K, (rO_out (by omega)).trans hO⟩⟩

set_option maxHeartbeats 1000000 in
theorem P_wash (l : Launch) (E : q_E) (a BB : Nat) (f : q_H) (n : Nat) (hst : l.stackTraces = false) (hB : BB ≤ 2 ^ 29) (hJ : JJ E a BB f n) (x1 : Int32) : PAIR l E a (JJ E a (BB + 100)) yL_wash wsL_wash yX14_wash wsX14_wash [.int x1] f n := by
  obtain ⟨ep, L, g, bk0, et, er0, c0, here0, k0, kk0, po0, wo0, b0, w0, b1, w1, bk, pn, rc, ac, gB, hd, v, bt, hdt, vt, lo, hi, RS, r, og, hF, hQ, hM, hO⟩ := hJ
  have hF0 := hF
  obtain ⟨c1, c2, c3, c4, c5, c6, c7, c8, c9, c10, c12, c13, k1, k2, s1⟩ := hF0
  have hQ0 := hQ
  obtain ⟨p1, p2, p3, p4, p5, p6, p7, p8, i1, i2, r1, r2, r3, r4, r5, r6, r7, r8, r9⟩ := hQ0
  by_cases h : ∃ i, i < pn ∧ x1 = nI i
  · obtain ⟨i, hI, rfl⟩ := h
    have sr := s_rel_pan X_E_ok (i := i) (u := (0, (-1))) (a := 0) (b := 0) (c := 20) (d := 0) (⟨r8, r9, rfl⟩ : s_rel X_E pn hd (r 9) (v, 0, (-1)) (r 42, 0, (-1))) rfl rfl rfl rfl
    have hvo9 : v_ok pn (r 9) (z_pan (r 42) i 0 0 20 0) := by
      obtain ⟨a9, b9, y9, e1, e2, e3, h1, h2⟩ := r7.2.2 i hI
      exact v_ok_pan r7 ⟨0, 0, y9, nI_0.symm, nI_0.symm, e3, by omega, h2⟩
    refine ⟨0, _, _, _, _, _, (by omega), (by omega), (by omega), (by omega), kL_wash l E f n a (a + 99) _ _ _ _ _ _ _ (nI i) _ _ _ _ (v (52 + 4 * i) + v (53 + 4 * i)) _ og c1 (kX12_wash l E f n (hX := c1) (hB := c12) (hk := k1) (hbo := (by unfold kOut; omega)) (hxo := (by unfold kOut; omega)) (hpn := p2) (hrc := p3) (i := i) (hi := hI)) ?_, ?_⟩
    · rintro f9 n9 ⟨rfl, rfl⟩
      exact ((kO_out (by unfold kOut; omega)).trans hO)
    rintro f1 n1 ⟨f9, ⟨rfl, rfl⟩, rfl⟩
    have hm1 : RM E (va_up (kO E f (a + 13) bk hd (z_pan v i 0 0 20 0)) (a + 99) (some (aJ E 1 (vp_updL og 0 (v (52 + 4 * i) + v (53 + 4 * i)).toInt64)))) (a + 55) r := hM.other (fun q h1 h2 => (va_up_ne _ _ (by omega)).trans ((kO_out (by unfold kOut; omega)).trans rfl))
    have jf1 : JF E a (kO E f (a + 13) bk hd (z_pan v i 0 0 20 0)) ep L g bk0 et er0 c0 here0 k0 kk0 po0 wo0 b0 w0 b1 w1 bk pn rc ac gB hd (z_pan v i 0 0 20 0) bt hdt vt lo hi RS := hF.kit p4 p5
    refine ⟨_, _, _, _, _, _, (by omega), (by omega), (by omega), (by omega), kX14_wash l E _ _ (a + 55) (r := r) (hm := hm1) (pn := pn) (i := i) (hpn9 := r1) (hpn := p2) (hi := hI), ⟨_, _, _, _, _, _, _, (va_up_ne _ _ (by omega)).trans jf1.1⟩, ⟨r, hm1⟩, ?_⟩
    rintro f2 n2 ⟨rfl, rfl⟩
    exact ⟨_, _, rO_K, rfl, (rO_out (by omega)).trans q_eq, fun _ => by rw [o_at, show (v (52 + 4 * i) + v (53 + 4 * i)) = (r 42) (52 + 4 * i) + (r 42) (53 + 4 * i) from by rw [(r8.2.2 i hI).1, (r8.2.2 i hI).2.1]], ⟨ep, L, g, bk0, et, er0, c0, here0, k0, kk0, po0, wo0, b0, w0, b1, w1, bk, pn, rc, ac, gB, hd, (z_pan v i 0 0 20 0), bt, hdt, vt, lo, hi, RS, _, _, jf1.frame (n := n) (fun q hq => (rO_out (by omega)).trans (va_up_ne _ _ (by omega))) p4 p7 p5 p6, (((hQ.row (j := 100) (x := fun _ => 0) (Nat.le_refl _) (by decide)).kit (w := z_pan v i 0 0 20 0) (w' := z_pan (r 42) i 0 0 20 0) (k_inv_k i1 (z_pan_n (by omega)) (z_pan_n (by omega))) (k_inv_k i2 (z_pan_n (by omega)) (z_pan_n (by omega))) (hvo9) (sr.1) (sr.2.1)).le (by omega) (Nat.le_refl _)), rO_K, (rO_out (by omega)).trans q_eq⟩⟩
  · have hno := idx_no h
    refine ⟨1, _, _, _, _, _, (by omega), (by omega), (by omega), (by omega), kL_wash_X l E f n a (a + 99) _ _ _ _ _ _ _ x1 _ _ _ _ c1 (kX12_wash_X l E f n (hX := c1) (hB := c12) (hk := k1) (hbo := (by unfold kOut; omega)) (hxo := (by unfold kOut; omega)) (hpn := p2) (hrc := p3) (hst := hst) (hno := hno)), ?_⟩
    rintro f1 n1 ⟨rfl, hn9⟩
    refine ⟨_, _, _, _, _, _, (by omega), (by omega), (by omega), (by omega), kX14_wash_F l E _ _ (a + 55) (r := r) (hm := hM) (pn := pn) (hpn9 := r1) (hpn := p2) (hno := hno), ⟨_, _, _, _, _, _, _, c1⟩, ⟨r, hM⟩, ?_⟩
    rintro f2 n2 ⟨rfl, rfl⟩
    exact ⟨_, og, rO_K, rfl, (rO_out (by omega)).trans hO, fun h9 => absurd h9 (by decide), ⟨ep, L, g, bk0, et, er0, c0, here0, k0, kk0, po0, wo0, b0, w0, b1, w1, bk, pn, rc, ac, gB, hd, v, bt, hdt, vt, lo, hi, RS, _, og, hF.frame (n := n) (fun q hq => rO_out (by omega)) p4 p7 p5 p6, (hQ.row (j := 100) (x := fun _ => 1) hn9 (by decide)).le (by omega) (Nat.le_refl _), rO_K, (rO_out (by omega)).trans hO⟩⟩

set_option maxHeartbeats 1000000 in
theorem P_feed (l : Launch) (E : q_E) (a BB : Nat) (f : q_H) (n : Nat) (hst : l.stackTraces = false) (hB : BB ≤ 2 ^ 29) (hJ : JJ E a BB f n) (x1 x2 x3 x4 x5 : Int32) : PAIR l E a (JJ E a (BB + 100)) yL_feed wsL_feed yX14_feed wsX14_feed [.int x1, .int x2, .int x3, .int x4, .int x5] f n := by
  obtain ⟨ep, L, g, bk0, et, er0, c0, here0, k0, kk0, po0, wo0, b0, w0, b1, w1, bk, pn, rc, ac, gB, hd, v, bt, hdt, vt, lo, hi, RS, r, og, hF, hQ, hM, hO⟩ := hJ
  have hF0 := hF
  obtain ⟨c1, c2, c3, c4, c5, c6, c7, c8, c9, c10, c12, c13, k1, k2, s1⟩ := hF0
  have hQ0 := hQ
  obtain ⟨p1, p2, p3, p4, p5, p6, p7, p8, i1, i2, r1, r2, r3, r4, r5, r6, r7, r8, r9⟩ := hQ0
  rcases Nat.lt_or_ge 1600 (L + 20) with hL | hL
  · refine ⟨1, _, _, _, _, _, (by omega), (by omega), (by omega), (by omega), kL_feed_X l E f n a (a + 99) _ _ _ _ _ _ _ x1 x2 x3 x4 x5 _ _ _ _ c1 (kX12_feed_X l E f n (hX := c1) (hT := c2) (hT1 := c3) (x1 := x1) (x2 := x2) (x3 := x3) (x4 := x4) (x5 := x5) (hst := hst) (hL9 := p1) (hL := hL)), ?_⟩
    rintro f1 n1 ⟨rfl, hn9⟩
    refine ⟨_, _, _, _, _, _, (by omega), (by omega), (by omega), (by omega), kX14_feed_F l E _ _ (a + 55) (r := r) (hm := hM) (x1 := x1) (x2 := x2) (x3 := x3) (x4 := x4) (x5 := x5) (L := L) (hL := r5.1) (hL9 := p1) (hL16 := hL), ⟨_, _, _, _, _, _, _, c1⟩, ⟨r, hM⟩, ?_⟩
    rintro f2 n2 ⟨rfl, rfl⟩
    exact ⟨_, og, rO_K, rfl, (rO_out (by omega)).trans hO, fun h9 => absurd h9 (by decide), ⟨ep, L, g, bk0, et, er0, c0, here0, k0, kk0, po0, wo0, b0, w0, b1, w1, bk, pn, rc, ac, gB, hd, v, bt, hdt, vt, lo, hi, RS, _, og, hF.frame (n := n) (fun q hq => rO_out (by omega)) p4 p7 p5 p6, (hQ.row (j := 100) (x := fun _ => 1) hn9 (by decide)).le (by omega) (Nat.le_refl _), rO_K, (rO_out (by omega)).trans hO⟩⟩
  · refine ⟨0, _, _, _, _, _, (by omega), (by omega), (by omega), (by omega), kL_feed l E f n a (a + 99) _ _ _ _ _ _ _ x1 x2 x3 x4 x5 _ _ _ _ (nI (L + 20)) _ og c1 (kX12_feed l E f n (hX := c1) (hT := c2) (hT1 := c3) (x1 := x1) (x2 := x2) (x3 := x3) (x4 := x4) (x5 := x5) (hL := hL) (hxt := ⟨by omega, by omega⟩)) ?_, ?_⟩
    · rintro f9 n9 ⟨rfl, rfl⟩
      exact ((va_up_ne _ _ (by omega)).trans ((va_up_ne _ _ (by omega)).trans hO))
    rintro f1 n1 ⟨f9, ⟨rfl, rfl⟩, rfl⟩
    have hm1 : RM E (va_up (va_up (va_up f (a + 1) (some (cTape (a + 1) (nI (L + 20))))) (a + 2) (some (aB E 1600 (t_four (t_four (t_four (t_four (t_four (g) L x1) (L + 4) x2) (L + 8) x3) (L + 12) x4) (L + 16) x5)))) (a + 99) (some (aJ E 1 (vp_updL og 0 (nI (L + 20)).toInt64)))) (a + 55) r := hM.other (fun q h1 h2 => (va_up_ne _ _ (by omega)).trans ((va_up_ne _ _ (by omega)).trans ((va_up_ne _ _ (by omega)).trans rfl)))
    have jf1 : JF E a (va_up (va_up f (a + 1) (some (cTape (a + 1) (nI (L + 20))))) (a + 2) (some (aB E 1600 (t_four (t_four (t_four (t_four (t_four (g) L x1) (L + 4) x2) (L + 8) x3) (L + 12) x4) (L + 16) x5)))) ep (L + 20) (t_four (t_four (t_four (t_four (t_four (g) L x1) (L + 4) x2) (L + 8) x3) (L + 12) x4) (L + 16) x5) bk0 et er0 c0 here0 k0 kk0 po0 wo0 b0 w0 b1 w1 bk pn rc ac gB hd v bt hdt vt lo hi RS := hF.feed p4 p5
    refine ⟨_, _, _, _, _, _, (by omega), (by omega), (by omega), (by omega), kX14_feed l E _ _ (a + 55) (r := r) (hm := hm1) (x1 := x1) (x2 := x2) (x3 := x3) (x4 := x4) (x5 := x5) (L := L) (hL := r5.1) (hL16 := hL) (hMn := by omega), ⟨_, _, _, _, _, _, _, (va_up_ne _ _ (by omega)).trans jf1.1⟩, ⟨r, hm1⟩, ?_⟩
    rintro f2 n2 ⟨⟨y9, rfl⟩, rfl⟩
    exact ⟨_, _, rO_K, rfl, (rO_out (by omega)).trans ((va_up_ne _ _ (by omega)).trans q_eq), fun _ => by rw [o_at, show (nI (L + 20)) = nI (L + 20) from rfl], ⟨ep, (L + 20), (t_four (t_four (t_four (t_four (t_four (g) L x1) (L + 4) x2) (L + 8) x3) (L + 12) x4) (L + 16) x5), bk0, et, er0, c0, here0, k0, kk0, po0, wo0, b0, w0, b1, w1, bk, pn, rc, ac, gB, hd, v, bt, hdt, vt, lo, hi, RS, _, _, jf1.frame (n := n) (fun q hq => (rO_out (by omega)).trans ((va_up_ne _ _ (by omega)).trans (va_up_ne _ _ (by omega)))) p4 p7 p5 p6, (((hQ.row (j := 100) (x := fun _ => 0) (Nat.le_refl _) (by decide)).tape (L9 := L + 20) (g9 := t_four (t_four (t_four (t_four (t_four (g) L x1) (L + 4) x2) (L + 8) x3) (L + 12) x4) (L + 16) x5) (x := fd4 (fd4 (fd4 (fd4 (fd4 (r 1) L x1) (L + 4) x2) (L + 8) x3) (L + 12) x4) (L + 16) x5) hL (tp_feed r5.2.2)).le (by omega) (Nat.le_succ _)), rO_K, (rO_out (by omega)).trans ((va_up_ne _ _ (by omega)).trans q_eq)⟩⟩

set_option maxHeartbeats 1000000 in
theorem P_trim (l : Launch) (E : q_E) (a BB : Nat) (f : q_H) (n : Nat) (hst : l.stackTraces = false) (hB : BB ≤ 2 ^ 29) (hJ : JJ E a BB f n) (x1 : Int32) : PAIR l E a (JJ E a (BB + 100)) yL_trim wsL_trim yX14_trim wsX14_trim [.int x1] f n := by
  obtain ⟨ep, L, g, bk0, et, er0, c0, here0, k0, kk0, po0, wo0, b0, w0, b1, w1, bk, pn, rc, ac, gB, hd, v, bt, hdt, vt, lo, hi, RS, r, og, hF, hQ, hM, hO⟩ := hJ
  have hF0 := hF
  obtain ⟨c1, c2, c3, c4, c5, c6, c7, c8, c9, c10, c12, c13, k1, k2, s1⟩ := hF0
  have hQ0 := hQ
  obtain ⟨p1, p2, p3, p4, p5, p6, p7, p8, i1, i2, r1, r2, r3, r4, r5, r6, r7, r8, r9⟩ := hQ0
  cases hin : b_in x1 0 (nI L) with
  | false =>
    refine ⟨1, _, _, _, _, _, (by omega), (by omega), (by omega), (by omega), kL_trim_X l E f n a (a + 99) _ _ _ _ _ _ _ x1 _ _ _ _ c1 (kX12_trim_X l E f n (hX := c1) (hT := c2) (g := g) (hst := hst) (hin := hin)), ?_⟩
    rintro f1 n1 ⟨rfl, hn9⟩
    refine ⟨_, _, _, _, _, _, (by omega), (by omega), (by omega), (by omega), kX14_trim_F l E _ _ (a + 55) (r := r) (hm := hM) (L := L) (hL := r5.1) (hL16 := p1) (hno := hin), ⟨_, _, _, _, _, _, _, c1⟩, ⟨r, hM⟩, ?_⟩
    rintro f2 n2 ⟨rfl, rfl⟩
    exact ⟨_, og, rO_K, rfl, (rO_out (by omega)).trans hO, fun h9 => absurd h9 (by decide), ⟨ep, L, g, bk0, et, er0, c0, here0, k0, kk0, po0, wo0, b0, w0, b1, w1, bk, pn, rc, ac, gB, hd, v, bt, hdt, vt, lo, hi, RS, _, og, hF.frame (n := n) (fun q hq => rO_out (by omega)) p4 p7 p5 p6, (hQ.row (j := 100) (x := fun _ => 1) hn9 (by decide)).le (by omega) (Nat.le_refl _), rO_K, (rO_out (by omega)).trans hO⟩⟩
  | true =>
    obtain ⟨j9, rfl, -, hj9⟩ := b_in_n (a := 0) (b := L) (by omega) (by omega) hin
    refine ⟨0, _, _, _, _, _, (by omega), (by omega), (by omega), (by omega), kL_trim l E f n a (a + 99) _ _ _ _ _ _ _ (nI j9) _ _ _ _ (nI j9) _ og c1 (kX12_trim l E f n (hX := c1) (hT := c2) (g := g) (hin := hin) (hxt := by omega)) ?_, ?_⟩
    · rintro f9 n9 ⟨rfl, rfl⟩
      exact ((va_up_ne _ _ (by omega)).trans hO)
    rintro f1 n1 ⟨f9, ⟨rfl, rfl⟩, rfl⟩
    have hm1 : RM E (va_up (va_up f (a + 1) (some (cTape (a + 1) (nI j9)))) (a + 99) (some (aJ E 1 (vp_updL og 0 (nI j9).toInt64)))) (a + 55) r := hM.other (fun q h1 h2 => (va_up_ne _ _ (by omega)).trans ((va_up_ne _ _ (by omega)).trans rfl))
    have jf1 : JF E a (va_up f (a + 1) (some (cTape (a + 1) (nI j9)))) ep j9 g bk0 et er0 c0 here0 k0 kk0 po0 wo0 b0 w0 b1 w1 bk pn rc ac gB hd v bt hdt vt lo hi RS := hF.trim p4 p5
    refine ⟨_, _, _, _, _, _, (by omega), (by omega), (by omega), (by omega), kX14_trim l E _ _ (a + 55) (r := r) (hm := hm1) (L := L) (j := j9) (hL := r5.1) (hL16 := p1) (hj := hj9), ⟨_, _, _, _, _, _, _, (va_up_ne _ _ (by omega)).trans jf1.1⟩, ⟨r, hm1⟩, ?_⟩
    rintro f2 n2 ⟨rfl, rfl⟩
    exact ⟨_, _, rO_K, rfl, (rO_out (by omega)).trans q_eq, fun _ => by rw [o_at, show (nI j9) = nI j9 from rfl], ⟨ep, j9, g, bk0, et, er0, c0, here0, k0, kk0, po0, wo0, b0, w0, b1, w1, bk, pn, rc, ac, gB, hd, v, bt, hdt, vt, lo, hi, RS, _, _, jf1.frame (n := n) (fun q hq => (rO_out (by omega)).trans (va_up_ne _ _ (by omega))) p4 p7 p5 p6, (((hQ.row (j := 100) (x := fun _ => 0) (Nat.le_refl _) (by decide)).trim (L9 := j9) hj9).le (by omega) (Nat.le_refl _)), rO_K, (rO_out (by omega)).trans q_eq⟩⟩

set_option maxHeartbeats 1000000 in
theorem P_cook (l : Launch) (E : q_E) (a BB : Nat) (f : q_H) (n : Nat) (hst : l.stackTraces = false) (hB : BB ≤ 2 ^ 29) (hJ : JJ E a BB f n) (x1 : Int32) : PAIR l E a (JJ E a (BB + 100)) yL_cook wsL_cook yX14_cook wsX14_cook [.int x1] f n := by
  obtain ⟨ep, L, g, bk0, et, er0, c0, here0, k0, kk0, po0, wo0, b0, w0, b1, w1, bk, pn, rc, ac, gB, hd, v, bt, hdt, vt, lo, hi, RS, r, og, hF, hQ, hM, hO⟩ := hJ
  have hF0 := hF
  obtain ⟨c1, c2, c3, c4, c5, c6, c7, c8, c9, c10, c12, c13, k1, k2, s1⟩ := hF0
  have hQ0 := hQ
  obtain ⟨p1, p2, p3, p4, p5, p6, p7, p8, i1, i2, r1, r2, r3, r4, r5, r6, r7, r8, r9⟩ := hQ0
  by_cases h : ∃ i, i < rc ∧ x1 = nI i
  · obtain ⟨i, hI, rfl⟩ := h
    have hs : s_blk pn (RS i) := s_rec rc r6 i hI
    have sr := hs.2.2.2.2 X_E X_E_ok BB hd (r 9) (v, 0, (-1)) (r 42, 0, (-1)) hB i1 i2 ⟨r8, r9, rfl⟩
    refine ⟨0, _, _, _, _, _, (by omega), (by omega), (by omega), (by omega), kL_cook l E f n a (a + 99) _ _ _ _ _ _ _ (nI i) _ _ _ _ ((RS i hd (v, 0, (-1))).1 3 - v 3) _ og c1 (kX12_cook l E f n (hX := c1) (hB := c12) (hk := k1) (hbo := (by unfold kOut; omega)) (hxo := (by unfold kOut; omega)) (hpn := p2) (hrc := p3) (hc := c9) (hG := c13) (hck := (by unfold kOut; omega)) (hbo4 := (by unfold kOut; omega)) (hbc := by omega) (hb4c := by omega) (hreg := (fun q h1 h2 => ⟨by unfold kOut; omega, by omega⟩)) (hB29 := hB) (hinv := i1) (hi9 := hI) (hRS := s1)) ?_, ?_⟩
    · rintro f9 n9 ⟨rfl, rfl⟩
      exact ((kO_out (by unfold kOut; omega)).trans ((va_up_ne _ _ (by omega)).trans hO))
    rintro f1 n1 ⟨f9, ⟨rfl, rfl⟩, rfl⟩
    have hm1 : RM E (va_up (kO E (va_up f (a + 33) (some (cCook (a + 13) (nI (RS i hd (v, 0, (-1))).2.1) (RS i hd (v, 0, (-1))).2.2))) (a + 13) bk hd (RS i hd (v, 0, (-1))).1) (a + 99) (some (aJ E 1 (vp_updL og 0 ((RS i hd (v, 0, (-1))).1 3 - v 3).toInt64)))) (a + 55) r := hM.other (fun q h1 h2 => (va_up_ne _ _ (by omega)).trans ((kO_out (by unfold kOut; omega)).trans ((va_up_ne _ _ (by omega)).trans rfl)))
    have jf1 : JF E a (kO E (va_up f (a + 33) (some (cCook (a + 13) (nI (RS i hd (v, 0, (-1))).2.1) (RS i hd (v, 0, (-1))).2.2))) (a + 13) bk hd (RS i hd (v, 0, (-1))).1) ep L g bk0 et er0 c0 here0 k0 kk0 po0 wo0 (nI (RS i hd (v, 0, (-1))).2.1) ((RS i hd (v, 0, (-1))).2.2) b1 w1 bk pn rc ac gB hd ((RS i hd (v, 0, (-1))).1) bt hdt vt lo hi RS := hF.cook p4 p5
    refine ⟨_, _, _, _, _, _, (by omega), (by omega), (by omega), (by omega), kX14_cook l E _ _ (a + 55) (r := r) (hm := hm1) (pn := pn) (BB := BB) (Bw := bR r 8) (RS := RS) (r9 := i) (rc := rc) (hpn9 := r1) (hpn := p2) (hB8 := rfl) (hB29 := hB) (hinv := i2) (hvo := r7) (hRS := mRS_le r6 (by omega)) (hrc9 := r2) (hrc := p3) (hrl := hI), ⟨_, _, _, _, _, _, _, (va_up_ne _ _ (by omega)).trans jf1.1⟩, ⟨r, hm1⟩, ?_⟩
    rintro f2 n2 ⟨rfl, rfl⟩
    exact ⟨_, _, rO_K, rfl, (rO_out (by omega)).trans q_eq, fun _ => by rw [o_at, show ((RS i hd (v, 0, (-1))).1 3 - v 3) = (RS i (r 9) (r 42, 0, (-1))).1 3 - (r 42) 3 from by rw [sr.1.2.1 3 (by decide), r8.2.1 3 (by decide)]], ⟨ep, L, g, bk0, et, er0, c0, here0, k0, kk0, po0, wo0, (nI (RS i hd (v, 0, (-1))).2.1), ((RS i hd (v, 0, (-1))).2.2), b1, w1, bk, pn, rc, ac, gB, hd, ((RS i hd (v, 0, (-1))).1), bt, hdt, vt, lo, hi, RS, _, _, jf1.frame (n := n) (fun q hq => (rO_out (by omega)).trans (va_up_ne _ _ (by omega))) p4 p7 p5 p6, (((((hQ.row (j := 100) (x := fun _ => 0) (Nat.le_refl _) (by decide)).le (B9 := BB + 100) (by omega) (Nat.le_refl _)).kit (w := (RS i hd (v, 0, (-1))).1) (w' := (RS i (r 9) (r 42, 0, (-1))).1) (k_inv_end (hs.2.1 BB hd (v, 0, (-1)) hB i1)) (k_inv_end (hs.2.1 BB (r 9) (r 42, 0, (-1)) hB i2)) (hs.1 (r 9) (r 42, 0, (-1)) r7) sr.1 sr.2.1).row (j := 110) (Nat.le_refl _) (by decide)).row (j := 111) (Nat.le_refl _) (by decide)), rO_K, (rO_out (by omega)).trans q_eq⟩⟩
  · have hno := idx_no h
    refine ⟨1, _, _, _, _, _, (by omega), (by omega), (by omega), (by omega), kL_cook_X l E f n a (a + 99) _ _ _ _ _ _ _ x1 _ _ _ _ c1 (kX12_cook_X l E f n (hX := c1) (hB := c12) (hk := k1) (hbo := (by unfold kOut; omega)) (hxo := (by unfold kOut; omega)) (hpn := p2) (hrc := p3) (hst := hst) (hno := hno)), ?_⟩
    rintro f1 n1 ⟨rfl, hn9⟩
    refine ⟨_, _, _, _, _, _, (by omega), (by omega), (by omega), (by omega), kX14_cook_F l E _ _ (a + 55) (r := r) (hm := hM) (rc := rc) (hrc9 := r2) (hrc := p3) (hno := hno), ⟨_, _, _, _, _, _, _, c1⟩, ⟨r, hM⟩, ?_⟩
    rintro f2 n2 ⟨rfl, rfl⟩
    exact ⟨_, og, rO_K, rfl, (rO_out (by omega)).trans hO, fun h9 => absurd h9 (by decide), ⟨ep, L, g, bk0, et, er0, c0, here0, k0, kk0, po0, wo0, b0, w0, b1, w1, bk, pn, rc, ac, gB, hd, v, bt, hdt, vt, lo, hi, RS, _, og, hF.frame (n := n) (fun q hq => rO_out (by omega)) p4 p7 p5 p6, (hQ.row (j := 100) (x := fun _ => 1) hn9 (by decide)).le (by omega) (Nat.le_refl _), rO_K, (rO_out (by omega)).trans hO⟩⟩

set_option maxHeartbeats 1000000 in
theorem P_minutesOfRecipe (l : Launch) (E : q_E) (a BB : Nat) (f : q_H) (n : Nat) (hst : l.stackTraces = false) (hB : BB ≤ 2 ^ 29) (hJ : JJ E a BB f n) (x1 : Int32) : PAIR l E a (JJ E a (BB + 100)) yL_minutesOfRecipe wsL_minutesOfRecipe yX14_minutesOfRecipe wsX14_minutesOfRecipe [.int x1] f n := by
  obtain ⟨ep, L, g, bk0, et, er0, c0, here0, k0, kk0, po0, wo0, b0, w0, b1, w1, bk, pn, rc, ac, gB, hd, v, bt, hdt, vt, lo, hi, RS, r, og, hF, hQ, hM, hO⟩ := hJ
  have hF0 := hF
  obtain ⟨c1, c2, c3, c4, c5, c6, c7, c8, c9, c10, c12, c13, k1, k2, s1⟩ := hF0
  have hQ0 := hQ
  obtain ⟨p1, p2, p3, p4, p5, p6, p7, p8, i1, i2, r1, r2, r3, r4, r5, r6, r7, r8, r9⟩ := hQ0
  by_cases h : ∃ i, i < rc ∧ x1 = nI i
  · obtain ⟨i, hI, rfl⟩ := h
    have hs : s_blk pn (RS i) := s_rec rc r6 i hI
    have sr := hs.2.2.2.2 X_E X_E_ok BB hd (r 9) (v, 0, (-1)) (r 42, 0, (-1)) hB i1 i2 ⟨r8, r9, rfl⟩
    refine ⟨0, _, _, _, _, _, (by omega), (by omega), (by omega), (by omega), kL_minutesOfRecipe l E f n a (a + 99) _ _ _ _ _ _ _ (nI i) _ _ _ _ ((RS i hd (v, 0, (-1))).1 3 - v 3) _ og c1 (kX12_minutesOfRecipe l E f n (hX := c1) (hB := c12) (hc := c10) (hG := c13) (hk := k1) (hkt := k2) (hbo := (by unfold kOut; omega)) (hxo := (by unfold kOut; omega)) (hpn := p2) (hrc := p3) (hdis := Or.inr (by omega)) (hbt := (by unfold kOut; omega)) (hbt4 := (by unfold kOut; omega)) (hxt := (by unfold kOut; omega)) (htk := (by unfold kOut; omega)) (hbc := by omega) (hb4c := by omega) (hxk := by omega) (hreg := fun q h1 h2 => ⟨by unfold kOut; omega, by omega⟩) (hB29 := hB) (hinv := i1) (hi9 := hI) (hRS := s1) (hsb := hs) (hktk := (by unfold kOut; omega))) ?_, ?_⟩
    · rintro f9 n9 ⟨rfl, rfl⟩
      exact ((kO_out (by unfold kOut; omega)).trans ((va_up_ne _ _ (by omega)).trans hO))
    rintro f1 n1 ⟨f9, ⟨rfl, rfl⟩, rfl⟩
    have hm1 : RM E (va_up (kO E (va_up f (a + 54) (some (cCook (a + 34) (nI (RS i (z_hdn hdt hd pn) (z_bec vt v pn, 0, (-1))).2.1) (RS i (z_hdn hdt hd pn) (z_bec vt v pn, 0, (-1))).2.2))) (a + 34) bk (z_hdn hdt hd pn) (RS i (z_hdn hdt hd pn) (z_bec vt v pn, 0, (-1))).1) (a + 99) (some (aJ E 1 (vp_updL og 0 ((RS i hd (v, 0, (-1))).1 3 - v 3).toInt64)))) (a + 55) r := hM.other (fun q h1 h2 => (va_up_ne _ _ (by omega)).trans ((kO_out (by unfold kOut; omega)).trans ((va_up_ne _ _ (by omega)).trans rfl)))
    have jf1 : JF E a (kO E (va_up f (a + 54) (some (cCook (a + 34) (nI (RS i (z_hdn hdt hd pn) (z_bec vt v pn, 0, (-1))).2.1) (RS i (z_hdn hdt hd pn) (z_bec vt v pn, 0, (-1))).2.2))) (a + 34) bk (z_hdn hdt hd pn) (RS i (z_hdn hdt hd pn) (z_bec vt v pn, 0, (-1))).1) ep L g bk0 et er0 c0 here0 k0 kk0 po0 wo0 b0 w0 (nI (RS i (z_hdn hdt hd pn) (z_bec vt v pn, 0, (-1))).2.1) ((RS i (z_hdn hdt hd pn) (z_bec vt v pn, 0, (-1))).2.2) bk pn rc ac gB hd v bk (z_hdn hdt hd pn) ((RS i (z_hdn hdt hd pn) (z_bec vt v pn, 0, (-1))).1) lo hi RS := hF.trial p4 p5
    refine ⟨_, _, _, _, _, _, (by omega), (by omega), (by omega), (by omega), kX14_minutesOfRecipe l E _ _ (a + 55) (r := r) (hm := hm1) (pn := pn) (BB := BB) (Bw := bR r 8) (RS := RS) (r9 := i) (rc := rc) (hpn9 := r1) (hpn := p2) (hB8 := rfl) (hB29 := hB) (hinv := i2) (hvo := r7) (hRS := mRS_le r6 (by omega)) (hrc9 := r2) (hrc := p3) (hrl := hI), ⟨_, _, _, _, _, _, _, (va_up_ne _ _ (by omega)).trans jf1.1⟩, ⟨r, hm1⟩, ?_⟩
    rintro f2 n2 ⟨rfl, rfl⟩
    exact ⟨_, _, rO_K, rfl, (rO_out (by omega)).trans q_eq, fun _ => by rw [o_at, show ((RS i hd (v, 0, (-1))).1 3 - v 3) = (RS i (r 9) (r 42, 0, (-1))).1 3 - (r 42) 3 from by rw [sr.1.2.1 3 (by decide), r8.2.1 3 (by decide)]], ⟨ep, L, g, bk0, et, er0, c0, here0, k0, kk0, po0, wo0, b0, w0, (nI (RS i (z_hdn hdt hd pn) (z_bec vt v pn, 0, (-1))).2.1), ((RS i (z_hdn hdt hd pn) (z_bec vt v pn, 0, (-1))).2.2), bk, pn, rc, ac, gB, hd, v, bk, (z_hdn hdt hd pn), ((RS i (z_hdn hdt hd pn) (z_bec vt v pn, 0, (-1))).1), lo, hi, RS, _, _, jf1.frame (n := n) (fun q hq => (rO_out (by omega)).trans (va_up_ne _ _ (by omega))) p4 p7 p5 p6, (((((hQ.row (j := 100) (x := fun _ => 0) (Nat.le_refl _) (by decide)).row (j := 43) (Nat.le_refl _) (by decide)).row (j := 110) (Nat.le_refl _) (by decide)).row (j := 111) (Nat.le_refl _) (by decide)).le (by omega) (Nat.le_refl _)), rO_K, (rO_out (by omega)).trans q_eq⟩⟩
  · have hno := idx_no h
    refine ⟨1, _, _, _, _, _, (by omega), (by omega), (by omega), (by omega), kL_minutesOfRecipe_X l E f n a (a + 99) _ _ _ _ _ _ _ x1 _ _ _ _ c1 (kX12_minutesOfRecipe_X l E f n (hX := c1) (hB := c12) (hk := k1) (hbo := (by unfold kOut; omega)) (hxo := (by unfold kOut; omega)) (hpn := p2) (hrc := p3) (hst := hst) (hno := hno)), ?_⟩
    rintro f1 n1 ⟨rfl, hn9⟩
    refine ⟨_, _, _, _, _, _, (by omega), (by omega), (by omega), (by omega), kX14_minutesOfRecipe_F l E _ _ (a + 55) (r := r) (hm := hM) (rc := rc) (hrc9 := r2) (hrc := p3) (hno := hno), ⟨_, _, _, _, _, _, _, c1⟩, ⟨r, hM⟩, ?_⟩
    rintro f2 n2 ⟨rfl, rfl⟩
    exact ⟨_, og, rO_K, rfl, (rO_out (by omega)).trans hO, fun h9 => absurd h9 (by decide), ⟨ep, L, g, bk0, et, er0, c0, here0, k0, kk0, po0, wo0, b0, w0, b1, w1, bk, pn, rc, ac, gB, hd, v, bt, hdt, vt, lo, hi, RS, _, og, hF.frame (n := n) (fun q hq => rO_out (by omega)) p4 p7 p5 p6, (hQ.row (j := 100) (x := fun _ => 1) hn9 (by decide)).le (by omega) (Nat.le_refl _), rO_K, (rO_out (by omega)).trans hO⟩⟩

set_option maxHeartbeats 1000000 in
theorem P_warningsOfRecipe (l : Launch) (E : q_E) (a BB : Nat) (f : q_H) (n : Nat) (hst : l.stackTraces = false) (hB : BB ≤ 2 ^ 29) (hJ : JJ E a BB f n) (x1 : Int32) : PAIR l E a (JJ E a (BB + 100)) yL_warningsOfRecipe wsL_warningsOfRecipe yX14_warningsOfRecipe wsX14_warningsOfRecipe [.int x1] f n := by
  obtain ⟨ep, L, g, bk0, et, er0, c0, here0, k0, kk0, po0, wo0, b0, w0, b1, w1, bk, pn, rc, ac, gB, hd, v, bt, hdt, vt, lo, hi, RS, r, og, hF, hQ, hM, hO⟩ := hJ
  have hF0 := hF
  obtain ⟨c1, c2, c3, c4, c5, c6, c7, c8, c9, c10, c12, c13, k1, k2, s1⟩ := hF0
  have hQ0 := hQ
  obtain ⟨p1, p2, p3, p4, p5, p6, p7, p8, i1, i2, r1, r2, r3, r4, r5, r6, r7, r8, r9⟩ := hQ0
  by_cases h : ∃ i, i < rc ∧ x1 = nI i
  · obtain ⟨i, hI, rfl⟩ := h
    have hs : s_blk pn (RS i) := s_rec rc r6 i hI
    have sr := hs.2.2.2.2 X_E X_E_ok BB hd (r 9) (v, 0, (-1)) (r 42, 0, (-1)) hB i1 i2 ⟨r8, r9, rfl⟩
    refine ⟨0, _, _, _, _, _, (by omega), (by omega), (by omega), (by omega), kL_warningsOfRecipe l E f n a (a + 99) _ _ _ _ _ _ _ (nI i) _ _ _ _ ((RS i hd (v, 0, (-1))).1 4 - v 4) _ og c1 (kX12_warningsOfRecipe l E f n (hX := c1) (hB := c12) (hc := c10) (hG := c13) (hk := k1) (hkt := k2) (hbo := (by unfold kOut; omega)) (hxo := (by unfold kOut; omega)) (hpn := p2) (hrc := p3) (hdis := Or.inr (by omega)) (hbt := (by unfold kOut; omega)) (hbt4 := (by unfold kOut; omega)) (hxt := (by unfold kOut; omega)) (htk := (by unfold kOut; omega)) (hbc := by omega) (hb4c := by omega) (hxk := by omega) (hreg := fun q h1 h2 => ⟨by unfold kOut; omega, by omega⟩) (hB29 := hB) (hinv := i1) (hi9 := hI) (hRS := s1) (hsb := hs) (hktk := (by unfold kOut; omega))) ?_, ?_⟩
    · rintro f9 n9 ⟨rfl, rfl⟩
      exact ((kO_out (by unfold kOut; omega)).trans ((va_up_ne _ _ (by omega)).trans hO))
    rintro f1 n1 ⟨f9, ⟨rfl, rfl⟩, rfl⟩
    have hm1 : RM E (va_up (kO E (va_up f (a + 54) (some (cCook (a + 34) (nI (RS i (z_hdn hdt hd pn) (z_bec vt v pn, 0, (-1))).2.1) (RS i (z_hdn hdt hd pn) (z_bec vt v pn, 0, (-1))).2.2))) (a + 34) bk (z_hdn hdt hd pn) (RS i (z_hdn hdt hd pn) (z_bec vt v pn, 0, (-1))).1) (a + 99) (some (aJ E 1 (vp_updL og 0 ((RS i hd (v, 0, (-1))).1 4 - v 4).toInt64)))) (a + 55) r := hM.other (fun q h1 h2 => (va_up_ne _ _ (by omega)).trans ((kO_out (by unfold kOut; omega)).trans ((va_up_ne _ _ (by omega)).trans rfl)))
    have jf1 : JF E a (kO E (va_up f (a + 54) (some (cCook (a + 34) (nI (RS i (z_hdn hdt hd pn) (z_bec vt v pn, 0, (-1))).2.1) (RS i (z_hdn hdt hd pn) (z_bec vt v pn, 0, (-1))).2.2))) (a + 34) bk (z_hdn hdt hd pn) (RS i (z_hdn hdt hd pn) (z_bec vt v pn, 0, (-1))).1) ep L g bk0 et er0 c0 here0 k0 kk0 po0 wo0 b0 w0 (nI (RS i (z_hdn hdt hd pn) (z_bec vt v pn, 0, (-1))).2.1) ((RS i (z_hdn hdt hd pn) (z_bec vt v pn, 0, (-1))).2.2) bk pn rc ac gB hd v bk (z_hdn hdt hd pn) ((RS i (z_hdn hdt hd pn) (z_bec vt v pn, 0, (-1))).1) lo hi RS := hF.trial p4 p5
    refine ⟨_, _, _, _, _, _, (by omega), (by omega), (by omega), (by omega), kX14_warningsOfRecipe l E _ _ (a + 55) (r := r) (hm := hm1) (pn := pn) (BB := BB) (Bw := bR r 8) (RS := RS) (r9 := i) (rc := rc) (hpn9 := r1) (hpn := p2) (hB8 := rfl) (hB29 := hB) (hinv := i2) (hvo := r7) (hRS := mRS_le r6 (by omega)) (hrc9 := r2) (hrc := p3) (hrl := hI), ⟨_, _, _, _, _, _, _, (va_up_ne _ _ (by omega)).trans jf1.1⟩, ⟨r, hm1⟩, ?_⟩
    rintro f2 n2 ⟨rfl, rfl⟩
    exact ⟨_, _, rO_K, rfl, (rO_out (by omega)).trans q_eq, fun _ => by rw [o_at, show ((RS i hd (v, 0, (-1))).1 4 - v 4) = (RS i (r 9) (r 42, 0, (-1))).1 4 - (r 42) 4 from by rw [sr.2.1.1, r9.1]], ⟨ep, L, g, bk0, et, er0, c0, here0, k0, kk0, po0, wo0, b0, w0, (nI (RS i (z_hdn hdt hd pn) (z_bec vt v pn, 0, (-1))).2.1), ((RS i (z_hdn hdt hd pn) (z_bec vt v pn, 0, (-1))).2.2), bk, pn, rc, ac, gB, hd, v, bk, (z_hdn hdt hd pn), ((RS i (z_hdn hdt hd pn) (z_bec vt v pn, 0, (-1))).1), lo, hi, RS, _, _, jf1.frame (n := n) (fun q hq => (rO_out (by omega)).trans (va_up_ne _ _ (by omega))) p4 p7 p5 p6, (((((hQ.row (j := 100) (x := fun _ => 0) (Nat.le_refl _) (by decide)).row (j := 43) (Nat.le_refl _) (by decide)).row (j := 110) (Nat.le_refl _) (by decide)).row (j := 111) (Nat.le_refl _) (by decide)).le (by omega) (Nat.le_refl _)), rO_K, (rO_out (by omega)).trans q_eq⟩⟩
  · have hno := idx_no h
    refine ⟨1, _, _, _, _, _, (by omega), (by omega), (by omega), (by omega), kL_warningsOfRecipe_X l E f n a (a + 99) _ _ _ _ _ _ _ x1 _ _ _ _ c1 (kX12_warningsOfRecipe_X l E f n (hX := c1) (hB := c12) (hk := k1) (hbo := (by unfold kOut; omega)) (hxo := (by unfold kOut; omega)) (hpn := p2) (hrc := p3) (hst := hst) (hno := hno)), ?_⟩
    rintro f1 n1 ⟨rfl, hn9⟩
    refine ⟨_, _, _, _, _, _, (by omega), (by omega), (by omega), (by omega), kX14_warningsOfRecipe_F l E _ _ (a + 55) (r := r) (hm := hM) (rc := rc) (hrc9 := r2) (hrc := p3) (hno := hno), ⟨_, _, _, _, _, _, _, c1⟩, ⟨r, hM⟩, ?_⟩
    rintro f2 n2 ⟨rfl, rfl⟩
    exact ⟨_, og, rO_K, rfl, (rO_out (by omega)).trans hO, fun h9 => absurd h9 (by decide), ⟨ep, L, g, bk0, et, er0, c0, here0, k0, kk0, po0, wo0, b0, w0, b1, w1, bk, pn, rc, ac, gB, hd, v, bt, hdt, vt, lo, hi, RS, _, og, hF.frame (n := n) (fun q hq => rO_out (by omega)) p4 p7 p5 p6, (hQ.row (j := 100) (x := fun _ => 1) hn9 (by decide)).le (by omega) (Nat.le_refl _), rO_K, (rO_out (by omega)).trans hO⟩⟩

set_option maxHeartbeats 1000000 in
theorem P_firstWarning (l : Launch) (E : q_E) (a BB : Nat) (f : q_H) (n : Nat) (hst : l.stackTraces = false) (hB : BB ≤ 2 ^ 29) (hJ : JJ E a BB f n) (x1 : Int32) : PAIR l E a (JJ E a (BB + 100)) yL_firstWarning wsL_firstWarning yX14_firstWarning wsX14_firstWarning [.int x1] f n := by
  obtain ⟨ep, L, g, bk0, et, er0, c0, here0, k0, kk0, po0, wo0, b0, w0, b1, w1, bk, pn, rc, ac, gB, hd, v, bt, hdt, vt, lo, hi, RS, r, og, hF, hQ, hM, hO⟩ := hJ
  have hF0 := hF
  obtain ⟨c1, c2, c3, c4, c5, c6, c7, c8, c9, c10, c12, c13, k1, k2, s1⟩ := hF0
  have hQ0 := hQ
  obtain ⟨p1, p2, p3, p4, p5, p6, p7, p8, i1, i2, r1, r2, r3, r4, r5, r6, r7, r8, r9⟩ := hQ0
  by_cases h : ∃ i, i < rc ∧ x1 = nI i
  · obtain ⟨i, hI, rfl⟩ := h
    have hs : s_blk pn (RS i) := s_rec rc r6 i hI
    have sr := hs.2.2.2.2 X_E X_E_ok BB hd (r 9) (v, 0, (-1)) (r 42, 0, (-1)) hB i1 i2 ⟨r8, r9, rfl⟩
    refine ⟨0, _, _, _, _, _, (by omega), (by omega), (by omega), (by omega), kL_firstWarning l E f n a (a + 99) _ _ _ _ _ _ _ (nI i) _ _ _ _ ((RS i hd (v, 0, (-1))).2.2) _ og c1 (kX12_firstWarning l E f n (hX := c1) (hB := c12) (hc := c10) (hG := c13) (hk := k1) (hkt := k2) (hbo := (by unfold kOut; omega)) (hxo := (by unfold kOut; omega)) (hpn := p2) (hrc := p3) (hdis := Or.inr (by omega)) (hbt := (by unfold kOut; omega)) (hbt4 := (by unfold kOut; omega)) (hxt := (by unfold kOut; omega)) (htk := (by unfold kOut; omega)) (hbc := by omega) (hb4c := by omega) (hxk := by omega) (hreg := fun q h1 h2 => ⟨by unfold kOut; omega, by omega⟩) (hB29 := hB) (hinv := i1) (hi9 := hI) (hRS := s1) (hsb := hs) (hktk := (by unfold kOut; omega))) ?_, ?_⟩
    · rintro f9 n9 ⟨rfl, rfl⟩
      exact ((kO_out (by unfold kOut; omega)).trans ((va_up_ne _ _ (by omega)).trans hO))
    rintro f1 n1 ⟨f9, ⟨rfl, rfl⟩, rfl⟩
    have hm1 : RM E (va_up (kO E (va_up f (a + 54) (some (cCook (a + 34) (nI (RS i (z_hdn hdt hd pn) (z_bec vt v pn, 0, (-1))).2.1) (RS i (z_hdn hdt hd pn) (z_bec vt v pn, 0, (-1))).2.2))) (a + 34) bk (z_hdn hdt hd pn) (RS i (z_hdn hdt hd pn) (z_bec vt v pn, 0, (-1))).1) (a + 99) (some (aJ E 1 (vp_updL og 0 ((RS i hd (v, 0, (-1))).2.2).toInt64)))) (a + 55) r := hM.other (fun q h1 h2 => (va_up_ne _ _ (by omega)).trans ((kO_out (by unfold kOut; omega)).trans ((va_up_ne _ _ (by omega)).trans rfl)))
    have jf1 : JF E a (kO E (va_up f (a + 54) (some (cCook (a + 34) (nI (RS i (z_hdn hdt hd pn) (z_bec vt v pn, 0, (-1))).2.1) (RS i (z_hdn hdt hd pn) (z_bec vt v pn, 0, (-1))).2.2))) (a + 34) bk (z_hdn hdt hd pn) (RS i (z_hdn hdt hd pn) (z_bec vt v pn, 0, (-1))).1) ep L g bk0 et er0 c0 here0 k0 kk0 po0 wo0 b0 w0 (nI (RS i (z_hdn hdt hd pn) (z_bec vt v pn, 0, (-1))).2.1) ((RS i (z_hdn hdt hd pn) (z_bec vt v pn, 0, (-1))).2.2) bk pn rc ac gB hd v bk (z_hdn hdt hd pn) ((RS i (z_hdn hdt hd pn) (z_bec vt v pn, 0, (-1))).1) lo hi RS := hF.trial p4 p5
    refine ⟨_, _, _, _, _, _, (by omega), (by omega), (by omega), (by omega), kX14_firstWarning l E _ _ (a + 55) (r := r) (hm := hm1) (pn := pn) (BB := BB) (Bw := bR r 8) (RS := RS) (r9 := i) (rc := rc) (hpn9 := r1) (hpn := p2) (hB8 := rfl) (hB29 := hB) (hinv := i2) (hvo := r7) (hRS := mRS_le r6 (by omega)) (hrc9 := r2) (hrc := p3) (hrl := hI), ⟨_, _, _, _, _, _, _, (va_up_ne _ _ (by omega)).trans jf1.1⟩, ⟨r, hm1⟩, ?_⟩
    rintro f2 n2 ⟨rfl, rfl⟩
    exact ⟨_, _, rO_K, rfl, (rO_out (by omega)).trans q_eq, fun _ => by rw [o_at, show ((RS i hd (v, 0, (-1))).2.2) = (RS i (r 9) (r 42, 0, (-1))).2.2 from congrArg Prod.snd sr.2.2], ⟨ep, L, g, bk0, et, er0, c0, here0, k0, kk0, po0, wo0, b0, w0, (nI (RS i (z_hdn hdt hd pn) (z_bec vt v pn, 0, (-1))).2.1), ((RS i (z_hdn hdt hd pn) (z_bec vt v pn, 0, (-1))).2.2), bk, pn, rc, ac, gB, hd, v, bk, (z_hdn hdt hd pn), ((RS i (z_hdn hdt hd pn) (z_bec vt v pn, 0, (-1))).1), lo, hi, RS, _, _, jf1.frame (n := n) (fun q hq => (rO_out (by omega)).trans (va_up_ne _ _ (by omega))) p4 p7 p5 p6, (((((hQ.row (j := 100) (x := fun _ => 0) (Nat.le_refl _) (by decide)).row (j := 43) (Nat.le_refl _) (by decide)).row (j := 110) (Nat.le_refl _) (by decide)).row (j := 111) (Nat.le_refl _) (by decide)).le (by omega) (Nat.le_refl _)), rO_K, (rO_out (by omega)).trans q_eq⟩⟩
  · have hno := idx_no h
    refine ⟨1, _, _, _, _, _, (by omega), (by omega), (by omega), (by omega), kL_firstWarning_X l E f n a (a + 99) _ _ _ _ _ _ _ x1 _ _ _ _ c1 (kX12_firstWarning_X l E f n (hX := c1) (hB := c12) (hk := k1) (hbo := (by unfold kOut; omega)) (hxo := (by unfold kOut; omega)) (hpn := p2) (hrc := p3) (hst := hst) (hno := hno)), ?_⟩
    rintro f1 n1 ⟨rfl, hn9⟩
    refine ⟨_, _, _, _, _, _, (by omega), (by omega), (by omega), (by omega), kX14_firstWarning_F l E _ _ (a + 55) (r := r) (hm := hM) (rc := rc) (hrc9 := r2) (hrc := p3) (hno := hno), ⟨_, _, _, _, _, _, _, c1⟩, ⟨r, hM⟩, ?_⟩
    rintro f2 n2 ⟨rfl, rfl⟩
    exact ⟨_, og, rO_K, rfl, (rO_out (by omega)).trans hO, fun h9 => absurd h9 (by decide), ⟨ep, L, g, bk0, et, er0, c0, here0, k0, kk0, po0, wo0, b0, w0, b1, w1, bk, pn, rc, ac, gB, hd, v, bt, hdt, vt, lo, hi, RS, _, og, hF.frame (n := n) (fun q hq => rO_out (by omega)) p4 p7 p5 p6, (hQ.row (j := 100) (x := fun _ => 1) hn9 (by decide)).le (by omega) (Nat.le_refl _), rO_K, (rO_out (by omega)).trans hO⟩⟩

set_option maxHeartbeats 1000000 in
theorem P_doneBehind (l : Launch) (E : q_E) (a BB : Nat) (f : q_H) (n : Nat) (hst : l.stackTraces = false) (hB : BB ≤ 2 ^ 29) (hJ : JJ E a BB f n) (x1 x2 : Int32) : PAIR l E a (JJ E a (BB + 100)) yL_doneBehind wsL_doneBehind yX14_doneBehind wsX14_doneBehind [.int x1, .int x2] f n := by
  obtain ⟨ep, L, g, bk0, et, er0, c0, here0, k0, kk0, po0, wo0, b0, w0, b1, w1, bk, pn, rc, ac, gB, hd, v, bt, hdt, vt, lo, hi, RS, r, og, hF, hQ, hM, hO⟩ := hJ
  have hF0 := hF
  obtain ⟨c1, c2, c3, c4, c5, c6, c7, c8, c9, c10, c12, c13, k1, k2, s1⟩ := hF0
  have hQ0 := hQ
  obtain ⟨p1, p2, p3, p4, p5, p6, p7, p8, i1, i2, r1, r2, r3, r4, r5, r6, r7, r8, r9⟩ := hQ0
  by_cases h : ∃ i, i < rc ∧ x1 = nI i
  · obtain ⟨i, hI, rfl⟩ := h
    have hs : s_blk pn (RS i) := s_rec rc r6 i hI
    have sr := hs.2.2.2.2 X_E X_E_ok BB hd (r 9) (v, 0, (-1)) (r 42, 0, (-1)) hB i1 i2 ⟨r8, r9, rfl⟩
    by_cases h2 : ∃ j, j < pn ∧ x2 = nI j
    · obtain ⟨j, hj, rfl⟩ := h2
      refine ⟨0, _, _, _, _, _, (by omega), (by omega), (by omega), (by omega), kL_doneBehind l E f n a (a + 99) _ _ _ _ _ _ _ (nI i) (nI j) _ _ _ _ ((RS i hd (v, 0, (-1))).1 (55 + 4 * j)) _ og c1 (kX12_doneBehind l E f n (hX := c1) (hB := c12) (hc := c10) (hG := c13) (hk := k1) (hkt := k2) (hbo := (by unfold kOut; omega)) (hxo := (by unfold kOut; omega)) (hpn := p2) (hrc := p3) (hdis := Or.inr (by omega)) (hbt := (by unfold kOut; omega)) (hbt4 := (by unfold kOut; omega)) (hxt := (by unfold kOut; omega)) (htk := (by unfold kOut; omega)) (hbc := by omega) (hb4c := by omega) (hxk := by omega) (hreg := fun q h1 h2 => ⟨by unfold kOut; omega, by omega⟩) (hB29 := hB) (hinv := i1) (hi9 := hI) (hRS := s1) (hsb := hs) (hktk := (by unfold kOut; omega)) (j := j) (hj := hj)) ?_, ?_⟩
      · rintro f9 n9 ⟨rfl, rfl⟩
        exact ((kO_out (by unfold kOut; omega)).trans ((va_up_ne _ _ (by omega)).trans hO))
      rintro f1 n1 ⟨f9, ⟨rfl, rfl⟩, rfl⟩
      have hm1 : RM E (va_up (kO E (va_up f (a + 54) (some (cCook (a + 34) (nI (RS i (z_hdn hdt hd pn) (z_bec vt v pn, 0, (-1))).2.1) (RS i (z_hdn hdt hd pn) (z_bec vt v pn, 0, (-1))).2.2))) (a + 34) bk (z_hdn hdt hd pn) (RS i (z_hdn hdt hd pn) (z_bec vt v pn, 0, (-1))).1) (a + 99) (some (aJ E 1 (vp_updL og 0 ((RS i hd (v, 0, (-1))).1 (55 + 4 * j)).toInt64)))) (a + 55) r := hM.other (fun q h1 h2 => (va_up_ne _ _ (by omega)).trans ((kO_out (by unfold kOut; omega)).trans ((va_up_ne _ _ (by omega)).trans rfl)))
      have jf1 : JF E a (kO E (va_up f (a + 54) (some (cCook (a + 34) (nI (RS i (z_hdn hdt hd pn) (z_bec vt v pn, 0, (-1))).2.1) (RS i (z_hdn hdt hd pn) (z_bec vt v pn, 0, (-1))).2.2))) (a + 34) bk (z_hdn hdt hd pn) (RS i (z_hdn hdt hd pn) (z_bec vt v pn, 0, (-1))).1) ep L g bk0 et er0 c0 here0 k0 kk0 po0 wo0 b0 w0 (nI (RS i (z_hdn hdt hd pn) (z_bec vt v pn, 0, (-1))).2.1) ((RS i (z_hdn hdt hd pn) (z_bec vt v pn, 0, (-1))).2.2) bk pn rc ac gB hd v bk (z_hdn hdt hd pn) ((RS i (z_hdn hdt hd pn) (z_bec vt v pn, 0, (-1))).1) lo hi RS := hF.trial p4 p5
      refine ⟨_, _, _, _, _, _, (by omega), (by omega), (by omega), (by omega), kX14_doneBehind l E _ _ (a + 55) (r := r) (hm := hm1) (pn := pn) (BB := BB) (Bw := bR r 8) (RS := RS) (r9 := i) (rc := rc) (hpn9 := r1) (hpn := p2) (hB8 := rfl) (hB29 := hB) (hinv := i2) (hvo := r7) (hRS := mRS_le r6 (by omega)) (hrc9 := r2) (hrc := p3) (hrl := hI) (i := j) (hi := hj), ⟨_, _, _, _, _, _, _, (va_up_ne _ _ (by omega)).trans jf1.1⟩, ⟨r, hm1⟩, ?_⟩
      rintro f2 n2 ⟨rfl, rfl⟩
      exact ⟨_, _, rO_K, rfl, (rO_out (by omega)).trans q_eq, fun _ => by rw [o_at, show ((RS i hd (v, 0, (-1))).1 (55 + 4 * j)) = (RS i (r 9) (r 42, 0, (-1))).1 (55 + 4 * j) - (r 42) (55 + 4 * j) + (r 42) (55 + 4 * j) from by rw [Int32.sub_add_cancel]; exact (sr.1.2.2 j hj).2.2.2], ⟨ep, L, g, bk0, et, er0, c0, here0, k0, kk0, po0, wo0, b0, w0, (nI (RS i (z_hdn hdt hd pn) (z_bec vt v pn, 0, (-1))).2.1), ((RS i (z_hdn hdt hd pn) (z_bec vt v pn, 0, (-1))).2.2), bk, pn, rc, ac, gB, hd, v, bk, (z_hdn hdt hd pn), ((RS i (z_hdn hdt hd pn) (z_bec vt v pn, 0, (-1))).1), lo, hi, RS, _, _, jf1.frame (n := n) (fun q hq => (rO_out (by omega)).trans (va_up_ne _ _ (by omega))) p4 p7 p5 p6, (((((hQ.row (j := 100) (x := fun _ => 0) (Nat.le_refl _) (by decide)).row (j := 43) (Nat.le_refl _) (by decide)).row (j := 110) (Nat.le_refl _) (by decide)).row (j := 111) (Nat.le_refl _) (by decide)).le (by omega) (Nat.le_refl _)), rO_K, (rO_out (by omega)).trans q_eq⟩⟩
    · have hno := idx_no h2
      refine ⟨1, _, _, _, _, _, (by omega), (by omega), (by omega), (by omega), kL_doneBehind_X l E f n a (a + 99) _ _ _ _ _ _ _ (nI i) x2 _ _ _ _ c1 (kX12_doneBehind_Y l E f n (hX := c1) (hB := c12) (hk := k1) (hbo := (by unfold kOut; omega)) (hxo := (by unfold kOut; omega)) (hpn := p2) (hrc := p3) (i := i) (hst := hst) (hi := hI) (hno := hno)), ?_⟩
      rintro f1 n1 ⟨rfl, hn9⟩
      refine ⟨_, _, _, _, _, _, (by omega), (by omega), (by omega), (by omega), kX14_doneBehind_G l E _ _ (a + 55) (r := r) (hm := hM) (pn := pn) (rc := rc) (r9 := i) (hpn9 := r1) (hpn := p2) (hrc9 := r2) (hrc := p3) (hrl := hI) (hno := hno), ⟨_, _, _, _, _, _, _, c1⟩, ⟨r, hM⟩, ?_⟩
      rintro f2 n2 ⟨rfl, rfl⟩
      exact ⟨_, og, rO_K, rfl, (rO_out (by omega)).trans hO, fun h9 => absurd h9 (by decide), ⟨ep, L, g, bk0, et, er0, c0, here0, k0, kk0, po0, wo0, b0, w0, b1, w1, bk, pn, rc, ac, gB, hd, v, bt, hdt, vt, lo, hi, RS, _, og, hF.frame (n := n) (fun q hq => rO_out (by omega)) p4 p7 p5 p6, (hQ.row (j := 100) (x := fun _ => 1) hn9 (by decide)).le (by omega) (Nat.le_refl _), rO_K, (rO_out (by omega)).trans hO⟩⟩
  · have hno := idx_no h
    refine ⟨1, _, _, _, _, _, (by omega), (by omega), (by omega), (by omega), kL_doneBehind_X l E f n a (a + 99) _ _ _ _ _ _ _ x1 x2 _ _ _ _ c1 (kX12_doneBehind_X l E f n (hX := c1) (hB := c12) (hk := k1) (hbo := (by unfold kOut; omega)) (hxo := (by unfold kOut; omega)) (hpn := p2) (hrc := p3) (a := x2) (hst := hst) (hno := hno)), ?_⟩
    rintro f1 n1 ⟨rfl, hn9⟩
    refine ⟨_, _, _, _, _, _, (by omega), (by omega), (by omega), (by omega), kX14_doneBehind_F l E _ _ (a + 55) (r := r) (hm := hM) (y := x2) (rc := rc) (hrc9 := r2) (hrc := p3) (hno := hno), ⟨_, _, _, _, _, _, _, c1⟩, ⟨r, hM⟩, ?_⟩
    rintro f2 n2 ⟨rfl, rfl⟩
    exact ⟨_, og, rO_K, rfl, (rO_out (by omega)).trans hO, fun h9 => absurd h9 (by decide), ⟨ep, L, g, bk0, et, er0, c0, here0, k0, kk0, po0, wo0, b0, w0, b1, w1, bk, pn, rc, ac, gB, hd, v, bt, hdt, vt, lo, hi, RS, _, og, hF.frame (n := n) (fun q hq => rO_out (by omega)) p4 p7 p5 p6, (hQ.row (j := 100) (x := fun _ => 1) hn9 (by decide)).le (by omega) (Nat.le_refl _), rO_K, (rO_out (by omega)).trans hO⟩⟩

set_option maxHeartbeats 1000000 in
theorem P_highestSafe (l : Launch) (E : q_E) (a BB : Nat) (f : q_H) (n : Nat) (hst : l.stackTraces = false) (hB : BB ≤ 2 ^ 29) (hJ : JJ E a BB f n) (x1 : Int32) : PAIR l E a (JJ E a (BB + 100)) yL_highestSafe wsL_highestSafe yX14_highestSafe wsX14_highestSafe [.int x1] f n := by
  obtain ⟨ep, L, g, bk0, et, er0, c0, here0, k0, kk0, po0, wo0, b0, w0, b1, w1, bk, pn, rc, ac, gB, hd, v, bt, hdt, vt, lo, hi, RS, r, og, hF, hQ, hM, hO⟩ := hJ
  have hF0 := hF
  obtain ⟨c1, c2, c3, c4, c5, c6, c7, c8, c9, c10, c12, c13, k1, k2, s1⟩ := hF0
  have hQ0 := hQ
  obtain ⟨p1, p2, p3, p4, p5, p6, p7, p8, i1, i2, r1, r2, r3, r4, r5, r6, r7, r8, r9⟩ := hQ0
  by_cases h : ∃ i, i < rc ∧ x1 = nI i
  · obtain ⟨i, hI, rfl⟩ := h
    have hs : s_blk pn (RS i) := s_rec rc r6 i hI
    have sr := fun h : Nat => hs.2.2.2.2 X_E X_E_ok BB hd (r 9) (z_move v (nI h) pn, 0, (-1)) (z_move (r 42) (nI h) pn, 0, (-1)) hB (k_inv_mv i1) (k_inv_mv i2) ⟨v_rel_move r8, X_E_lo r9 (fun q h1 h2 => ⟨z_move_lo (by omega) (by omega), z_move_lo (by omega) (by omega)⟩), rfl⟩
    refine ⟨0, _, _, _, _, _, (by omega), (by omega), (by omega), (by omega), kL_highestSafe l E f n a (a + 99) _ _ _ _ _ _ _ (nI i) _ _ _ _ (z_best (fun h => decide ((RS i hd (z_move v (nI h) pn, 0, (-1))).1 4 = v 4)) 61) _ og c1 (kX12_highestSafe l E f n (hX := c1) (hB := c12) (hc := c10) (hG := c13) (hk := k1) (hkt := k2) (hbo := (by unfold kOut; omega)) (hxo := (by unfold kOut; omega)) (hpn := p2) (hrc := p3) (hdis := Or.inr (by omega)) (hbt := (by unfold kOut; omega)) (hbt4 := (by unfold kOut; omega)) (hxt := (by unfold kOut; omega)) (htk := (by unfold kOut; omega)) (hbc := by omega) (hb4c := by omega) (hxk := by omega) (hreg := fun q h1 h2 => ⟨by unfold kOut; omega, by omega⟩) (hB29 := hB) (hinv := i1) (hi9 := hI) (hRS := s1) (hsb := hs) (hktk := (by unfold kOut; omega))) ?_, ?_⟩
    · rintro f9 n9 ⟨⟨bt8, hdt8, vt8, b8, w8, rfl⟩, rfl⟩
      exact ((kO_out (by unfold kOut; omega)).trans ((va_up_ne _ _ (by omega)).trans hO))
    rintro f1 n1 ⟨f9, ⟨⟨bt8, hdt8, vt8, b8, w8, rfl⟩, rfl⟩, rfl⟩
    have hm1 : RM E (va_up (kO E (va_up f (a + 54) (some (cCook (a + 34) b8 w8))) (a + 34) bt8 hdt8 vt8) (a + 99) (some (aJ E 1 (vp_updL og 0 (z_best (fun h => decide ((RS i hd (z_move v (nI h) pn, 0, (-1))).1 4 = v 4)) 61).toInt64)))) (a + 55) r := hM.other (fun q h1 h2 => (va_up_ne _ _ (by omega)).trans ((kO_out (by unfold kOut; omega)).trans ((va_up_ne _ _ (by omega)).trans rfl)))
    have jf1 : JF E a (kO E (va_up f (a + 54) (some (cCook (a + 34) b8 w8))) (a + 34) bt8 hdt8 vt8) ep L g bk0 et er0 c0 here0 k0 kk0 po0 wo0 b0 w0 b8 w8 bk pn rc ac gB hd v bt8 hdt8 vt8 lo hi RS := hF.trial p4 p5
    refine ⟨_, _, _, _, _, _, (by omega), (by omega), (by omega), (by omega), kX14_highestSafe l E _ _ (a + 55) (r := r) (hm := hm1) (pn := pn) (BB := BB) (Bw := bR r 8) (RS := RS) (r9 := i) (rc := rc) (hpn9 := r1) (hpn := p2) (hB8 := rfl) (hB29 := hB) (hinv := i2) (hvo := r7) (hRS := mRS_le r6 (by omega)) (hrc9 := r2) (hrc := p3) (hrl := hI), ⟨_, _, _, _, _, _, _, (va_up_ne _ _ (by omega)).trans jf1.1⟩, ⟨r, hm1⟩, ?_⟩
    rintro f2 n2 ⟨⟨b9, w9, rfl⟩, rfl⟩
    exact ⟨_, _, rO_K, rfl, (rO_out (by omega)).trans q_eq, fun _ => by rw [o_at, show (z_best (fun h => decide ((RS i hd (z_move v (nI h) pn, 0, (-1))).1 4 = v 4)) 61) = (z_best (fun h => decide ((RS i (r 9) (z_move (r 42) (nI h) pn, 0, (-1))).1 4 = r 42 4)) 61) from z_best_eq (fun h => dec_eq (sr h).2.1.1 r9.1)], ⟨ep, L, g, bk0, et, er0, c0, here0, k0, kk0, po0, wo0, b0, w0, b8, w8, bk, pn, rc, ac, gB, hd, v, bt8, hdt8, vt8, lo, hi, RS, _, _, jf1.frame (n := n) (fun q hq => (rO_out (by omega)).trans (va_up_ne _ _ (by omega))) p4 p7 p5 p6, (((((hQ.row (j := 100) (x := fun _ => 0) (Nat.le_refl _) (by decide)).row (j := 43) (Nat.le_refl _) (by decide)).row (j := 110) (Nat.le_refl _) (by decide)).row (j := 111) (Nat.le_refl _) (by decide)).le (by omega) (Nat.le_refl _)), rO_K, (rO_out (by omega)).trans q_eq⟩⟩
  · have hno := idx_no h
    refine ⟨1, _, _, _, _, _, (by omega), (by omega), (by omega), (by omega), kL_highestSafe_X l E f n a (a + 99) _ _ _ _ _ _ _ x1 _ _ _ _ c1 (kX12_highestSafe_X l E f n (hX := c1) (hB := c12) (hk := k1) (hbo := (by unfold kOut; omega)) (hxo := (by unfold kOut; omega)) (hpn := p2) (hrc := p3) (hst := hst) (hno := hno)), ?_⟩
    rintro f1 n1 ⟨rfl, hn9⟩
    refine ⟨_, _, _, _, _, _, (by omega), (by omega), (by omega), (by omega), kX14_highestSafe_F l E _ _ (a + 55) (r := r) (hm := hM) (rc := rc) (hrc9 := r2) (hrc := p3) (hno := hno), ⟨_, _, _, _, _, _, _, c1⟩, ⟨r, hM⟩, ?_⟩
    rintro f2 n2 ⟨rfl, rfl⟩
    exact ⟨_, og, rO_K, rfl, (rO_out (by omega)).trans hO, fun h9 => absurd h9 (by decide), ⟨ep, L, g, bk0, et, er0, c0, here0, k0, kk0, po0, wo0, b0, w0, b1, w1, bk, pn, rc, ac, gB, hd, v, bt, hdt, vt, lo, hi, RS, _, og, hF.frame (n := n) (fun q hq => rO_out (by omega)) p4 p7 p5 p6, (hQ.row (j := 100) (x := fun _ => 1) hn9 (by decide)).le (by omega) (Nat.le_refl _), rO_K, (rO_out (by omega)).trans hO⟩⟩

set_option maxHeartbeats 1000000 in
theorem P_mostServings (l : Launch) (E : q_E) (a BB : Nat) (f : q_H) (n : Nat) (hst : l.stackTraces = false) (hB : BB ≤ 2 ^ 29) (hJ : JJ E a BB f n) (x1 : Int32) : PAIR l E a (JJ E a (BB + 100)) yL_mostServings wsL_mostServings yX14_mostServings wsX14_mostServings [.int x1] f n := by
  obtain ⟨ep, L, g, bk0, et, er0, c0, here0, k0, kk0, po0, wo0, b0, w0, b1, w1, bk, pn, rc, ac, gB, hd, v, bt, hdt, vt, lo, hi, RS, r, og, hF, hQ, hM, hO⟩ := hJ
  have hF0 := hF
  obtain ⟨c1, c2, c3, c4, c5, c6, c7, c8, c9, c10, c12, c13, k1, k2, s1⟩ := hF0
  have hQ0 := hQ
  obtain ⟨p1, p2, p3, p4, p5, p6, p7, p8, i1, i2, r1, r2, r3, r4, r5, r6, r7, r8, r9⟩ := hQ0
  by_cases h : ∃ i, i < rc ∧ x1 = nI i
  · obtain ⟨i, hI, rfl⟩ := h
    have hs : s_blk pn (RS i) := s_rec rc r6 i hI
    have sr := fun h : Nat => hs.2.2.2.2 X_E X_E_ok BB hd (r 9) (upd v 1 (nI h), 0, (-1)) (upd (r 42) 1 (nI h), 0, (-1)) hB (k_inv_up1 i1) (k_inv_up1 i2) ⟨v_rel_u1 r8, X_E_lo r9 (fun q h1 h2 => ⟨z_un (by omega), z_un (by omega)⟩), rfl⟩
    refine ⟨0, _, _, _, _, _, (by omega), (by omega), (by omega), (by omega), kL_mostServings l E f n a (a + 99) _ _ _ _ _ _ _ (nI i) _ _ _ _ (z_best1 (fun h => decide ((RS i hd (upd v 1 (nI h), 0, (-1))).1 7 = v 7)) 12) _ og c1 (kX12_mostServings l E f n (hX := c1) (hB := c12) (hc := c10) (hG := c13) (hk := k1) (hkt := k2) (hbo := (by unfold kOut; omega)) (hxo := (by unfold kOut; omega)) (hpn := p2) (hrc := p3) (hdis := Or.inr (by omega)) (hbt := (by unfold kOut; omega)) (hbt4 := (by unfold kOut; omega)) (hxt := (by unfold kOut; omega)) (htk := (by unfold kOut; omega)) (hbc := by omega) (hb4c := by omega) (hxk := by omega) (hreg := fun q h1 h2 => ⟨by unfold kOut; omega, by omega⟩) (hB29 := hB) (hinv := i1) (hi9 := hI) (hRS := s1) (hsb := hs) (hktk := (by unfold kOut; omega))) ?_, ?_⟩
    · rintro f9 n9 ⟨⟨bt8, hdt8, vt8, b8, w8, rfl⟩, rfl⟩
      exact ((kO_out (by unfold kOut; omega)).trans ((va_up_ne _ _ (by omega)).trans hO))
    rintro f1 n1 ⟨f9, ⟨⟨bt8, hdt8, vt8, b8, w8, rfl⟩, rfl⟩, rfl⟩
    have hm1 : RM E (va_up (kO E (va_up f (a + 54) (some (cCook (a + 34) b8 w8))) (a + 34) bt8 hdt8 vt8) (a + 99) (some (aJ E 1 (vp_updL og 0 (z_best1 (fun h => decide ((RS i hd (upd v 1 (nI h), 0, (-1))).1 7 = v 7)) 12).toInt64)))) (a + 55) r := hM.other (fun q h1 h2 => (va_up_ne _ _ (by omega)).trans ((kO_out (by unfold kOut; omega)).trans ((va_up_ne _ _ (by omega)).trans rfl)))
    have jf1 : JF E a (kO E (va_up f (a + 54) (some (cCook (a + 34) b8 w8))) (a + 34) bt8 hdt8 vt8) ep L g bk0 et er0 c0 here0 k0 kk0 po0 wo0 b0 w0 b8 w8 bk pn rc ac gB hd v bt8 hdt8 vt8 lo hi RS := hF.trial p4 p5
    refine ⟨_, _, _, _, _, _, (by omega), (by omega), (by omega), (by omega), kX14_mostServings l E _ _ (a + 55) (r := r) (hm := hm1) (pn := pn) (BB := BB) (Bw := bR r 8) (RS := RS) (r9 := i) (rc := rc) (hpn9 := r1) (hpn := p2) (hB8 := rfl) (hB29 := hB) (hinv := i2) (hvo := r7) (hRS := mRS_le r6 (by omega)) (hrc9 := r2) (hrc := p3) (hrl := hI), ⟨_, _, _, _, _, _, _, (va_up_ne _ _ (by omega)).trans jf1.1⟩, ⟨r, hm1⟩, ?_⟩
    rintro f2 n2 ⟨⟨b9, w9, rfl⟩, rfl⟩
    exact ⟨_, _, rO_K, rfl, (rO_out (by omega)).trans q_eq, fun _ => by rw [o_at, show (z_best1 (fun h => decide ((RS i hd (upd v 1 (nI h), 0, (-1))).1 7 = v 7)) 12) = (z_best1 (fun h => decide ((RS i (r 9) (upd (r 42) 1 (nI h), 0, (-1))).1 7 = r 42 7)) 12) from z_best1_eq (fun h => dec_eq ((sr h).2.1.2.2.1 1 (by decide)) (r9.2.2.1 1 (by decide)))], ⟨ep, L, g, bk0, et, er0, c0, here0, k0, kk0, po0, wo0, b0, w0, b8, w8, bk, pn, rc, ac, gB, hd, v, bt8, hdt8, vt8, lo, hi, RS, _, _, jf1.frame (n := n) (fun q hq => (rO_out (by omega)).trans (va_up_ne _ _ (by omega))) p4 p7 p5 p6, (((((hQ.row (j := 100) (x := fun _ => 0) (Nat.le_refl _) (by decide)).row (j := 43) (Nat.le_refl _) (by decide)).row (j := 110) (Nat.le_refl _) (by decide)).row (j := 111) (Nat.le_refl _) (by decide)).le (by omega) (Nat.le_refl _)), rO_K, (rO_out (by omega)).trans q_eq⟩⟩
  · have hno := idx_no h
    refine ⟨1, _, _, _, _, _, (by omega), (by omega), (by omega), (by omega), kL_mostServings_X l E f n a (a + 99) _ _ _ _ _ _ _ x1 _ _ _ _ c1 (kX12_mostServings_X l E f n (hX := c1) (hB := c12) (hk := k1) (hbo := (by unfold kOut; omega)) (hxo := (by unfold kOut; omega)) (hpn := p2) (hrc := p3) (hst := hst) (hno := hno)), ?_⟩
    rintro f1 n1 ⟨rfl, hn9⟩
    refine ⟨_, _, _, _, _, _, (by omega), (by omega), (by omega), (by omega), kX14_mostServings_F l E _ _ (a + 55) (r := r) (hm := hM) (rc := rc) (hrc9 := r2) (hrc := p3) (hno := hno), ⟨_, _, _, _, _, _, _, c1⟩, ⟨r, hM⟩, ?_⟩
    rintro f2 n2 ⟨rfl, rfl⟩
    exact ⟨_, og, rO_K, rfl, (rO_out (by omega)).trans hO, fun h9 => absurd h9 (by decide), ⟨ep, L, g, bk0, et, er0, c0, here0, k0, kk0, po0, wo0, b0, w0, b1, w1, bk, pn, rc, ac, gB, hd, v, bt, hdt, vt, lo, hi, RS, _, og, hF.frame (n := n) (fun q hq => rO_out (by omega)) p4 p7 p5 p6, (hQ.row (j := 100) (x := fun _ => 1) hn9 (by decide)).le (by omega) (Nat.le_refl _), rO_K, (rO_out (by omega)).trans hO⟩⟩
