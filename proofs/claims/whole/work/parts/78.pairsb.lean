/-! pairs of calls that throw nothing -/
def PAIRI (l : Launch) (E : q_E) (a : Nat) (J9 : q_H → Nat → Prop) (yx : MethodName) (wsx : List Cond) (ym : MethodName) (wsm : List Cond) (f : q_H) (n : Nat) : Prop :=
  ∃ (R : Int32) (P1 : q_H → Nat → Prop) (fr c1 s1 lo : Nat), fr ≤ 400 ∧ c1 ≤ 420 ∧ s1 ≤ 3780 ∧ lo ≤ 14000 ∧
    Met l yx wsx { frames := fr, cells := c1, slots := s1, locals := lo } (q_P E [.ref a] f n) (q_Qi E (fun r0 f1 n1 => R = r0 ∧ P1 f1 n1)) c1 s1 (q_ge E) ∧
    ∀ f1 n1, P1 f1 n1 → ∃ (b : Int32) (P2 : q_H → Nat → Prop) (fr2 c2 s2 lo2 : Nat), fr2 ≤ 400 ∧ c2 ≤ 2 ∧ s2 ≤ 20 ∧ lo2 ≤ 14000 ∧
      Met l ym wsm { frames := fr2, cells := c2, slots := s2, locals := lo2 } (q_P E [.ref (a + 55)] f1 n1) (q_Qi E (fun r0 f2 n2 => b = r0 ∧ P2 f2 n2)) c2 s2 (q_ge E) ∧ R = b ∧
      (∃ r, RM E f1 (a + 55) r) ∧ ∀ f2 n2, P2 f2 n2 → J9 f2 n2

def PAIRJ (l : Launch) (E : q_E) (a : Nat) (J9 : q_H → Nat → Prop) (yx : MethodName) (wsx : List Cond) (ym : MethodName) (wsm : List Cond) (f : q_H) (n : Nat) : Prop :=
  ∃ (R : Int64) (P1 : q_H → Nat → Prop) (fr c1 s1 lo : Nat), fr ≤ 400 ∧ c1 ≤ 420 ∧ s1 ≤ 3780 ∧ lo ≤ 14000 ∧
    Met l yx wsx { frames := fr, cells := c1, slots := s1, locals := lo } (q_P E [.ref a] f n) (q_Ql E (fun r0 f1 n1 => R = r0 ∧ P1 f1 n1)) c1 s1 (q_ge E) ∧
    ∀ f1 n1, P1 f1 n1 → ∃ (b : Int64) (P2 : q_H → Nat → Prop) (fr2 c2 s2 lo2 : Nat), fr2 ≤ 400 ∧ c2 ≤ 2 ∧ s2 ≤ 20 ∧ lo2 ≤ 14000 ∧
      Met l ym wsm { frames := fr2, cells := c2, slots := s2, locals := lo2 } (q_P E [.ref (a + 55)] f1 n1) (q_Ql E (fun r0 f2 n2 => b = r0 ∧ P2 f2 n2)) c2 s2 (q_ge E) ∧ R = b ∧
      (∃ r, RM E f1 (a + 55) r) ∧ ∀ f2 n2, P2 f2 n2 → J9 f2 n2

def PAIRK (l : Launch) (E : q_E) (a : Nat) (J9 : q_H → Nat → Prop) (yx : MethodName) (wsx : List Cond) (ym : MethodName) (wsm : List Cond) (f : q_H) (n : Nat) : Prop :=
  ∃ (R : UInt64) (P1 : q_H → Nat → Prop) (fr c1 s1 lo : Nat), fr ≤ 400 ∧ c1 ≤ 420 ∧ s1 ≤ 3780 ∧ lo ≤ 14000 ∧
    Met l yx wsx { frames := fr, cells := c1, slots := s1, locals := lo } (q_P E [.ref a] f n) (q_Qd E (fun r0 f1 n1 => R = r0 ∧ P1 f1 n1)) c1 s1 (q_ge E) ∧
    ∀ f1 n1, P1 f1 n1 → ∃ (b : UInt64) (P2 : q_H → Nat → Prop) (fr2 c2 s2 lo2 : Nat), fr2 ≤ 400 ∧ c2 ≤ 2 ∧ s2 ≤ 20 ∧ lo2 ≤ 14000 ∧
      Met l ym wsm { frames := fr2, cells := c2, slots := s2, locals := lo2 } (q_P E [.ref (a + 55)] f1 n1) (q_Qd E (fun r0 f2 n2 => b = r0 ∧ P2 f2 n2)) c2 s2 (q_ge E) ∧ R = b ∧
      (∃ r, RM E f1 (a + 55) r) ∧ ∀ f2 n2, P2 f2 n2 → J9 f2 n2

set_option maxHeartbeats 1000000 in
theorem P_errorAt (l : Launch) (E : q_E) (a BB : Nat) (f : q_H) (n : Nat) (hB : BB ≤ 2 ^ 29) (hJ : JJ E a BB f n) : PAIRI l E a (JJ E a (BB + 100)) yX12_errorAt wsX12_errorAt yX14_errorAt wsX14_errorAt f n := by
  obtain ⟨ep, L, g, bk0, et, er0, c0, here0, k0, kk0, po0, wo0, b0, w0, b1, w1, bk, pn, rc, ac, gB, hd, v, bt, hdt, vt, lo, hi, RS, r, og, hF, hQ, hM, hO⟩ := hJ
  have hF0 := hF
  obtain ⟨c1, c2, c3, c4, c5, c6, c7, c8, c9, c10, c12, c13, k1, k2, s1⟩ := hF0
  have hQ0 := hQ
  obtain ⟨p1, p2, p3, p4, p5, p6, p7, p8, i1, i2, r1, r2, r3, r4, r5, r6, r7, r8, r9⟩ := hQ0
  refine ⟨_, _, _, _, _, _, (by omega), (by omega), (by omega), (by omega), kX12_errorAt l E f n (hX := c1) (hB := c12) (hk := k1) (hbo := (by unfold kOut; omega)) (hxo := (by unfold kOut; omega)) (hpn := p2) (hrc := p3), ?_⟩
  rintro f1 n1 ⟨rfl, rfl⟩
  refine ⟨_, _, _, _, _, _, (by omega), (by omega), (by omega), (by omega), kX14_errorAt l E _ _ (a + 55) (r := r) (hm := hM), r4.symm, ⟨r, hM⟩, ?_⟩
  rintro f2 n2 ⟨rfl, rfl⟩
  exact ⟨ep, L, g, bk0, et, er0, c0, here0, k0, kk0, po0, wo0, b0, w0, b1, w1, bk, pn, rc, ac, gB, hd, v, bt, hdt, vt, lo, hi, RS, _, og, hF.frame (n := n) (fun q hq => rO_out (by omega)) p4 p7 p5 p6, (hQ.row (j := 100) (x := fun _ => 0) (Nat.le_refl _) (by decide)).le (by omega) (Nat.le_refl _), rO_K, (rO_out (by omega)).trans hO⟩

set_option maxHeartbeats 1000000 in
theorem P_pans (l : Launch) (E : q_E) (a BB : Nat) (f : q_H) (n : Nat) (hB : BB ≤ 2 ^ 29) (hJ : JJ E a BB f n) : PAIRI l E a (JJ E a (BB + 100)) yX12_pans wsX12_pans yX14_pans wsX14_pans f n := by
  obtain ⟨ep, L, g, bk0, et, er0, c0, here0, k0, kk0, po0, wo0, b0, w0, b1, w1, bk, pn, rc, ac, gB, hd, v, bt, hdt, vt, lo, hi, RS, r, og, hF, hQ, hM, hO⟩ := hJ
  have hF0 := hF
  obtain ⟨c1, c2, c3, c4, c5, c6, c7, c8, c9, c10, c12, c13, k1, k2, s1⟩ := hF0
  have hQ0 := hQ
  obtain ⟨p1, p2, p3, p4, p5, p6, p7, p8, i1, i2, r1, r2, r3, r4, r5, r6, r7, r8, r9⟩ := hQ0
  refine ⟨_, _, _, _, _, _, (by omega), (by omega), (by omega), (by omega), kX12_pans l E f n (hX := c1) (hB := c12) (hk := k1) (hbo := (by unfold kOut; omega)) (hxo := (by unfold kOut; omega)) (hpn := p2) (hrc := p3), ?_⟩
  rintro f1 n1 ⟨rfl, rfl⟩
  refine ⟨_, _, _, _, _, _, (by omega), (by omega), (by omega), (by omega), kX14_pans l E _ _ (a + 55) (r := r) (hm := hM), r1.symm, ⟨r, hM⟩, ?_⟩
  rintro f2 n2 ⟨rfl, rfl⟩
  exact ⟨ep, L, g, bk0, et, er0, c0, here0, k0, kk0, po0, wo0, b0, w0, b1, w1, bk, pn, rc, ac, gB, hd, v, bt, hdt, vt, lo, hi, RS, _, og, hF.frame (n := n) (fun q hq => rO_out (by omega)) p4 p7 p5 p6, (hQ.row (j := 100) (x := fun _ => 0) (Nat.le_refl _) (by decide)).le (by omega) (Nat.le_refl _), rO_K, (rO_out (by omega)).trans hO⟩

set_option maxHeartbeats 1000000 in
theorem P_recipes (l : Launch) (E : q_E) (a BB : Nat) (f : q_H) (n : Nat) (hB : BB ≤ 2 ^ 29) (hJ : JJ E a BB f n) : PAIRI l E a (JJ E a (BB + 100)) yX12_recipes wsX12_recipes yX14_recipes wsX14_recipes f n := by
  obtain ⟨ep, L, g, bk0, et, er0, c0, here0, k0, kk0, po0, wo0, b0, w0, b1, w1, bk, pn, rc, ac, gB, hd, v, bt, hdt, vt, lo, hi, RS, r, og, hF, hQ, hM, hO⟩ := hJ
  have hF0 := hF
  obtain ⟨c1, c2, c3, c4, c5, c6, c7, c8, c9, c10, c12, c13, k1, k2, s1⟩ := hF0
  have hQ0 := hQ
  obtain ⟨p1, p2, p3, p4, p5, p6, p7, p8, i1, i2, r1, r2, r3, r4, r5, r6, r7, r8, r9⟩ := hQ0
  refine ⟨_, _, _, _, _, _, (by omega), (by omega), (by omega), (by omega), kX12_recipes l E f n (hX := c1) (hB := c12) (hk := k1) (hbo := (by unfold kOut; omega)) (hxo := (by unfold kOut; omega)) (hpn := p2) (hrc := p3), ?_⟩
  rintro f1 n1 ⟨rfl, rfl⟩
  refine ⟨_, _, _, _, _, _, (by omega), (by omega), (by omega), (by omega), kX14_recipes l E _ _ (a + 55) (r := r) (hm := hM), r2.symm, ⟨r, hM⟩, ?_⟩
  rintro f2 n2 ⟨rfl, rfl⟩
  exact ⟨ep, L, g, bk0, et, er0, c0, here0, k0, kk0, po0, wo0, b0, w0, b1, w1, bk, pn, rc, ac, gB, hd, v, bt, hdt, vt, lo, hi, RS, _, og, hF.frame (n := n) (fun q hq => rO_out (by omega)) p4 p7 p5 p6, (hQ.row (j := 100) (x := fun _ => 0) (Nat.le_refl _) (by decide)).le (by omega) (Nat.le_refl _), rO_K, (rO_out (by omega)).trans hO⟩

set_option maxHeartbeats 1000000 in
theorem P_acts (l : Launch) (E : q_E) (a BB : Nat) (f : q_H) (n : Nat) (hB : BB ≤ 2 ^ 29) (hJ : JJ E a BB f n) : PAIRI l E a (JJ E a (BB + 100)) yX12_acts wsX12_acts yX14_acts wsX14_acts f n := by
  obtain ⟨ep, L, g, bk0, et, er0, c0, here0, k0, kk0, po0, wo0, b0, w0, b1, w1, bk, pn, rc, ac, gB, hd, v, bt, hdt, vt, lo, hi, RS, r, og, hF, hQ, hM, hO⟩ := hJ
  have hF0 := hF
  obtain ⟨c1, c2, c3, c4, c5, c6, c7, c8, c9, c10, c12, c13, k1, k2, s1⟩ := hF0
  have hQ0 := hQ
  obtain ⟨p1, p2, p3, p4, p5, p6, p7, p8, i1, i2, r1, r2, r3, r4, r5, r6, r7, r8, r9⟩ := hQ0
  refine ⟨_, _, _, _, _, _, (by omega), (by omega), (by omega), (by omega), kX12_acts l E f n (hX := c1) (hB := c12) (hk := k1) (hbo := (by unfold kOut; omega)) (hxo := (by unfold kOut; omega)) (hpn := p2) (hrc := p3), ?_⟩
  rintro f1 n1 ⟨rfl, rfl⟩
  refine ⟨_, _, _, _, _, _, (by omega), (by omega), (by omega), (by omega), kX14_acts l E _ _ (a + 55) (r := r) (hm := hM), r3.symm, ⟨r, hM⟩, ?_⟩
  rintro f2 n2 ⟨rfl, rfl⟩
  exact ⟨ep, L, g, bk0, et, er0, c0, here0, k0, kk0, po0, wo0, b0, w0, b1, w1, bk, pn, rc, ac, gB, hd, v, bt, hdt, vt, lo, hi, RS, _, og, hF.frame (n := n) (fun q hq => rO_out (by omega)) p4 p7 p5 p6, (hQ.row (j := 100) (x := fun _ => 0) (Nat.le_refl _) (by decide)).le (by omega) (Nat.le_refl _), rO_K, (rO_out (by omega)).trans hO⟩

set_option maxHeartbeats 1000000 in
theorem P_altitude (l : Launch) (E : q_E) (a BB : Nat) (f : q_H) (n : Nat) (hB : BB ≤ 2 ^ 29) (hJ : JJ E a BB f n) : PAIRI l E a (JJ E a (BB + 100)) yX12_altitude wsX12_altitude yX14_altitude wsX14_altitude f n := by
  obtain ⟨ep, L, g, bk0, et, er0, c0, here0, k0, kk0, po0, wo0, b0, w0, b1, w1, bk, pn, rc, ac, gB, hd, v, bt, hdt, vt, lo, hi, RS, r, og, hF, hQ, hM, hO⟩ := hJ
  have hF0 := hF
  obtain ⟨c1, c2, c3, c4, c5, c6, c7, c8, c9, c10, c12, c13, k1, k2, s1⟩ := hF0
  have hQ0 := hQ
  obtain ⟨p1, p2, p3, p4, p5, p6, p7, p8, i1, i2, r1, r2, r3, r4, r5, r6, r7, r8, r9⟩ := hQ0
  refine ⟨_, _, _, _, _, _, (by omega), (by omega), (by omega), (by omega), kX12_altitude l E f n (hX := c1) (hB := c12) (hk := k1) (hbo := (by unfold kOut; omega)) (hxo := (by unfold kOut; omega)) (hpn := p2) (hrc := p3), ?_⟩
  rintro f1 n1 ⟨rfl, rfl⟩
  refine ⟨_, _, _, _, _, _, (by omega), (by omega), (by omega), (by omega), kX14_altitude l E _ _ (a + 55) (r := r) (hm := hM), r8.2.1 0 (by decide), ⟨r, hM⟩, ?_⟩
  rintro f2 n2 ⟨rfl, rfl⟩
  exact ⟨ep, L, g, bk0, et, er0, c0, here0, k0, kk0, po0, wo0, b0, w0, b1, w1, bk, pn, rc, ac, gB, hd, v, bt, hdt, vt, lo, hi, RS, _, og, hF.frame (n := n) (fun q hq => rO_out (by omega)) p4 p7 p5 p6, (hQ.row (j := 100) (x := fun _ => 0) (Nat.le_refl _) (by decide)).le (by omega) (Nat.le_refl _), rO_K, (rO_out (by omega)).trans hO⟩

set_option maxHeartbeats 1000000 in
theorem P_boilingPoint (l : Launch) (E : q_E) (a BB : Nat) (f : q_H) (n : Nat) (hB : BB ≤ 2 ^ 29) (hJ : JJ E a BB f n) : PAIRI l E a (JJ E a (BB + 100)) yX12_boilingPoint wsX12_boilingPoint yX14_boilingPoint wsX14_boilingPoint f n := by
  obtain ⟨ep, L, g, bk0, et, er0, c0, here0, k0, kk0, po0, wo0, b0, w0, b1, w1, bk, pn, rc, ac, gB, hd, v, bt, hdt, vt, lo, hi, RS, r, og, hF, hQ, hM, hO⟩ := hJ
  have hF0 := hF
  obtain ⟨c1, c2, c3, c4, c5, c6, c7, c8, c9, c10, c12, c13, k1, k2, s1⟩ := hF0
  have hQ0 := hQ
  obtain ⟨p1, p2, p3, p4, p5, p6, p7, p8, i1, i2, r1, r2, r3, r4, r5, r6, r7, r8, r9⟩ := hQ0
  refine ⟨_, _, _, _, _, _, (by omega), (by omega), (by omega), (by omega), kX12_boilingPoint l E f n (hX := c1) (hB := c12) (hk := k1) (hbo := (by unfold kOut; omega)) (hxo := (by unfold kOut; omega)) (hpn := p2) (hrc := p3), ?_⟩
  rintro f1 n1 ⟨rfl, rfl⟩
  refine ⟨_, _, _, _, _, _, (by omega), (by omega), (by omega), (by omega), kX14_boilingPoint l E _ _ (a + 55) (r := r) (hm := hM), (by rw [r8.2.1 0 (by decide)]), ⟨r, hM⟩, ?_⟩
  rintro f2 n2 ⟨rfl, rfl⟩
  exact ⟨ep, L, g, bk0, et, er0, c0, here0, k0, kk0, po0, wo0, b0, w0, b1, w1, bk, pn, rc, ac, gB, hd, v, bt, hdt, vt, lo, hi, RS, _, og, hF.frame (n := n) (fun q hq => rO_out (by omega)) p4 p7 p5 p6, (hQ.row (j := 100) (x := fun _ => 0) (Nat.le_refl _) (by decide)).le (by omega) (Nat.le_refl _), rO_K, (rO_out (by omega)).trans hO⟩

set_option maxHeartbeats 1000000 in
theorem P_servings (l : Launch) (E : q_E) (a BB : Nat) (f : q_H) (n : Nat) (hB : BB ≤ 2 ^ 29) (hJ : JJ E a BB f n) : PAIRI l E a (JJ E a (BB + 100)) yX12_servings wsX12_servings yX14_servings wsX14_servings f n := by
  obtain ⟨ep, L, g, bk0, et, er0, c0, here0, k0, kk0, po0, wo0, b0, w0, b1, w1, bk, pn, rc, ac, gB, hd, v, bt, hdt, vt, lo, hi, RS, r, og, hF, hQ, hM, hO⟩ := hJ
  have hF0 := hF
  obtain ⟨c1, c2, c3, c4, c5, c6, c7, c8, c9, c10, c12, c13, k1, k2, s1⟩ := hF0
  have hQ0 := hQ
  obtain ⟨p1, p2, p3, p4, p5, p6, p7, p8, i1, i2, r1, r2, r3, r4, r5, r6, r7, r8, r9⟩ := hQ0
  refine ⟨_, _, _, _, _, _, (by omega), (by omega), (by omega), (by omega), kX12_servings l E f n (hX := c1) (hB := c12) (hk := k1) (hbo := (by unfold kOut; omega)) (hxo := (by unfold kOut; omega)) (hpn := p2) (hrc := p3), ?_⟩
  rintro f1 n1 ⟨rfl, rfl⟩
  refine ⟨_, _, _, _, _, _, (by omega), (by omega), (by omega), (by omega), kX14_servings l E _ _ (a + 55) (r := r) (hm := hM), r8.2.1 1 (by decide), ⟨r, hM⟩, ?_⟩
  rintro f2 n2 ⟨rfl, rfl⟩
  exact ⟨ep, L, g, bk0, et, er0, c0, here0, k0, kk0, po0, wo0, b0, w0, b1, w1, bk, pn, rc, ac, gB, hd, v, bt, hdt, vt, lo, hi, RS, _, og, hF.frame (n := n) (fun q hq => rO_out (by omega)) p4 p7 p5 p6, (hQ.row (j := 100) (x := fun _ => 0) (Nat.le_refl _) (by decide)).le (by omega) (Nat.le_refl _), rO_K, (rO_out (by omega)).trans hO⟩

set_option maxHeartbeats 1000000 in
theorem P_spoon (l : Launch) (E : q_E) (a BB : Nat) (f : q_H) (n : Nat) (hB : BB ≤ 2 ^ 29) (hJ : JJ E a BB f n) : PAIRI l E a (JJ E a (BB + 100)) yX12_spoon wsX12_spoon yX14_spoon wsX14_spoon f n := by
  obtain ⟨ep, L, g, bk0, et, er0, c0, here0, k0, kk0, po0, wo0, b0, w0, b1, w1, bk, pn, rc, ac, gB, hd, v, bt, hdt, vt, lo, hi, RS, r, og, hF, hQ, hM, hO⟩ := hJ
  have hF0 := hF
  obtain ⟨c1, c2, c3, c4, c5, c6, c7, c8, c9, c10, c12, c13, k1, k2, s1⟩ := hF0
  have hQ0 := hQ
  obtain ⟨p1, p2, p3, p4, p5, p6, p7, p8, i1, i2, r1, r2, r3, r4, r5, r6, r7, r8, r9⟩ := hQ0
  refine ⟨_, _, _, _, _, _, (by omega), (by omega), (by omega), (by omega), kX12_spoon l E f n (hX := c1) (hB := c12) (hk := k1) (hbo := (by unfold kOut; omega)) (hxo := (by unfold kOut; omega)) (hpn := p2) (hrc := p3), ?_⟩
  rintro f1 n1 ⟨rfl, rfl⟩
  refine ⟨_, _, _, _, _, _, (by omega), (by omega), (by omega), (by omega), kX14_spoon l E _ _ (a + 55) (r := r) (hm := hM), r8.2.1 2 (by decide), ⟨r, hM⟩, ?_⟩
  rintro f2 n2 ⟨rfl, rfl⟩
  exact ⟨ep, L, g, bk0, et, er0, c0, here0, k0, kk0, po0, wo0, b0, w0, b1, w1, bk, pn, rc, ac, gB, hd, v, bt, hdt, vt, lo, hi, RS, _, og, hF.frame (n := n) (fun q hq => rO_out (by omega)) p4 p7 p5 p6, (hQ.row (j := 100) (x := fun _ => 0) (Nat.le_refl _) (by decide)).le (by omega) (Nat.le_refl _), rO_K, (rO_out (by omega)).trans hO⟩

set_option maxHeartbeats 1000000 in
theorem P_minute (l : Launch) (E : q_E) (a BB : Nat) (f : q_H) (n : Nat) (hB : BB ≤ 2 ^ 29) (hJ : JJ E a BB f n) : PAIRI l E a (JJ E a (BB + 100)) yX12_minute wsX12_minute yX14_minute wsX14_minute f n := by
  obtain ⟨ep, L, g, bk0, et, er0, c0, here0, k0, kk0, po0, wo0, b0, w0, b1, w1, bk, pn, rc, ac, gB, hd, v, bt, hdt, vt, lo, hi, RS, r, og, hF, hQ, hM, hO⟩ := hJ
  have hF0 := hF
  obtain ⟨c1, c2, c3, c4, c5, c6, c7, c8, c9, c10, c12, c13, k1, k2, s1⟩ := hF0
  have hQ0 := hQ
  obtain ⟨p1, p2, p3, p4, p5, p6, p7, p8, i1, i2, r1, r2, r3, r4, r5, r6, r7, r8, r9⟩ := hQ0
  refine ⟨_, _, _, _, _, _, (by omega), (by omega), (by omega), (by omega), kX12_minute l E f n (hX := c1) (hB := c12) (hk := k1) (hbo := (by unfold kOut; omega)) (hxo := (by unfold kOut; omega)) (hpn := p2) (hrc := p3), ?_⟩
  rintro f1 n1 ⟨rfl, rfl⟩
  refine ⟨_, _, _, _, _, _, (by omega), (by omega), (by omega), (by omega), kX14_minute l E _ _ (a + 55) (r := r) (hm := hM), r8.2.1 3 (by decide), ⟨r, hM⟩, ?_⟩
  rintro f2 n2 ⟨rfl, rfl⟩
  exact ⟨ep, L, g, bk0, et, er0, c0, here0, k0, kk0, po0, wo0, b0, w0, b1, w1, bk, pn, rc, ac, gB, hd, v, bt, hdt, vt, lo, hi, RS, _, og, hF.frame (n := n) (fun q hq => rO_out (by omega)) p4 p7 p5 p6, (hQ.row (j := 100) (x := fun _ => 0) (Nat.le_refl _) (by decide)).le (by omega) (Nat.le_refl _), rO_K, (rO_out (by omega)).trans hO⟩

set_option maxHeartbeats 1000000 in
theorem P_warnings (l : Launch) (E : q_E) (a BB : Nat) (f : q_H) (n : Nat) (hB : BB ≤ 2 ^ 29) (hJ : JJ E a BB f n) : PAIRI l E a (JJ E a (BB + 100)) yX12_warnings wsX12_warnings yX14_warnings wsX14_warnings f n := by
  obtain ⟨ep, L, g, bk0, et, er0, c0, here0, k0, kk0, po0, wo0, b0, w0, b1, w1, bk, pn, rc, ac, gB, hd, v, bt, hdt, vt, lo, hi, RS, r, og, hF, hQ, hM, hO⟩ := hJ
  have hF0 := hF
  obtain ⟨c1, c2, c3, c4, c5, c6, c7, c8, c9, c10, c12, c13, k1, k2, s1⟩ := hF0
  have hQ0 := hQ
  obtain ⟨p1, p2, p3, p4, p5, p6, p7, p8, i1, i2, r1, r2, r3, r4, r5, r6, r7, r8, r9⟩ := hQ0
  refine ⟨_, _, _, _, _, _, (by omega), (by omega), (by omega), (by omega), kX12_warnings l E f n (hX := c1) (hB := c12) (hk := k1) (hbo := (by unfold kOut; omega)) (hxo := (by unfold kOut; omega)) (hpn := p2) (hrc := p3), ?_⟩
  rintro f1 n1 ⟨rfl, rfl⟩
  refine ⟨_, _, _, _, _, _, (by omega), (by omega), (by omega), (by omega), kX14_warnings l E _ _ (a + 55) (r := r) (hm := hM), r9.1, ⟨r, hM⟩, ?_⟩
  rintro f2 n2 ⟨rfl, rfl⟩
  exact ⟨ep, L, g, bk0, et, er0, c0, here0, k0, kk0, po0, wo0, b0, w0, b1, w1, bk, pn, rc, ac, gB, hd, v, bt, hdt, vt, lo, hi, RS, _, og, hF.frame (n := n) (fun q hq => rO_out (by omega)) p4 p7 p5 p6, (hQ.row (j := 100) (x := fun _ => 0) (Nat.le_refl _) (by decide)).le (by omega) (Nat.le_refl _), rO_K, (rO_out (by omega)).trans hO⟩

set_option maxHeartbeats 1000000 in
theorem P_notes (l : Launch) (E : q_E) (a BB : Nat) (f : q_H) (n : Nat) (hB : BB ≤ 2 ^ 29) (hJ : JJ E a BB f n) : PAIRI l E a (JJ E a (BB + 100)) yX12_notes wsX12_notes yX14_notes wsX14_notes f n := by
  obtain ⟨ep, L, g, bk0, et, er0, c0, here0, k0, kk0, po0, wo0, b0, w0, b1, w1, bk, pn, rc, ac, gB, hd, v, bt, hdt, vt, lo, hi, RS, r, og, hF, hQ, hM, hO⟩ := hJ
  have hF0 := hF
  obtain ⟨c1, c2, c3, c4, c5, c6, c7, c8, c9, c10, c12, c13, k1, k2, s1⟩ := hF0
  have hQ0 := hQ
  obtain ⟨p1, p2, p3, p4, p5, p6, p7, p8, i1, i2, r1, r2, r3, r4, r5, r6, r7, r8, r9⟩ := hQ0
  refine ⟨_, _, _, _, _, _, (by omega), (by omega), (by omega), (by omega), kX12_notes l E f n (hX := c1) (hB := c12) (hk := k1) (hbo := (by unfold kOut; omega)) (hxo := (by unfold kOut; omega)) (hpn := p2) (hrc := p3), ?_⟩
  rintro f1 n1 ⟨rfl, rfl⟩
  refine ⟨_, _, _, _, _, _, (by omega), (by omega), (by omega), (by omega), kX14_notes l E _ _ (a + 55) (r := r) (hm := hM), r9.2.1, ⟨r, hM⟩, ?_⟩
  rintro f2 n2 ⟨rfl, rfl⟩
  exact ⟨ep, L, g, bk0, et, er0, c0, here0, k0, kk0, po0, wo0, b0, w0, b1, w1, bk, pn, rc, ac, gB, hd, v, bt, hdt, vt, lo, hi, RS, _, og, hF.frame (n := n) (fun q hq => rO_out (by omega)) p4 p7 p5 p6, (hQ.row (j := 100) (x := fun _ => 0) (Nat.le_refl _) (by decide)).le (by omega) (Nat.le_refl _), rO_K, (rO_out (by omega)).trans hO⟩

set_option maxHeartbeats 1000000 in
theorem P_meanHeat (l : Launch) (E : q_E) (a BB : Nat) (f : q_H) (n : Nat) (hB : BB ≤ 2 ^ 29) (hJ : JJ E a BB f n) : PAIRK l E a (JJ E a (BB + 100)) yX12_meanHeat wsX12_meanHeat yX14_meanHeat wsX14_meanHeat f n := by
  obtain ⟨ep, L, g, bk0, et, er0, c0, here0, k0, kk0, po0, wo0, b0, w0, b1, w1, bk, pn, rc, ac, gB, hd, v, bt, hdt, vt, lo, hi, RS, r, og, hF, hQ, hM, hO⟩ := hJ
  have hF0 := hF
  obtain ⟨c1, c2, c3, c4, c5, c6, c7, c8, c9, c10, c12, c13, k1, k2, s1⟩ := hF0
  have hQ0 := hQ
  obtain ⟨p1, p2, p3, p4, p5, p6, p7, p8, i1, i2, r1, r2, r3, r4, r5, r6, r7, r8, r9⟩ := hQ0
  refine ⟨_, _, _, _, _, _, (by omega), (by omega), (by omega), (by omega), kX12_meanHeat l E f n (hX := c1) (hB := c12) (hk := k1) (hbo := (by unfold kOut; omega)) (hxo := (by unfold kOut; omega)) (hpn := p2) (hrc := p3), ?_⟩
  rintro f1 n1 ⟨rfl, rfl⟩
  refine ⟨_, _, _, _, _, _, (by omega), (by omega), (by omega), (by omega), kX14_meanHeat l E _ _ (a + 55) (r := r) (hm := hM) (pn := pn) (hpn9 := r1) (hpn := p2), (by unfold z_mean; rw [z_sum_eq pn (fun i hi => (r8.2.2 i hi).2.2.1)]), ⟨r, hM⟩, ?_⟩
  rintro f2 n2 ⟨rfl, rfl⟩
  exact ⟨ep, L, g, bk0, et, er0, c0, here0, k0, kk0, po0, wo0, b0, w0, b1, w1, bk, pn, rc, ac, gB, hd, v, bt, hdt, vt, lo, hi, RS, _, og, hF.frame (n := n) (fun q hq => rO_out (by omega)) p4 p7 p5 p6, (hQ.row (j := 100) (x := fun _ => 0) (Nat.le_refl _) (by decide)).le (by omega) (Nat.le_refl _), rO_K, (rO_out (by omega)).trans hO⟩

theorem z_dgp_eq {hd hd' v v' : q_V} {d : Int64} : ∀ (pn : Nat), (∀ i, i < pn → hd i = hd' i ∧ v (52 + 4 * i) = v' (52 + 4 * i) ∧ v (53 + 4 * i) = v' (53 + 4 * i) ∧ v (54 + 4 * i) = v' (54 + 4 * i) ∧ v (55 + 4 * i) = v' (55 + 4 * i)) → z_dgp hd v d pn = z_dgp hd' v' d pn
  | 0, _ => rfl
  | j + 1, h => by
    obtain ⟨e0, e1, e2, e3, e4⟩ := h j (by omega)
    have ih := z_dgp_eq (d := d) j (fun i hi => h i (by omega))
    show z_mx (z_mx (z_mx (z_mx (z_mx (z_dgp hd v d j) (hd j)) (v (52 + 0 + 4 * j))) (v (52 + 1 + 4 * j))) (v (52 + 2 + 4 * j))) (v (52 + 3 + 4 * j)) = z_mx (z_mx (z_mx (z_mx (z_mx (z_dgp hd' v' d j) (hd' j)) (v' (52 + 0 + 4 * j))) (v' (52 + 1 + 4 * j))) (v' (52 + 2 + 4 * j))) (v' (52 + 3 + 4 * j))
    rw [ih, e0]
    rw [show 52 + 0 + 4 * j = 52 + 4 * j by omega, show 52 + 1 + 4 * j = 53 + 4 * j by omega, show 52 + 2 + 4 * j = 54 + 4 * j by omega, show 52 + 3 + 4 * j = 55 + 4 * j by omega, e1, e2, e3, e4]
theorem z_dgh_eq {v v' : q_V} {t w : Nat} {d : Int64} : ∀ (m : Nat), (∀ i, i < m → v (w + (t - 1 - i) % 20) = v' (w + (t - 1 - i) % 20)) → z_dgh v t w d m = z_dgh v' t w d m
  | 0, _ => rfl
  | j + 1, h => by
    show z_mx (z_dgh v t w d j) _ = z_mx (z_dgh v' t w d j) _
    rw [z_dgh_eq j (fun i hi => h i (by omega)), h j (by omega)]
theorem z_dig_eq {pn : Nat} {b c : Int32} {hd hd' v v' : q_V} {tw tn : Nat} (hr : v_rel pn hd hd' v v') (hx : X_E v v') (htw : tw = k_T v) (htn : tn = k_N v) : z_dig pn b c hd v tw tn = z_dig pn b c hd' v' tw tn := by
  subst htw htn
  have k := hx.2.2.1
  unfold z_dig
  have e0 : z_dg0 (nI pn) b c v = z_dg0 (nI pn) b c v' := by
    unfold z_dg0
    rw [hr.2.1 0 (by decide), hr.2.1 1 (by decide), hr.2.1 2 (by decide), hr.2.1 3 (by decide), hx.1, hx.2.1, show v 7 = v' 7 from k 1 (by decide), show v 8 = v' 8 from k 2 (by decide), show v 9 = v' 9 from k 3 (by decide), show v 10 = v' 10 from k 4 (by decide), show v 11 = v' 11 from k 5 (by decide)]
  rw [e0, z_dgp_eq pn (fun i hi => ⟨hr.1 i hi, hr.2.2 i hi⟩), z_dgh_eq (min 20 (k_T v)) (fun i hi => hx.2.2.2.1 i (by omega)), z_dgh_eq (min 20 (k_N v)) (fun i hi => hx.2.2.2.2 i (by omega))]

set_option maxHeartbeats 1000000 in
theorem P_digest (l : Launch) (E : q_E) (a BB : Nat) (f : q_H) (n : Nat) (hB : BB ≤ 2 ^ 29) (hJ : JJ E a BB f n) : PAIRJ l E a (JJ E a (BB + 100)) yX12_digest wsX12_digest yX14_digest wsX14_digest f n := by
  obtain ⟨ep, L, g, bk0, et, er0, c0, here0, k0, kk0, po0, wo0, b0, w0, b1, w1, bk, pn, rc, ac, gB, hd, v, bt, hdt, vt, lo, hi, RS, r, og, hF, hQ, hM, hO⟩ := hJ
  have hF0 := hF
  obtain ⟨c1, c2, c3, c4, c5, c6, c7, c8, c9, c10, c12, c13, k1, k2, s1⟩ := hF0
  have hQ0 := hQ
  obtain ⟨p1, p2, p3, p4, p5, p6, p7, p8, i1, i2, r1, r2, r3, r4, r5, r6, r7, r8, r9⟩ := hQ0
  refine ⟨_, _, _, _, _, _, (by omega), (by omega), (by omega), (by omega), kX12_digest l E f n (hX := c1) (hB := c12) (hk := k1) (hbo := (by unfold kOut; omega)) (hxo := (by unfold kOut; omega)) (hpn := p2) (hrc := p3) (tw := k_T v) (tn := k_N v) (h4 := (i1.ok hB).1.1) (h5 := (i1.ok hB).2.1) (ht4 := (i1.ok hB).1.2) (ht5 := (i1.ok hB).2.2), ?_⟩
  rintro f1 n1 ⟨rfl, rfl⟩
  refine ⟨_, _, _, _, _, _, (by omega), (by omega), (by omega), (by omega), kX14_digest l E _ _ (a + 55) (r := r) (hm := hM) (pn := pn) (tw := k_T v) (tn := k_N v) (hpn9 := r1) (hpn := p2) (h4 := r9.1.symm.trans (i1.ok hB).1.1) (h5 := r9.2.1.symm.trans (i1.ok hB).2.1) (ht4 := (i1.ok hB).1.2) (ht5 := (i1.ok hB).2.2) (hMn := by omega), (by show z_dig pn (nI rc) ac hd v (k_T v) (k_N v) = z_dig pn (r 121 0) (r 122 0) (r 9) (r 42) (k_T v) (k_N v); rw [r2, r3]; exact z_dig_eq r8 r9 rfl rfl), ⟨r, hM⟩, ?_⟩
  rintro f2 n2 ⟨⟨y9, rfl⟩, rfl⟩
  exact ⟨ep, L, g, bk0, et, er0, c0, here0, k0, kk0, po0, wo0, b0, w0, b1, w1, bk, pn, rc, ac, gB, hd, v, bt, hdt, vt, lo, hi, RS, _, og, hF.frame (n := n) (fun q hq => (rO_out (by omega)).trans (va_up_ne _ _ (by omega))) p4 p7 p5 p6, (hQ.row (j := 100) (x := fun _ => 0) (Nat.le_refl _) (by decide)).le (by omega) (Nat.le_succ _), rO_K, (rO_out (by omega)).trans ((va_up_ne _ _ (by omega)).trans hO)⟩

theorem z_bgn_0' {v : q_V} {j q : Nat} (h : q < 12) : z_bgn v j q = z_ini q := by
  unfold z_bgn z_ini
  by_cases h1 : q = 1
  · rw [if_pos h1, if_pos h1]
  · rw [if_neg h1, if_neg h1]
    by_cases h2 : q = 2
    · rw [if_pos h2, if_pos h2]
    · rw [if_neg h2, if_neg h2, if_pos h, if_neg (by omega)]
theorem z_bgn_p {v : q_V} {j q : Nat} (h : 52 ≤ q) (h2 : q < 52 + 4 * j) : z_bgn v j q = z_ini q := by
  have a1 : z_bgn v j q = if q % 4 = 2 then 20 else 0 := by
    unfold z_bgn
    rw [if_neg (by omega), if_neg (by omega), if_neg (by omega), if_pos ⟨h, h2⟩]
  have a2 : z_ini q = if 54 ≤ q ∧ q % 4 = 2 then 20 else 0 := by
    unfold z_ini
    rw [if_neg (by omega), if_neg (by omega)]
  rw [a1, a2]
  by_cases h3 : q % 4 = 2
  · rw [if_pos h3, if_pos ⟨by omega, h3⟩]
  · rw [if_neg h3, if_neg (fun h9 => h3 h9.2)]
theorem v_rel_bgn {pn : Nat} {hd hd' hN v : q_V} (h : ∀ i, i < pn → hd' i = hN i) : v_rel pn (z_hdn hd hN pn) hd' (z_bgn v pn) z_ini :=
  ⟨fun i hi => (if_pos hi).trans (h i hi).symm, fun q hq => z_bgn_0' (by omega), fun i hi => ⟨z_bgn_p (by omega) (by omega), z_bgn_p (by omega) (by omega), z_bgn_p (by omega) (by omega), z_bgn_p (by omega) (by omega)⟩⟩
theorem z_ini_z {q : Nat} (h1 : q ≠ 1) (h2 : q ≠ 2) (h : q < 54) : z_ini q = 0 := z_ini_0 h1 h2 h
theorem k_T_0 {v : q_V} (h : v 4 = 0) : k_T v = 0 := by unfold k_T; rw [h]; rfl
theorem k_N_0 {v : q_V} (h : v 5 = 0) : k_N v = 0 := by unfold k_N; rw [h]; rfl
theorem X_E_bgn {pn : Nat} {v : q_V} : X_E (z_bgn v pn) z_ini := by
  have e4 : z_bgn v pn 4 = 0 := (z_bgn_0' (by decide)).trans (z_ini_z (by decide) (by decide) (by decide))
  have e5 : z_bgn v pn 5 = 0 := (z_bgn_0' (by decide)).trans (z_ini_z (by decide) (by decide) (by decide))
  refine ⟨z_bgn_0' (by decide), z_bgn_0' (by decide), fun j hj => z_bgn_0' (by omega), fun i hi => ?_, fun i hi => ?_⟩
  · rw [k_T_0 e4] at hi; omega
  · rw [k_N_0 e5] at hi; omega
theorem k_inv_bgn {B pn : Nat} {v : q_V} (hB : 100 ≤ B) : k_inv B (z_bgn v pn, 0, (-1)) := k_inv_0 hB ((z_bgn_0' (by decide)).trans (z_ini_z (by decide) (by decide) (by decide))) ((z_bgn_0' (by decide)).trans (z_ini_z (by decide) (by decide) (by decide)))
theorem k_inv_ini {B : Nat} (hB : 100 ≤ B) : k_inv B (z_ini, 0, (-1)) := k_inv_0 hB (z_ini_z (by decide) (by decide) (by decide)) (z_ini_z (by decide) (by decide) (by decide))
theorem v_ok_ini {pn : Nat} {hd : q_V} (h : ∀ i, i < pn → h_ok (hd i)) : v_ok pn hd z_ini := by
  refine ⟨⟨0, by decide, rfl⟩, ⟨1, by decide, by decide, rfl⟩, fun i hi => ?_⟩
  obtain ⟨x, e, hx⟩ := h i hi
  refine ⟨0, 0, x, ?_, ?_, e, by omega, hx⟩
  · rw [nI_0]; unfold z_ini; rw [if_neg (by omega), if_neg (by omega), if_neg (by omega)]
  · rw [nI_0]; unfold z_ini; rw [if_neg (by omega), if_neg (by omega), if_neg (by omega)]
theorem tp_0 {r : q_R} {g : Nat → Int32} (h : r 101 0 = 0) : r_tp r g 0 := ⟨h, Nat.zero_le _, fun j hj => absurd hj (Nat.not_lt_zero _)⟩

set_option maxHeartbeats 1000000 in
theorem P_teach (l : Launch) (E : q_E) (a BB : Nat) (f : q_H) (n : Nat) (hB : BB ≤ 2 ^ 29) (hJ : JJ E a BB f n) : PAIRI l E a (JJ E a (BB + 100)) yX12_teach wsX12_teach yX14_teach wsX14_teach f n := by
  obtain ⟨ep, L, g, bk0, et, er0, c0, here0, k0, kk0, po0, wo0, b0, w0, b1, w1, bk, pn, rc, ac, gB, hd, v, bt, hdt, vt, lo, hi, RS, r, og, hF, hQ, hM, hO⟩ := hJ
  have hF0 := hF
  obtain ⟨c1, c2, c3, c4, c5, c6, c7, c8, c9, c10, c12, c13, k1, k2, s1⟩ := hF0
  have hQ0 := hQ
  obtain ⟨p1, p2, p3, p4, p5, p6, p7, p8, i1, i2, r1, r2, r3, r4, r5, r6, r7, r8, r9⟩ := hQ0
  have hrb := room_book (g := g) (L := L) (et := et) (n := n + 5)
  refine ⟨_, _, _, _, _, _, (by omega), (by omega), (by omega), (by omega), kX12_teach l E f n (hX := c1) (hT := c2) (hT1 := c3) (p0 := c4) (p1 := c5) (p2 := c6) (p3 := c7) (p4 := c8) (hk := k1) (hL := p1) (hlay := ⟨by omega, by omega, by omega, by omega⟩), ?_⟩
  rintro f1 n1 ⟨⟨F8, T, kk, po, wo, gb, q0, q1, q2, q3, q4, qb, qb2, qb4, fr8, hp8, hr6, hRS8, rfl⟩, rfl⟩
  obtain ⟨U, hU⟩ : ∃ U : q_H, U = va_up (va_up F8 a (some (rX12 (some (a + 1)) (some (a + 3)) (some (a + 13)) (some (a + 33)) (some (a + 34)) (some (a + 54)) (if (BKp (t_K g L) (t_W g L) et (n + 5)).2.2.1 = 0 then -1 else nI (t_P g L (BKp (t_K g L) (t_W g L) et (n + 5)).2.2.2.1))))) (a + 1) (some (cTape (a + 1) 0)) := ⟨_, rfl⟩
  have u1 : U a = some (rX12 (some (a + 1)) (some (a + 3)) (some (a + 13)) (some (a + 33)) (some (a + 34)) (some (a + 54)) (if (BKp (t_K g L) (t_W g L) et (n + 5)).2.2.1 = 0 then -1 else nI (t_P g L (BKp (t_K g L) (t_W g L) et (n + 5)).2.2.2.1))) := by rw [hU]; exact (va_up_ne _ _ (by omega)).trans q_eq
  have u2 : U (a + 1) = some (cTape (a + 1) (nI 0)) := by rw [hU]; exact q_eq
  have u3 : ∀ q, q ≠ a → q ≠ a + 1 → U q = F8 q := fun q h1 h2 => by rw [hU]; exact (va_up_ne _ _ h2).trans (va_up_ne _ _ h1)
  have u4 : ∀ q, q < n → q ≠ a → q ≠ a + 1 → (q < a + 3 ∨ a + 7 < q) → U q = f q := fun q h0 h1 h2 h3 => (u3 q h1 h2).trans (fr8 q h0 (by omega))
  rw [← hU]
  obtain ⟨G, hG⟩ : ∃ G : q_H, G = (if (BKp (t_K g L) (t_W g L) et (n + 5)).2.2.1 = 0 then kO E U (a + 13) n (z_hdn hd (b_P (t_K g L) (t_W g L) et (n + 5)).2.2.2 (b_P (t_K g L) (t_W g L) et (n + 5)).2.1) (z_bgn v (b_P (t_K g L) (t_W g L) et (n + 5)).2.1) else U) := ⟨_, rfl⟩
  rw [← hG]
  have g1 : ∀ q, kOut (a + 13) q → G q = U q := fun q hq => by rw [hG]; split; exact kO_out hq; rfl
  have hm1 : RM E G (a + 55) r := hM.other (fun q h1 h2 => (g1 q (by unfold kOut; omega)).trans (u4 q (by omega) (by omega) (by omega) (by omega)))
  refine ⟨_, _, _, _, _, _, (by omega), (by omega), (by omega), (by omega), kX14_teach l E _ _ (a + 55) (r := r) (hm := hm1) (g := g) (L := L) (et := et) (n0 := n + 5) (htp := r5), rfl, ⟨r, hm1⟩, ?_⟩
  rintro f2 n2 ⟨r1', z100, z101, z102, zk, z43, z110, z111, zg, rfl, rfl⟩
  have hO2 : rO E G (a + 55) r1' (a + 99) = some (aJ E 1 og) := (rO_out (by omega)).trans ((g1 _ (by unfold kOut; omega)).trans ((u4 _ (by omega) (by omega) (by omega) (by omega)).trans hO))
  have W : ∀ q, kOut (a + 13) q → (q < a + 55 ∨ a + 99 ≤ q) → rO E G (a + 55) r1' q = U q := fun q h1 h2 => (rO_out (by omega)).trans (g1 q h1)
  have kz : ∀ q, q < n → q ≠ a → q ≠ a + 1 → (q < a + 3 ∨ a + 7 < q) → kOut (a + 13) q → (q < a + 55 ∨ a + 99 ≤ q) → rO E G (a + 55) r1' q = f q := fun q h0 h1 h2 h3 h4 h5 => (W q h4 h5).trans (u4 q h0 h1 h2 h3)
  have qn : ∀ q, q ≠ a → q ≠ a + 1 → kOut (a + 13) q → (q < a + 55 ∨ a + 99 ≤ q) → rO E G (a + 55) r1' q = F8 q := fun q h1 h2 h4 h5 => (W q h4 h5).trans (u3 q h1 h2)
  by_cases er : (BKp (t_K g L) (t_W g L) et (n + 5)).2.2.1 = 0
  · obtain ⟨y1, y2, y3, y4, y5, y6, y7, y8⟩ := zg er
    have hGe : G = kO E U (a + 13) n (z_hdn hd (b_P (t_K g L) (t_W g L) et (n + 5)).2.2.2 (b_P (t_K g L) (t_W g L) et (n + 5)).2.1) (z_bgn v (b_P (t_K g L) (t_W g L) et (n + 5)).2.1) := by rw [hG]; exact if_pos er
    have jF : JF E a (rO E G (a + 55) r1') ((if (BKp (t_K g L) (t_W g L) et (n + 5)).2.2.1 = 0 then -1 else nI (t_P g L (BKp (t_K g L) (t_W g L) et (n + 5)).2.2.2.1))) (0) (g) (n) ((BKp (t_K g L) (t_W g L) et (n + 5)).2.2.2.1) (nI (BKp (t_K g L) (t_W g L) et (n + 5)).2.2.1) (nI (T + 1)) (nI (BKp (t_K g L) (t_W g L) et (n + 5)).1) ((BKp (t_K g L) (t_W g L) et (n + 5)).2.1) (kk) (po) (wo) (b0) (w0) (b1) (w1) (n) ((b_P (t_K g L) (t_W g L) et (n + 5)).2.1) ((b_R (t_K g L) (t_W g L) et (n + 5)).2.1) (nI (BKp (t_K g L) (t_W g L) et (n + 5)).2.2.2.2.1) (gb) (z_hdn hd (b_P (t_K g L) (t_W g L) et (n + 5)).2.2.2 (b_P (t_K g L) (t_W g L) et (n + 5)).2.1) (z_bgn v (b_P (t_K g L) (t_W g L) et (n + 5)).2.1) (bt) (hdt) (vt) (n + 5) ((b_R (t_K g L) (t_W g L) et (n + 5)).1.2.2.2.2.2) ((b_R (t_K g L) (t_W g L) et (n + 5)).2.2.2) := ⟨(W _ (by unfold kOut; omega) (by omega)).trans u1, (W _ (by unfold kOut; omega) (by omega)).trans u2, (kz _ (by omega) (by omega) (by omega) (by omega) (by unfold kOut; omega) (by omega)).trans c3, (qn _ (by omega) (by omega) (by unfold kOut; omega) (by omega)).trans q0, (qn _ (by omega) (by omega) (by unfold kOut; omega) (by omega)).trans q1, (qn _ (by omega) (by omega) (by unfold kOut; omega) (by omega)).trans q2, (qn _ (by omega) (by omega) (by unfold kOut; omega) (by omega)).trans q3, (qn _ (by omega) (by omega) (by unfold kOut; omega) (by omega)).trans q4, (kz _ (by omega) (by omega) (by omega) (by omega) (by unfold kOut; omega) (by omega)).trans c9, (kz _ (by omega) (by omega) (by omega) (by omega) (by unfold kOut; omega) (by omega)).trans c10, (qn _ (by omega) (by omega) (by unfold kOut; omega) (by omega)).trans qb, (qn _ (by omega) (by omega) (by unfold kOut; omega) (by omega)).trans qb4, (show KIT E G (a + 13) n _ _ by rw [hGe]; exact kO_K).other (fun q hq => rO_out (by unfold kOut at hq; omega)), k2.other (fun q hq => kz q (by unfold kOut at hq; omega) (by unfold kOut at hq; omega) (by unfold kOut at hq; omega) (by unfold kOut at hq; omega) (by unfold kOut at *; omega) (by unfold kOut at hq; omega)), rep_RS (fun q h1 h2 => qn q (by omega) (by omega) (by unfold kOut; omega) (by omega)) (hRS8 er)⟩
    have vr : v_rel (b_P (t_K g L) (t_W g L) et (n + 5)).2.1 (z_hdn hd (b_P (t_K g L) (t_W g L) et (n + 5)).2.2.2 (b_P (t_K g L) (t_W g L) et (n + 5)).2.1) (r1' 9) (z_bgn v (b_P (t_K g L) (t_W g L) et (n + 5)).2.1) (r1' 42) := by rw [y8]; exact v_rel_bgn y6
    have vo : v_ok (b_P (t_K g L) (t_W g L) et (n + 5)).2.1 (r1' 9) (r1' 42) := by rw [y8]; exact v_ok_ini (fun i hi => by rw [y6 i hi]; exact book_h er i hi)
    exact ⟨_, _, _, _, _, _, _, _, _, _, _, _, _, _, _, _, _, _, _, _, _, _, _, _, _, _, _, _, _, r1', og, jF, ⟨Nat.zero_le _, hp8, hr6, Or.inr (by omega), by omega, Nat.le_refl _, by omega, by omega, k_inv_bgn (by have := k_inv_100 i1; omega), by rw [y8]; exact k_inv_ini (by have := k_inv_100 i1; omega), y1, y3, y5.trans (by rw [Nat.min_eq_right (a_book er)]), z102, tp_0 z101, y7, vo, vr, by rw [y8]; exact X_E_bgn⟩, rO_K, hO2⟩
  · have hGe : G = U := by rw [hG]; exact if_neg er
    have z9 := zk er
    have k1' : KIT E (rO E G (a + 55) r1') (a + 13) bk hd v := k1.other (fun q hq => (rO_out (by unfold kOut at hq; omega)).trans ((congrFun hGe q).trans (u4 q (by unfold kOut at hq; omega) (by unfold kOut at hq; omega) (by unfold kOut at hq; omega) (by unfold kOut at hq; omega))))
    have jF : JF E a (rO E G (a + 55) r1') ((if (BKp (t_K g L) (t_W g L) et (n + 5)).2.2.1 = 0 then -1 else nI (t_P g L (BKp (t_K g L) (t_W g L) et (n + 5)).2.2.2.1))) (0) (g) (n) ((BKp (t_K g L) (t_W g L) et (n + 5)).2.2.2.1) (nI (BKp (t_K g L) (t_W g L) et (n + 5)).2.2.1) (nI (T + 1)) (nI (BKp (t_K g L) (t_W g L) et (n + 5)).1) ((BKp (t_K g L) (t_W g L) et (n + 5)).2.1) (kk) (po) (wo) (b0) (w0) (b1) (w1) (bk) (pn) (rc) (ac) (gB) (hd) (v) (bt) (hdt) (vt) (lo) (hi) (RS) := ⟨(W _ (by unfold kOut; omega) (by omega)).trans u1, (W _ (by unfold kOut; omega) (by omega)).trans u2, (kz _ (by omega) (by omega) (by omega) (by omega) (by unfold kOut; omega) (by omega)).trans c3, (qn _ (by omega) (by omega) (by unfold kOut; omega) (by omega)).trans q0, (qn _ (by omega) (by omega) (by unfold kOut; omega) (by omega)).trans q1, (qn _ (by omega) (by omega) (by unfold kOut; omega) (by omega)).trans q2, (qn _ (by omega) (by omega) (by unfold kOut; omega) (by omega)).trans q3, (qn _ (by omega) (by omega) (by unfold kOut; omega) (by omega)).trans q4, (kz _ (by omega) (by omega) (by omega) (by omega) (by unfold kOut; omega) (by omega)).trans c9, (kz _ (by omega) (by omega) (by omega) (by omega) (by unfold kOut; omega) (by omega)).trans c10, (kz _ (by omega) (by omega) (by omega) (by omega) (by unfold kOut; omega) (by omega)).trans c12, (kz _ (by omega) (by omega) (by omega) (by omega) (by unfold kOut; omega) (by omega)).trans c13, k1', k2.other (fun q hq => kz q (by unfold kOut at hq; omega) (by unfold kOut at hq; omega) (by unfold kOut at hq; omega) (by unfold kOut at hq; omega) (by unfold kOut at *; omega) (by unfold kOut at hq; omega)), rep_RS (fun q h1 h2 => kz q (by omega) (by omega) (by omega) (by omega) (by unfold kOut; omega) (by omega)) s1⟩
    have b8 : bR r1' 8 = bR r 8 := by
      funext j
      unfold bR
      split
      · exact z9 _ (by omega)
      · rfl
    have e42 : r1' 42 = r 42 := z9 42 (by omega)
    have e9 : r1' 9 = r 9 := z9 9 (by omega)
    have e120 : r1' 120 = r 120 := z9 120 (by omega)
    have e121 : r1' 121 = r 121 := z9 121 (by omega)
    have e122 : r1' 122 = r 122 := z9 122 (by omega)
    exact ⟨_, _, _, _, _, _, _, _, _, _, _, _, _, _, _, _, _, _, _, _, _, _, _, _, _, _, _, _, _, r1', og, jF, ⟨Nat.zero_le _, p2, p3, p4, p5, by omega, by omega, by omega, k_inv_le i1 (by omega), by rw [e42]; exact k_inv_le i2 (by omega), by rw [e120]; exact r1, by rw [e121]; exact r2, by rw [e122]; exact r3, z102, tp_0 z101, by rw [b8]; exact r6, by rw [e9, e42]; exact r7, by rw [e9, e42]; exact r8, by rw [e42]; exact r9⟩, rO_K, hO2⟩
