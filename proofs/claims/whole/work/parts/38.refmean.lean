/-! what the rows of a book of the reference mean: values, compares, acts; B: the book's rows (1 holds, 2 recipe, 3 does, 4 whom, 5 value, 6 from, 7 to, 8 block, 9 other, 10 next, 11 sign, 12 one, 13 two, 14 sort, 15 left, 16 right) -/
def bR (r : q_R) (b : Nat) : q_R := fun j => if j ≤ 16 then r (b + j) else fun _ => 0
theorem bR_at {r : q_R} {b j : Nat} (h : j ≤ 16) : bR r b j = r (b + j) := if_pos h
theorem bR8 {r : q_R} {k : Nat} {g : Nat → Int32} (h : k < 8 ∨ 24 < k) : bR (rp r k g) 8 = bR r 8 := by
  funext j
  unfold bR
  split
  · exact rp_n (by omega)
  · rfl
theorem bR25 {r : q_R} {k : Nat} {g : Nat → Int32} (h : k < 25 ∨ 41 < k) : bR (rp r k g) 25 = bR r 25 := by
  funext j
  unfold bR
  split
  · exact rp_n (by omega)
  · rfl
def m_kd (kd : Nat) : Nat := if kd < 27 then kd else if kd < 37 then kd + 23 else if kd = 37 then 40 else if kd = 38 then 41 else if kd = 39 then 71 else 70
def mV (B : q_R) (pn hn : Nat) : Nat → Nat → q_D → Prop
  | 0, _, _ => False
  | dp + 1, a, D => a < hn ∧ ∃ kd, B 14 a = nI (m_kd kd) ∧
      ((kd = 38 ∧ D = fun _ _ => B 15 a) ∨ (19 ≤ kd ∧ kd ≤ 23 ∧ D = d_meas kd) ∨ ((kd = 4 ∨ kd = 5 ∨ kd = 7 ∨ kd = 25 ∨ kd = 26) ∧ ∃ i, i < pn ∧ B 15 a = nI i ∧ D = d_cont kd i) ∨
       (33 ≤ kd ∧ kd ≤ 36 ∧ ∃ x y D1 D2, B 15 a = nI x ∧ B 16 a = nI y ∧ mV B pn hn dp x D1 ∧ mV B pn hn dp y D2 ∧ D = fun hd v => d_bin kd (D1 hd v) (D2 hd v)))
theorem mV_frame {B G : q_R} {pn hn hn' : Nat} (h14 : ∀ q, q < hn → G 14 q = B 14 q) (h15 : ∀ q, q < hn → G 15 q = B 15 q) (h16 : ∀ q, q < hn → G 16 q = B 16 q) (h2 : hn ≤ hn') : ∀ (dp a : Nat) (D : q_D), mV B pn hn dp a D → mV G pn hn' dp a D
  | 0, _, _, h => h
  | dp + 1, a, D, h => by
    obtain ⟨ha, kd, e1, hc⟩ := h
    refine ⟨Nat.lt_of_lt_of_le ha h2, kd, (h14 a ha).trans e1, ?_⟩
    rcases hc with ⟨k1, k2⟩ | hc | ⟨k1, i, k2, k3, k4⟩ | ⟨z1, z2, y1, y2, D1, D2, e1, e2, r1, r2, eD⟩
    · exact Or.inl ⟨k1, by rw [h15 a ha]; exact k2⟩
    · exact Or.inr (Or.inl hc)
    · exact Or.inr (Or.inr (Or.inl ⟨k1, i, k2, (h15 a ha).trans k3, k4⟩))
    · exact Or.inr (Or.inr (Or.inr ⟨z1, z2, y1, y2, D1, D2, (h15 a ha).trans e1, (h16 a ha).trans e2, mV_frame h14 h15 h16 h2 dp y1 D1 r1, mV_frame h14 h15 h16 h2 dp y2 D2 r2, eD⟩))
def mC (B : q_R) (pn hn fr : Nat) : Nat → (q_V → q_V → Bool) → Prop
  | 0, C => C = fun _ _ => true
  | m + 1, C => ∃ kd x y D1 D2 C', B 11 (fr + m) = nI (m_kd kd) ∧ 30 ≤ kd ∧ kd ≤ 32 ∧ B 12 (fr + m) = nI x ∧ B 13 (fr + m) = nI y ∧ mV B pn hn 5 x D1 ∧ mV B pn hn 5 y D2 ∧ mC B pn hn fr m C' ∧ C = fun hd v => c_cmp kd (D1 hd v) (D2 hd v) && C' hd v
theorem mC_frame {B G : q_R} {pn hn hn' fr : Nat} (h14 : ∀ q, q < hn → G 14 q = B 14 q) (h15 : ∀ q, q < hn → G 15 q = B 15 q) (h16 : ∀ q, q < hn → G 16 q = B 16 q) (h2 : hn ≤ hn') : ∀ (m : Nat) (C : q_V → q_V → Bool), (∀ q, q < fr + m → G 11 q = B 11 q ∧ G 12 q = B 12 q ∧ G 13 q = B 13 q) → mC B pn hn fr m C → mC G pn hn' fr m C
  | 0, _, _, h => h
  | m + 1, C, hc, h => by
    obtain ⟨kd, x, y, D1, D2, C', e1, k1, k2, e2, e3, r1, r2, rc, eC⟩ := h
    obtain ⟨a1, a2, a3⟩ := hc (fr + m) (by omega)
    exact ⟨kd, x, y, D1, D2, C', a1.trans e1, k1, k2, a2.trans e2, a3.trans e3, mV_frame h14 h15 h16 h2 5 x D1 r1, mV_frame h14 h15 h16 h2 5 y D2 r2, mC_frame h14 h15 h16 h2 m C' (fun q hq => hc q (by omega)) rc, eC⟩
/-- a row of acts, each as RA says -/
def mL (B : q_R) (lo hi : Nat) (RA : Nat → q_S → Prop) : Nat → Int32 → q_S → Prop
  | 0, o, S => o = -1 ∧ S = k_nil
  | m + 1, o, S => ∃ a S1 S2, o = nI a ∧ lo ≤ a ∧ a < hi ∧ RA a S1 ∧ mL B lo hi RA m (B 10 a) S2 ∧ S = k_cons S1 S2
theorem mL_frame {B G : q_R} {lo hi lo' hi' : Nat} {RA RA' : Nat → q_S → Prop} (hg : ∀ q, lo ≤ q → q < hi → G 10 q = B 10 q) (h1 : lo' ≤ lo) (h2 : hi ≤ hi') (hR : ∀ a S, lo ≤ a → RA a S → RA' a S) : ∀ (m : Nat) (o : Int32) (S : q_S), mL B lo hi RA m o S → mL G lo' hi' RA' m o S
  | 0, _, _, h => h
  | m + 1, o, S, h => by
    obtain ⟨a, S1, S2, e1, ha, hb, r1, r2, eS⟩ := h
    exact ⟨a, S1, S2, e1, Nat.le_trans h1 ha, Nat.lt_of_lt_of_le hb h2, hR a S1 ha r1, by rw [hg a ha hb]; exact mL_frame hg h1 h2 hR m _ S2 r2, eS⟩
/-- the act at a, in a block at most d deep, of a recipe behind R others -/
def mA (B : q_R) (pn hn hc hi : Nat) (RS : Nat → q_S) (R : Nat) : Nat → Nat → q_S → Prop
  | 0, _, _ => False
  | d + 1, a, S => a < hi ∧
      ((B 3 a = 4 ∧ ∃ i x D, i < pn ∧ B 4 a = nI i ∧ B 5 a = nI x ∧ mV B pn hn 5 x D ∧ S = k_pour pn i 0 D) ∨
       (B 3 a = 5 ∧ ∃ i x D, i < pn ∧ B 4 a = nI i ∧ B 5 a = nI x ∧ mV B pn hn 5 x D ∧ S = k_pour pn i 1 D) ∨
       (B 3 a = 7 ∧ ∃ i x D, i < pn ∧ B 4 a = nI i ∧ B 5 a = nI x ∧ mV B pn hn 5 x D ∧ S = k_heat pn i D) ∨
       (B 3 a = 9 ∧ ∃ i x D, i < pn ∧ B 4 a = nI i ∧ B 5 a = nI x ∧ mV B pn hn 5 x D ∧ S = k_boil pn i D) ∨
       (B 3 a = 11 ∧ ∃ i, i < pn ∧ B 4 a = nI i ∧ S = k_empty pn i) ∨
       (B 3 a = 12 ∧ ∃ x D, B 5 a = nI x ∧ mV B pn hn 5 x D ∧ S = k_rest pn D) ∨
       (B 3 a = 13 ∧ ∃ x D, B 5 a = nI x ∧ mV B pn hn 5 x D ∧ S = k_note D) ∨
       (B 3 a = 14 ∧ ∃ r, r < R ∧ B 4 a = nI r ∧ S = RS r) ∨
       (B 3 a = 15 ∧ 1 ≤ d ∧ ∃ x D m Bk, B 5 a = nI x ∧ mV B pn hn 5 x D ∧ mL B (a + 1) hi (mA B pn hn hc hi RS R d) m (B 8 a) Bk ∧ S = k_again D Bk) ∨
       (B 3 a = 16 ∧ 1 ≤ d ∧ ∃ fr mc C m1 B1 m2 B2, B 6 a = nI fr ∧ B 7 a = nI (fr + mc) ∧ fr + mc ≤ hc ∧ mC B pn hn fr mc C ∧ mL B (a + 1) hi (mA B pn hn hc hi RS R d) m1 (B 8 a) B1 ∧ mL B (a + 1) hi (mA B pn hn hc hi RS R d) m2 (B 9 a) B2 ∧ S = k_if C B1 B2))
theorem mA_frame {B G : q_R} {pn hn hn' hc hc' hi hi' : Nat} {RS RS' : Nat → q_S} {R R' : Nat} (h14 : ∀ q, q < hn → G 14 q = B 14 q) (h15 : ∀ q, q < hn → G 15 q = B 15 q) (h16 : ∀ q, q < hn → G 16 q = B 16 q) (h2 : hn ≤ hn') (hcc : ∀ q, q < hc → G 11 q = B 11 q ∧ G 12 q = B 12 q ∧ G 13 q = B 13 q) (hc2 : hc ≤ hc') (hi2 : hi ≤ hi') (hR : R ≤ R') (hRS : ∀ r, r < R → RS' r = RS r) : ∀ (d a : Nat) (S : q_S), (∀ q, a ≤ q → q < hi → ∀ j, 3 ≤ j → j ≤ 9 → G j q = B j q) → (∀ q, a < q → q < hi → G 10 q = B 10 q) → mA B pn hn hc hi RS R d a S → mA G pn hn' hc' hi' RS' R' d a S
  | 0, _, _, _, _, h => h
  | d + 1, a, S, hg, hx, h => by
    obtain ⟨ha, hcs⟩ := h
    have z := fun j h3 h9 => hg a (Nat.le_refl _) ha j h3 h9
    have e3 := z 3 (by decide) (by decide)
    have e4 := z 4 (by decide) (by decide)
    have e5 := z 5 (by decide) (by decide)
    have e6 := z 6 (by decide) (by decide)
    have e7 := z 7 (by decide) (by decide)
    have e8 := z 8 (by decide) (by decide)
    have e9 := z 9 (by decide) (by decide)
    have V := fun x D (y : mV B pn hn 5 x D) => mV_frame (G := G) h14 h15 h16 h2 5 x D y
    have L := fun m o S1 (y : mL B (a + 1) hi (mA B pn hn hc hi RS R d) m o S1) => mL_frame (G := G) (RA' := mA G pn hn' hc' hi' RS' R' d) (fun q h1 h2 => hx q h1 h2) (Nat.le_refl (a + 1)) hi2 (fun a1 S1 h1 => mA_frame h14 h15 h16 h2 hcc hc2 hi2 hR hRS d a1 S1 (fun q q1 q2 => hg q (by omega) q2) (fun q q1 q2 => hx q (by omega) q2)) m o S1 y
    refine ⟨Nat.lt_of_lt_of_le ha hi2, ?_⟩
    rw [e3, e4, e5, e6, e7, e8, e9]
    rcases hcs with ⟨k0, i, x, D, a1, a2, a3, a4, a5⟩ | ⟨k0, i, x, D, a1, a2, a3, a4, a5⟩ | ⟨k0, i, x, D, a1, a2, a3, a4, a5⟩ | ⟨k0, i, x, D, a1, a2, a3, a4, a5⟩ | hcs | ⟨k0, x, D, a1, a2, a3⟩ | ⟨k0, x, D, a1, a2, a3⟩ | ⟨k0, r, a1, a2, a3⟩ | ⟨k0, d1, x, D, m, Bk, a1, a2, a3, a4⟩ | ⟨k0, d1, fr, mc, C, m1, B1, m2, B2, a1, a2, a3, a4, a5, a6, a7⟩
    · exact Or.inl ⟨k0, i, x, D, a1, a2, a3, V _ _ a4, a5⟩
    · exact Or.inr (Or.inl ⟨k0, i, x, D, a1, a2, a3, V _ _ a4, a5⟩)
    · exact Or.inr (Or.inr (Or.inl ⟨k0, i, x, D, a1, a2, a3, V _ _ a4, a5⟩))
    · exact Or.inr (Or.inr (Or.inr (Or.inl ⟨k0, i, x, D, a1, a2, a3, V _ _ a4, a5⟩)))
    · exact Or.inr (Or.inr (Or.inr (Or.inr (Or.inl hcs))))
    · exact Or.inr (Or.inr (Or.inr (Or.inr (Or.inr (Or.inl ⟨k0, x, D, a1, V _ _ a2, a3⟩)))))
    · exact Or.inr (Or.inr (Or.inr (Or.inr (Or.inr (Or.inr (Or.inl ⟨k0, x, D, a1, V _ _ a2, a3⟩))))))
    · exact Or.inr (Or.inr (Or.inr (Or.inr (Or.inr (Or.inr (Or.inr (Or.inl ⟨k0, r, Nat.lt_of_lt_of_le a1 hR, a2, by rw [hRS r a1]; exact a3⟩)))))))
    · exact Or.inr (Or.inr (Or.inr (Or.inr (Or.inr (Or.inr (Or.inr (Or.inr (Or.inl ⟨k0, d1, x, D, m, Bk, a1, V _ _ a2, L _ _ _ a3, a4⟩))))))))
    · exact Or.inr (Or.inr (Or.inr (Or.inr (Or.inr (Or.inr (Or.inr (Or.inr (Or.inr ⟨k0, d1, fr, mc, C, m1, B1, m2, B2, a1, a2, Nat.le_trans a3 hc2, mC_frame h14 h15 h16 h2 mc C (fun q hq => hcc q (by omega)) a4, L _ _ _ a5, L _ _ _ a6, a7⟩))))))))
def mRS (B : q_R) (pn hn hc hi : Nat) (RS : Nat → q_S) (R : Nat) : Prop := ∀ r, r < R → r < 6 ∧ ∃ m, mL B 0 hi (mA B pn hn hc hi RS r 6) m (B 2 r) (RS r)
/-! the kitchen keeps to its bounds -/
def v_ok (pn : Nat) (hd v : q_V) : Prop := (∃ al, al ≤ 60 ∧ v 0 = nI al) ∧ (∃ sp, 1 ≤ sp ∧ sp ≤ 10 ∧ v 2 = nI sp) ∧ ∀ i, i < pn → ∃ a b h, v (52 + 4 * i) = nI a ∧ v (53 + 4 * i) = nI b ∧ hd i = nI h ∧ a + b ≤ h ∧ h ≤ 200
theorem v_ok_same {pn : Nat} {hd v w : q_V} (h : v_ok pn hd v) (h0 : w 0 = v 0) (h2 : w 2 = v 2) (hp : ∀ i, i < pn → w (52 + 4 * i) = v (52 + 4 * i) ∧ w (53 + 4 * i) = v (53 + 4 * i)) : v_ok pn hd w := by
  obtain ⟨⟨al, a1, a2⟩, ⟨sp, b1, b2, b3⟩, hq⟩ := h
  refine ⟨⟨al, a1, h0.trans a2⟩, ⟨sp, b1, b2, h2.trans b3⟩, fun i hi => ?_⟩
  obtain ⟨a, b, x, c1, c2, c3⟩ := hq i hi
  exact ⟨a, b, x, (hp i hi).1.trans c1, (hp i hi).2.trans c2, c3⟩
theorem v_ok_pan {pn : Nat} {hd v : q_V} {i : Nat} {a' b' c d : Int32} (h : v_ok pn hd v) (hp : ∃ a b x, a' = nI a ∧ b' = nI b ∧ hd i = nI x ∧ a + b ≤ x ∧ x ≤ 200) : v_ok pn hd (z_pan v i a' b' c d) := by
  obtain ⟨h0, h2, hq⟩ := h
  refine ⟨by rw [z_pan_n (by omega)]; exact h0, by rw [z_pan_n (by omega)]; exact h2, fun j hj => ?_⟩
  by_cases e : j = i
  · subst e
    rw [z_pan_0, z_pan_1]
    exact hp
  · rw [z_pan_n (by omega), z_pan_n (by omega)]
    exact hq j hj
theorem v_ok_sp {pn : Nat} {hd v : q_V} (h : v_ok pn hd v) : ¬ 4 * v 2 = 0 := by
  obtain ⟨-, ⟨sp, b1, b2, b3⟩, -⟩ := h
  rw [b3, show (4 : Int32) = nI 4 from rfl, pk_mul]
  exact nI_ne0 (by omega) (by omega)
theorem z_slow_n {al : Nat} (h : al ≤ 60) : z_slow (nI al) = nI (100 + 5 * (al / 3)) := by
  show nI 100 + nI 5 * (nI 100 - (nI 100 - nI al / nI 3)) = _
  rw [pk_div (by omega) (by decide) (by decide), pk_sub (by omega), pk_sub (by omega), pk_mul, nI_add]
  congr 1
  omega
theorem v_ok_slow {pn : Nat} {hd v : q_V} (h : v_ok pn hd v) : ¬ z_slow (v 0) = 0 := by
  obtain ⟨⟨al, a1, a2⟩, -, -⟩ := h
  rw [a2, z_slow_n a1]
  exact nI_ne0 (by omega) (by omega)
theorem q_clamp_n {x : Int32} {N : Nat} (hN : N < 2 ^ 31) : ∃ t, t ≤ N ∧ q_clamp x 0 (nI N) = nI t := by
  unfold q_clamp q_max q_min
  by_cases h1 : x < nI N
  · rw [if_pos h1]
    by_cases h2 : (0 : Int32) < x
    · rw [if_pos h2]
      obtain ⟨j, hj, e⟩ := nI_of2 (M := nI N) (x := x) (nI_toInt hN) (Int32.not_lt.mpr (Int32.le_of_lt h2)) (Int32.le_of_lt h1)
      exact ⟨j, hj, e⟩
    · rw [if_neg h2]; exact ⟨0, Nat.zero_le _, nI_0.symm⟩
  · rw [if_neg h1]
    by_cases h2 : (0 : Int32) < nI N
    · rw [if_pos h2]; exact ⟨N, Nat.le_refl _, rfl⟩
    · rw [if_neg h2]; exact ⟨0, Nat.zero_le _, nI_0.symm⟩
theorem z_long_n {x : Int32} {al : Nat} (h : al ≤ 60) : ∃ t, t < 2 ^ 30 ∧ z_long (q_clamp x 0 999) (nI al) = nI t := by
  obtain ⟨t, ht, e⟩ := q_clamp_n (x := x) (N := 999) (by decide)
  have e : q_clamp x 0 999 = nI t := e
  refine ⟨(t * (100 + 5 * (al / 3)) + 99) / 100, ?_, ?_⟩
  · have : t * (100 + 5 * (al / 3)) ≤ 999 * 200 := Nat.mul_le_mul ht (by omega)
    omega
  · rw [e]
    unfold z_long
    rw [z_slow_n h, pk_mul]
    show (nI _ + nI 99) / nI 100 = _
    have : t * (100 + 5 * (al / 3)) ≤ 999 * 200 := Nat.mul_le_mul ht (by omega)
    rw [nI_add, pk_div (by omega) (by decide) (by decide)]
theorem z_add_n {h a b : Nat} {x : Int32} (hh : a + b ≤ h) (h2 : h ≤ 200) (h0 : 0 < z_add (nI h) (nI a) (nI b) x) : ∃ c, 1 ≤ c ∧ a + b + c ≤ h ∧ z_add (nI h) (nI a) (nI b) x = nI c := by
  unfold z_add at h0 ⊢
  rw [pk_sub (by omega), pk_sub (by omega)] at h0 ⊢
  unfold q_min at h0 ⊢
  by_cases h1 : nI (h - a - b) < x
  · rw [if_pos h1] at h0 ⊢
    refine ⟨h - a - b, ?_, by omega, rfl⟩
    rcases Nat.eq_zero_or_pos (h - a - b) with e | e
    · rw [e] at h0; exact absurd h0 (by decide)
    · exact e
  · rw [if_neg h1] at h0 ⊢
    obtain ⟨j, hj, e⟩ := nI_of2 (M := nI (h - a - b)) (x := x) (nI_toInt (by omega)) (Int32.not_lt.mpr (Int32.le_of_lt h0)) (Int32.not_lt.mp h1)
    refine ⟨j, ?_, by omega, e⟩
    rcases Nat.eq_zero_or_pos j with e2 | e2
    · rw [e, e2] at h0; exact absurd h0 (by decide)
    · exact e2
theorem v_ok_hz {pn : Nat} {hd v : q_V} (h : v_ok pn hd v) {i : Nat} (hi : i < pn) {x : Int32} : (0 < z_add (hd i) (v (52 + 4 * i)) (v (53 + 4 * i)) x → ¬ v (52 + 4 * i) + v (53 + 4 * i) + z_add (hd i) (v (52 + 4 * i)) (v (53 + 4 * i)) x = 0) ∧ (0 < z_add (hd i) (v (52 + 4 * i)) (v (53 + 4 * i)) x → ¬ v (53 + 4 * i) + z_add (hd i) (v (52 + 4 * i)) (v (53 + 4 * i)) x = 0) := by
  obtain ⟨a, b, y, e1, e2, e3, h1, h2⟩ := h.2.2 i hi
  rw [e1, e2, e3]
  refine ⟨fun h0 => ?_, fun h0 => ?_⟩
  · obtain ⟨c, c1, c2, c3⟩ := z_add_n h1 h2 h0
    rw [c3, nI_add, nI_add]
    exact nI_ne0 (by omega) (by omega)
  · obtain ⟨c, c1, c2, c3⟩ := z_add_n h1 h2 h0
    rw [c3, nI_add]
    exact nI_ne0 (by omega) (by omega)
theorem v_ok_fill {pn : Nat} {hd v : q_V} (h : v_ok pn hd v) {i : Nat} (hi : i < pn) {b x : Int32} : v_ok pn hd (z_fillv hd v i b x) := by
  obtain ⟨a, b', y, e1, e2, e3, h1, h2⟩ := h.2.2 i hi
  unfold z_fillv
  split
  · next h0 =>
    have h0' := h0
    rw [e1, e2, e3] at h0'
    obtain ⟨c, c1, c2, c3⟩ := z_add_n h1 h2 h0'
    split
    · refine v_ok_pan h ⟨a + c, b', y, ?_, e2, e3, by omega, h2⟩
      rw [e1, e2, e3, c3, nI_add]
    · refine v_ok_pan h ⟨a, b' + c, y, e1, ?_, e3, by omega, h2⟩
      rw [e1, e2, e3, c3, nI_add]
  · exact h
theorem v_ok_warn {pn : Nat} {hd v : q_V} {T kd : Nat} (h : v_ok pn hd v) (hk : kd < 6) : v_ok pn hd (z_warn v T kd) := by
  have : T % 20 < 20 := Nat.mod_lt _ (by decide)
  exact v_ok_same h (by unfold z_warn; rw [z_un (by omega), z_un (by omega), z_un (by omega)]) (by unfold z_warn; rw [z_un (by omega), z_un (by omega), z_un (by omega)]) (fun i _ => ⟨by unfold z_warn; rw [z_un (by omega), z_un (by omega), z_un (by omega)], by unfold z_warn; rw [z_un (by omega), z_un (by omega), z_un (by omega)]⟩)
theorem v_ok_note {pn : Nat} {hd v : q_V} {T : Nat} {x : Int32} (h : v_ok pn hd v) : v_ok pn hd (z_note v T x) := by
  have : T % 20 < 20 := Nat.mod_lt _ (by decide)
  exact v_ok_same h (by unfold z_note; rw [z_un (by omega), z_un (by omega)]) (by unfold z_note; rw [z_un (by omega), z_un (by omega)]) (fun i _ => ⟨by unfold z_note; rw [z_un (by omega), z_un (by omega)], by unfold z_note; rw [z_un (by omega), z_un (by omega)]⟩)
theorem z_pass_w {v : q_V} {mi : Int32} {but j q : Nat} (h3 : q ≠ 3) (h : ¬ (54 ≤ q ∧ q % 4 = 2)) : z_pass v mi but j q = v q := by
  unfold z_pass
  rw [if_neg h3, if_neg (by omega)]
theorem v_ok_pass {pn : Nat} {hd v : q_V} {mi : Int32} {but j : Nat} (h : v_ok pn hd v) : v_ok pn hd (z_pass v mi but j) :=
  v_ok_same h (z_pass_w (by omega) (by omega)) (z_pass_w (by omega) (by omega)) (fun i _ => ⟨z_pass_w (by omega) (by omega), z_pass_w (by omega) (by omega)⟩)
theorem v_ok_k {pn kd : Nat} {hd : q_V} {s : q_KS} (h : v_ok pn hd s.1) (hk : kd < 6) : v_ok pn hd (k_warn kd s).1 := v_ok_warn h hk
/-- S keeps the kitchen in its bounds -/
def v_good (pn : Nat) (S : q_S) : Prop := ∀ (hd : q_V) (s : q_KS), v_ok pn hd s.1 → v_ok pn hd (S hd s).1
theorem v_good_pour {pn i : Nat} {b : Int32} {D : q_D} (hi : i < pn) : v_good pn (k_pour pn i b D) := by
  intro hd s h
  refine v_ok_pass (v := (k_pour2 hd i b (z_tr s.1 (D hd s.1)) s).1) ?_
  unfold k_pour2
  split
  · exact v_ok_k (s := (z_fillv hd s.1 i b _, s.2.1, s.2.2)) (v_ok_fill h hi) (by decide)
  · exact v_ok_fill h hi
theorem v_pan_same {pn i : Nat} {hd v : q_V} {c d : Int32} (h : v_ok pn hd v) (hi : i < pn) : v_ok pn hd (z_pan v i (v (52 + 4 * i)) (v (53 + 4 * i)) c d) := v_ok_pan h (h.2.2 i hi)
theorem v_good_heat {pn i : Nat} {D : q_D} (hi : i < pn) : v_good pn (k_heat pn i D) := by
  intro hd s h
  have H2 : ∀ (to : Int32) (s : q_KS), v_ok pn hd s.1 → v_ok pn hd (k_heat2 pn i to s).1 := by
    intro to s h
    unfold k_heat2
    split
    · exact v_ok_pass (v_pan_same h hi)
    · exact h
  unfold k_heat
  split
  · exact v_ok_k h (by decide)
  · unfold k_heat1
    refine H2 _ _ ?_
    split
    · exact v_ok_k h (by decide)
    · exact h
theorem q_min_n {a b : Nat} (ha : a < 2 ^ 31) (hb : b < 2 ^ 31) : q_min (nI a) (nI b) = nI (min a b) := by
  unfold q_min
  by_cases h : b < a
  · rw [if_pos (nI_lt h ha), Nat.min_eq_right (Nat.le_of_lt h)]
  · rw [if_neg (nI_nlt (by omega) hb), Nat.min_eq_left (by omega)]
theorem v_good_boil {pn i : Nat} {D : q_D} (hi : i < pn) : v_good pn (k_boil pn i D) := by
  intro hd s h
  unfold k_boil
  split
  · exact v_ok_k h (by decide)
  · obtain ⟨⟨al, a1, a2⟩, -, hq⟩ := id h
    obtain ⟨t, t1, t2⟩ := z_long_n (x := D hd s.1) a1
    obtain ⟨a, b, y, e1, e2, e3, h1, h2⟩ := hq i hi
    unfold k_boil2 k_boil3
    have hs' : v_ok pn hd (if 5 * s.1 (52 + 4 * i) < z_long (q_clamp (D hd s.1) 0 999) (s.1 0) then k_warn 5 s else s).1 := by
      split
      · exact v_ok_k h (by decide)
      · exact h
    have hw : (if 5 * s.1 (52 + 4 * i) < z_long (q_clamp (D hd s.1) 0 999) (s.1 0) then k_warn 5 s else s).1 (52 + 4 * i) = nI a ∧ (if 5 * s.1 (52 + 4 * i) < z_long (q_clamp (D hd s.1) 0 999) (s.1 0) then k_warn 5 s else s).1 (53 + 4 * i) = nI b := by
      have : k_T s.1 % 20 < 20 := Nat.mod_lt _ (by decide)
      split
      · exact ⟨by show z_warn _ _ _ _ = _; unfold z_warn; rw [z_un (by omega), z_un (by omega), z_un (by omega)]; exact e1, by show z_warn _ _ _ _ = _; unfold z_warn; rw [z_un (by omega), z_un (by omega), z_un (by omega)]; exact e2⟩
      · exact ⟨e1, e2⟩
    refine v_ok_pass (v_ok_pan hs' ⟨a - min t (5 * a) / 5, b, y, ?_, hw.2, e3, by omega, h2⟩)
    rw [hw.1, e1, a2, t2, show (5 : Int32) = nI 5 from rfl, pk_mul, q_min_n (by omega) (by omega), pk_div (by omega) (by decide) (by decide), pk_sub (by omega)]
theorem v_good_iter {pn : Nat} {hd : q_V} {F : q_KS → q_KS} (hF : ∀ s, v_ok pn hd s.1 → v_ok pn hd (F s).1) : ∀ (j : Nat) (s : q_KS), v_ok pn hd s.1 → v_ok pn hd (k_iter F j s).1
  | 0, _, h => h
  | j + 1, s, h => v_good_iter hF j (F s) (hF s h)
theorem v_good_cons {pn : Nat} {S1 S2 : q_S} (h1 : v_good pn S1) (h2 : v_good pn S2) : v_good pn (k_cons S1 S2) := by
  intro hd s h
  unfold k_cons
  split
  · exact h2 hd _ (h1 hd (s.1, s.2.1 + 1, s.2.2) h)
  · exact h
theorem v_good_nil {pn : Nat} : v_good pn k_nil := fun _ _ h => h
