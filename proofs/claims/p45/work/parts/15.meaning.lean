/-! what a book means: values and acts as functions of the kitchen's row; and how objects of the class stand for them -/
abbrev q_V : Type := Nat → Int32
abbrev q_D : Type := q_V → q_V → Int32
/-- the row, how many acts were begun, the first that warned -/
abbrev q_KS : Type := q_V × Nat × Int32
abbrev q_S : Type := q_V → q_KS → q_KS
abbrev cVal (E : q_E) (kd : Nat) (num : Int32) (l r h : Option Nat) : va_E := .inr (11, [.ref (E.2.2.2 kd), .int num, va_rf l, va_rf r, va_rf h])
abbrev cAct (E : q_E) (kd : Nat) (pan rcp pm : Int32) (val lc blk oth nxt : Option Nat) : va_E := .inr (2, [.ref (E.2.2.2 kd), .int pan, .int rcp, .int pm, va_rf val, va_rf lc, va_rf blk, va_rf oth, va_rf nxt])
abbrev cCook (k : Nat) (b w : Int32) : va_E := .inr (4, [.ref k, .int b, .int w])
def d_meas (kd : Nat) : q_D := fun _ v => if kd = 19 then v 0 else if kd = 20 then z_boil (v 0) else if kd = 21 then v 3 else if kd = 22 then v 1 else v 2
def d_cont (kd i : Nat) : q_D := fun hd v => if kd = 4 then v (52 + 4 * i) else if kd = 5 then v (53 + 4 * i) else if kd = 7 then v (54 + 4 * i) else if kd = 25 then v (55 + 4 * i) else hd i - v (52 + 4 * i) - v (53 + 4 * i)
def d_bin (kd : Nat) (x y : Int32) : Int32 := if kd = 33 then x + y else if kd = 34 then x - y else if kd = 35 then x * y else q_quot x y
/-- the object at a (and what hangs on it) lies in lo .. hi, is at most so deep, and stands for the value D -/
def rV (E : q_E) (pn lo hi : Nat) (f : q_H) : Nat → Nat → q_D → Prop
  | 0, _, _ => False
  | dp + 1, a, D => lo ≤ a ∧ a < hi ∧ ∃ kd num l r h, f a = some (cVal E kd num l r h) ∧
      ((kd = 38 ∧ D = fun _ _ => num) ∨ (19 ≤ kd ∧ kd ≤ 23 ∧ D = d_meas kd) ∨ ((kd = 4 ∨ kd = 5 ∨ kd = 7 ∨ kd = 25 ∨ kd = 26) ∧ ∃ i, i < pn ∧ num = nI i ∧ D = d_cont kd i) ∨
       (33 ≤ kd ∧ kd ≤ 36 ∧ ∃ x y D1 D2, l = some x ∧ r = some y ∧ rV E pn lo hi f dp x D1 ∧ rV E pn lo hi f dp y D2 ∧ D = fun hd v => d_bin kd (D1 hd v) (D2 hd v)))
theorem rV_frame {E : q_E} {pn lo hi lo' hi' : Nat} {f g : q_H} (hg : ∀ q, lo ≤ q → q < hi → g q = f q) (h1 : lo' ≤ lo) (h2 : hi ≤ hi') : ∀ (dp a : Nat) (D : q_D), rV E pn lo hi f dp a D → rV E pn lo' hi' g dp a D
  | 0, _, _, h => h
  | dp + 1, a, D, h => by
    obtain ⟨ha, hb, kd, num, l, r, x, he, hc⟩ := h
    refine ⟨Nat.le_trans h1 ha, Nat.lt_of_lt_of_le hb h2, kd, num, l, r, x, (hg a ha hb).trans he, ?_⟩
    rcases hc with hc | hc | hc | ⟨z1, z2, y1, y2, D1, D2, e1, e2, r1, r2, eD⟩
    · exact Or.inl hc
    · exact Or.inr (Or.inl hc)
    · exact Or.inr (Or.inr (Or.inl hc))
    · exact Or.inr (Or.inr (Or.inr ⟨z1, z2, y1, y2, D1, D2, e1, e2, rV_frame hg h1 h2 dp y1 D1 r1, rV_frame hg h1 h2 dp y2 D2 r2, eD⟩))
def c_cmp (kd : Nat) (x y : Int32) : Bool := if kd = 30 then decide (x < y) else if kd = 31 then decide (y < x) else decide (x = y)
/-- a chain of compares, the last first; they are all so -/
def rC (E : q_E) (pn lo hi : Nat) (f : q_H) : Nat → Option Nat → (q_V → q_V → Bool) → Prop
  | 0, o, C => o = none ∧ C = fun _ _ => true
  | m + 1, o, C => ∃ a kd num x y h C' D1 D2, o = some a ∧ lo ≤ a ∧ a < hi ∧ f a = some (cVal E kd num (some x) (some y) h) ∧ 30 ≤ kd ∧ kd ≤ 32 ∧ rV E pn lo hi f 5 x D1 ∧ rV E pn lo hi f 5 y D2 ∧ rC E pn lo hi f m h C' ∧ C = fun hd v => c_cmp kd (D1 hd v) (D2 hd v) && C' hd v
theorem rC_frame {E : q_E} {pn lo hi lo' hi' : Nat} {f g : q_H} (hg : ∀ q, lo ≤ q → q < hi → g q = f q) (h1 : lo' ≤ lo) (h2 : hi ≤ hi') : ∀ (m : Nat) (o : Option Nat) (C : q_V → q_V → Bool), rC E pn lo hi f m o C → rC E pn lo' hi' g m o C
  | 0, _, _, h => h
  | m + 1, o, C, h => by
    obtain ⟨a, kd, num, x, y, z, C', D1, D2, e1, ha, hb, he, k1, k2, r1, r2, rc, eC⟩ := h
    exact ⟨a, kd, num, x, y, z, C', D1, D2, e1, Nat.le_trans h1 ha, Nat.lt_of_lt_of_le hb h2, (hg a ha hb).trans he, k1, k2, rV_frame hg h1 h2 5 x D1 r1, rV_frame hg h1 h2 5 y D2 r2, rC_frame hg h1 h2 m z C' rc, eC⟩
/-! acts -/
def k_T (v : q_V) : Nat := (v 4).toNatClampNeg
def k_N (v : q_V) : Nat := (v 5).toNatClampNeg
def k_warn (kd : Nat) (s : q_KS) : q_KS := (z_warn s.1 (k_T s.1) kd, s.2.1, if s.2.2 < 0 then nI s.2.1 else s.2.2)
def k_pass (pn : Nat) (mi : Int32) (but : Nat) (s : q_KS) : q_KS := (z_pass s.1 mi but pn, s.2.1, s.2.2)
def z_fillv (hd v : q_V) (i : Nat) (b x : Int32) : q_V := if 0 < z_add (hd i) (v (52 + 4 * i)) (v (53 + 4 * i)) x then (if b = 0 then z_pan v i (v (52 + 4 * i) + z_add (hd i) (v (52 + 4 * i)) (v (53 + 4 * i)) x) (v (53 + 4 * i)) (z_fh (v (52 + 4 * i)) (v (53 + 4 * i)) (v (54 + 4 * i)) (z_add (hd i) (v (52 + 4 * i)) (v (53 + 4 * i)) x)) (v (55 + 4 * i)) else z_pan v i (v (52 + 4 * i)) (v (53 + 4 * i) + z_add (hd i) (v (52 + 4 * i)) (v (53 + 4 * i)) x) (z_fh (v (52 + 4 * i)) (v (53 + 4 * i)) (v (54 + 4 * i)) (z_add (hd i) (v (52 + 4 * i)) (v (53 + 4 * i)) x)) (q_quot (v (55 + 4 * i) * v (53 + 4 * i)) (v (53 + 4 * i) + z_add (hd i) (v (52 + 4 * i)) (v (53 + 4 * i)) x))) else v
abbrev z_frv (hd v : q_V) (i : Nat) (x : Int32) : Int32 := z_fr (hd i) (v (52 + 4 * i)) (v (53 + 4 * i)) x
def k_pour2 (hd : q_V) (i : Nat) (b x : Int32) (s : q_KS) : q_KS := if z_frv hd s.1 i x < x then k_warn 1 (z_fillv hd s.1 i b x, s.2.1, s.2.2) else (z_fillv hd s.1 i b x, s.2.1, s.2.2)
def k_pour (pn : Nat) (i : Nat) (b : Int32) (D : q_D) : q_S := fun hd s => k_pass pn 1 i (k_pour2 hd i b (z_tr s.1 (D hd s.1)) s)
def k_heat2 (pn i : Nat) (to : Int32) (s : q_KS) : q_KS := if s.1 (54 + 4 * i) < to then k_pass pn ((to - s.1 (54 + 4 * i) + 9) / 10) i (z_pan s.1 i (s.1 (52 + 4 * i)) (s.1 (53 + 4 * i)) to (s.1 (55 + 4 * i)), s.2.1, s.2.2) else s
def k_heat1 (pn i : Nat) (x : Int32) (s : q_KS) : q_KS := k_heat2 pn i (q_min x (z_boil (s.1 0))) (if z_boil (s.1 0) < x then k_warn 2 s else s)
def k_heat (pn i : Nat) (D : q_D) : q_S := fun hd s => if s.1 (52 + 4 * i) + s.1 (53 + 4 * i) = 0 then k_warn 3 s else k_heat1 pn i (D hd s.1) s
def k_boil3 (pn i : Nat) (mi : Int32) (s : q_KS) : q_KS := k_pass pn mi i (z_pan s.1 i (s.1 (52 + 4 * i) - mi / 5) (s.1 (53 + 4 * i)) (z_boil (s.1 0)) (if 0 < s.1 (53 + 4 * i) then q_min 100 (s.1 (55 + 4 * i) + q_quot (mi * 100) (z_slow (s.1 0))) else s.1 (55 + 4 * i)), s.2.1, s.2.2)
def k_boil2 (pn i : Nat) (x : Int32) (s : q_KS) : q_KS := k_boil3 pn i (q_min x (5 * s.1 (52 + 4 * i))) (if 5 * s.1 (52 + 4 * i) < x then k_warn 5 s else s)
def k_boil (pn i : Nat) (D : q_D) : q_S := fun hd s => if s.1 (52 + 4 * i) = 0 ∨ s.1 (54 + 4 * i) < z_boil (s.1 0) then k_warn 4 s else k_boil2 pn i (z_long (q_clamp (D hd s.1) 0 999) (s.1 0)) s
def k_empty (pn i : Nat) : q_S := fun _ s => k_pass pn 1 i (z_pan s.1 i 0 0 20 0, s.2.1, s.2.2)
def k_rest (pn : Nat) (D : q_D) : q_S := fun hd s => k_pass pn (q_clamp (D hd s.1) 0 600) 8 s
def k_note (D : q_D) : q_S := fun hd s => (z_note s.1 (k_N s.1) (D hd s.1), s.2.1, s.2.2)
def k_iter (B : q_KS → q_KS) : Nat → q_KS → q_KS
  | 0, s => s
  | j + 1, s => k_iter B j (B s)
def k_again (D : q_D) (B : q_S) : q_S := fun hd s => k_iter (B hd) (q_min (D hd s.1) 100).toNatClampNeg s
def k_if (C : q_V → q_V → Bool) (B1 B2 : q_S) : q_S := fun hd s => if C hd s.1 = true then B1 hd s else B2 hd s
def k_cons (S1 S2 : q_S) : q_S := fun hd s => if s.2.1 < 100 then S2 hd (S1 hd (s.1, s.2.1 + 1, s.2.2)) else s
def k_nil : q_S := fun _ s => s
/-- a row of acts, each as RA says -/
def rL (E : q_E) (lo hi : Nat) (f : q_H) (RA : Nat → q_S → Prop) : Nat → Option Nat → q_S → Prop
  | 0, o, S => o = none ∧ S = k_nil
  | m + 1, o, S => ∃ a kd pan rcp pm val lc blk oth nxt S1 S2, o = some a ∧ lo ≤ a ∧ a < hi ∧ f a = some (cAct E kd pan rcp pm val lc blk oth nxt) ∧ RA a S1 ∧ rL E lo hi f RA m nxt S2 ∧ S = k_cons S1 S2
/-- the act at a, in a block at most d deep, of a recipe behind R others (RS: what recipes do) -/
def rA (E : q_E) (pn lo hi : Nat) (f : q_H) (RS : Nat → q_S) (R : Nat) : Nat → Nat → q_S → Prop
  | 0, _, _ => False
  | d + 1, a, S => ∃ kd pan rcp pm val lc blk oth nxt, lo ≤ a ∧ a < hi ∧ f a = some (cAct E kd pan rcp pm val lc blk oth nxt) ∧
      ((kd = 3 ∧ ∃ i x D, i < pn ∧ pan = nI i ∧ (pm = 0 ∨ pm = 1) ∧ val = some x ∧ rV E pn lo hi f 5 x D ∧ S = k_pour pn i pm D) ∨
       (kd = 7 ∧ ∃ i x D, i < pn ∧ pan = nI i ∧ val = some x ∧ rV E pn lo hi f 5 x D ∧ S = k_heat pn i D) ∨
       (kd = 9 ∧ ∃ i x D, i < pn ∧ pan = nI i ∧ val = some x ∧ rV E pn lo hi f 5 x D ∧ S = k_boil pn i D) ∨
       (kd = 11 ∧ ∃ i, i < pn ∧ pan = nI i ∧ S = k_empty pn i) ∨
       (kd = 12 ∧ ∃ x D, val = some x ∧ rV E pn lo hi f 5 x D ∧ S = k_rest pn D) ∨
       (kd = 13 ∧ ∃ x D, val = some x ∧ rV E pn lo hi f 5 x D ∧ S = k_note D) ∨
       (kd = 14 ∧ ∃ r, r < R ∧ rcp = nI r ∧ S = RS r) ∨
       (kd = 15 ∧ 1 ≤ d ∧ ∃ x D m B, val = some x ∧ rV E pn lo hi f 5 x D ∧ rL E lo hi f (rA E pn lo hi f RS R d) m blk B ∧ S = k_again D B) ∨
       (kd = 16 ∧ 1 ≤ d ∧ ∃ mc C m1 B1 m2 B2, rC E pn lo hi f mc lc C ∧ rL E lo hi f (rA E pn lo hi f RS R d) m1 blk B1 ∧ rL E lo hi f (rA E pn lo hi f RS R d) m2 oth B2 ∧ S = k_if C B1 B2))
theorem rL_frame {E : q_E} {lo hi lo' hi' : Nat} {f g : q_H} {RA RA' : Nat → q_S → Prop} (hg : ∀ q, lo ≤ q → q < hi → g q = f q) (h1 : lo' ≤ lo) (h2 : hi ≤ hi') (hR : ∀ a S, RA a S → RA' a S) : ∀ (m : Nat) (o : Option Nat) (S : q_S), rL E lo hi f RA m o S → rL E lo' hi' g RA' m o S
  | 0, _, _, h => h
  | m + 1, o, S, h => by
    obtain ⟨a, kd, pan, rcp, pm, val, lc, blk, oth, nxt, S1, S2, e1, ha, hb, he, r1, r2, eS⟩ := h
    exact ⟨a, kd, pan, rcp, pm, val, lc, blk, oth, nxt, S1, S2, e1, Nat.le_trans h1 ha, Nat.lt_of_lt_of_le hb h2, (hg a ha hb).trans he, hR a S1 r1, rL_frame hg h1 h2 hR m nxt S2 r2, eS⟩
theorem rA_frame {E : q_E} {pn lo hi lo' hi' : Nat} {f g : q_H} {RS RS' : Nat → q_S} {R R' : Nat} (hg : ∀ q, lo ≤ q → q < hi → g q = f q) (h1 : lo' ≤ lo) (h2 : hi ≤ hi') (hR : R ≤ R') (hRS : ∀ r, r < R → RS' r = RS r) : ∀ (d a : Nat) (S : q_S), rA E pn lo hi f RS R d a S → rA E pn lo' hi' g RS' R' d a S
  | 0, _, _, h => h
  | d + 1, a, S, h => by
    obtain ⟨kd, pan, rcp, pm, val, lc, blk, oth, nxt, ha, hb, he, hc⟩ := h
    have V := fun x D (z : rV E pn lo hi f 5 x D) => rV_frame (g := g) hg h1 h2 5 x D z
    have L := fun m o B (z : rL E lo hi f (rA E pn lo hi f RS R d) m o B) => rL_frame (g := g) (RA' := rA E pn lo' hi' g RS' R' d) hg h1 h2 (rA_frame hg h1 h2 hR hRS d) m o B z
    refine ⟨kd, pan, rcp, pm, val, lc, blk, oth, nxt, Nat.le_trans h1 ha, Nat.lt_of_lt_of_le hb h2, (hg a ha hb).trans he, ?_⟩
    rcases hc with ⟨k0, i, x, D, a1, a2, a3, a4, a5, a6⟩ | ⟨k0, i, x, D, a1, a2, a4, a5, a6⟩ | ⟨k0, i, x, D, a1, a2, a4, a5, a6⟩ | hc | ⟨k0, x, D, a1, a2, a3⟩ | ⟨k0, x, D, a1, a2, a3⟩ | ⟨k0, r, a1, a2, a3⟩ | ⟨k0, d1, x, D, m, B, a1, a2, a3, a4⟩ | ⟨k0, d1, mc, C, m1, B1, m2, B2, a1, a2, a3, a4⟩
    · exact Or.inl ⟨k0, i, x, D, a1, a2, a3, a4, V _ _ a5, a6⟩
    · exact Or.inr (Or.inl ⟨k0, i, x, D, a1, a2, a4, V _ _ a5, a6⟩)
    · exact Or.inr (Or.inr (Or.inl ⟨k0, i, x, D, a1, a2, a4, V _ _ a5, a6⟩))
    · exact Or.inr (Or.inr (Or.inr (Or.inl hc)))
    · exact Or.inr (Or.inr (Or.inr (Or.inr (Or.inl ⟨k0, x, D, a1, V _ _ a2, a3⟩))))
    · exact Or.inr (Or.inr (Or.inr (Or.inr (Or.inr (Or.inl ⟨k0, x, D, a1, V _ _ a2, a3⟩)))))
    · exact Or.inr (Or.inr (Or.inr (Or.inr (Or.inr (Or.inr (Or.inl ⟨k0, r, Nat.lt_of_lt_of_le a1 hR, a2, by rw [hRS r a1]; exact a3⟩))))))
    · exact Or.inr (Or.inr (Or.inr (Or.inr (Or.inr (Or.inr (Or.inr (Or.inl ⟨k0, d1, x, D, m, B, a1, V _ _ a2, L _ _ _ a3, a4⟩)))))))
    · exact Or.inr (Or.inr (Or.inr (Or.inr (Or.inr (Or.inr (Or.inr (Or.inr ⟨k0, d1, mc, C, m1, B1, m2, B2, rC_frame hg h1 h2 _ _ _ a1, L _ _ _ a2, L _ _ _ a3, a4⟩)))))))

