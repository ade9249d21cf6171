/-! how many warnings and notes there can be: one an act -/
def k_inv (B : Nat) (s : q_KS) : Prop := s.2.1 ≤ 100 ∧ (s.1 4 = nI (k_T s.1) ∧ k_T s.1 + 100 ≤ B + s.2.1) ∧ (s.1 5 = nI (k_N s.1) ∧ k_N s.1 + 100 ≤ B + s.2.1)
def k_inv1 (B : Nat) (s : q_KS) : Prop := s.2.1 ≤ 100 ∧ (s.1 4 = nI (k_T s.1) ∧ k_T s.1 + 101 ≤ B + s.2.1) ∧ (s.1 5 = nI (k_N s.1) ∧ k_N s.1 + 101 ≤ B + s.2.1)
theorem k_inv1.le {B : Nat} {s : q_KS} (h : k_inv1 B s) : k_inv B s := ⟨h.1, ⟨h.2.1.1, by have := h.2.1.2; omega⟩, h.2.2.1, by have := h.2.2.2; omega⟩
theorem k_inv.ok {B : Nat} {s : q_KS} (h : k_inv B s) (hB : B ≤ 2 ^ 29) : k_ok s.1 := ⟨⟨h.2.1.1, by have := h.2.1.2; have := h.1; omega⟩, h.2.2.1, by have := h.2.2.2; have := h.1; omega⟩
theorem k_inv1_same {B : Nat} {s s' : q_KS} (h : k_inv1 B s) (h4 : s'.1 4 = s.1 4) (h5 : s'.1 5 = s.1 5) (hb : s'.2.1 = s.2.1) : k_inv1 B s' := by
  unfold k_inv1 k_T k_N at *
  rw [h4, h5, hb]
  exact h
theorem k_inv_same {B : Nat} {s s' : q_KS} (h : k_inv B s) (h4 : s'.1 4 = s.1 4) (h5 : s'.1 5 = s.1 5) (hb : s'.2.1 = s.2.1) : k_inv B s' := by
  unfold k_inv k_T k_N at *
  rw [h4, h5, hb]
  exact h
theorem k_inv_warn {B kd : Nat} {s : q_KS} (hB : B ≤ 2 ^ 29) (h : k_inv1 B s) : k_inv B (k_warn kd s) := by
  obtain ⟨h1, ⟨h2, h3⟩, h4, h5⟩ := h
  have e4 : (k_warn kd s).1 4 = nI (k_T s.1 + 1) := by
    show upd _ (6 + kd) _ 4 = _
    rw [z_un (by omega), z_us]
    exact nI_1 _
  have e5 : (k_warn kd s).1 5 = s.1 5 := by
    show upd _ (6 + kd) _ 5 = _
    rw [z_un (by omega), z_un (by omega), z_un (by omega)]
  have eT : k_T (k_warn kd s).1 = k_T s.1 + 1 := by
    unfold k_T at *
    rw [e4]
    exact nI_clamp (by omega)
  have eN : k_N (k_warn kd s).1 = k_N s.1 := by
    unfold k_N
    rw [e5]
  refine ⟨h1, ⟨by rw [eT]; exact e4, ?_⟩, by rw [eN, e5]; exact h4, ?_⟩
  · rw [eT]
    show k_T s.1 + 1 + 100 ≤ B + s.2.1
    omega
  · rw [eN]
    show k_N s.1 + 100 ≤ B + s.2.1
    omega
theorem k_inv_note {B : Nat} {s : q_KS} {D : q_D} {hd : q_V} (hB : B ≤ 2 ^ 29) (h : k_inv1 B s) : k_inv B (k_note D hd s) := by
  obtain ⟨h1, ⟨h2, h3⟩, h4, h5⟩ := h
  have e5 : (k_note D hd s).1 5 = nI (k_N s.1 + 1) := by
    unfold k_note z_note
    show upd (upd s.1 (32 + k_N s.1 % 20) (D hd s.1)) 5 (nI (k_N s.1) + 1) 5 = _
    rw [z_us]
    exact nI_1 _
  have e4 : (k_note D hd s).1 4 = s.1 4 := by
    unfold k_note z_note
    show upd (upd s.1 (32 + k_N s.1 % 20) (D hd s.1)) 5 (nI (k_N s.1) + 1) 4 = _
    rw [z_un (by omega), z_un (by omega)]
  have eN : k_N (k_note D hd s).1 = k_N s.1 + 1 := by
    unfold k_N at *
    rw [e5]
    exact nI_clamp (by omega)
  have eT : k_T (k_note D hd s).1 = k_T s.1 := by
    unfold k_T
    rw [e4]
  refine ⟨h1, ⟨by rw [eT, e4]; exact h2, ?_⟩, by rw [eN]; exact e5, ?_⟩
  · rw [eT]
    show k_T s.1 + 100 ≤ B + s.2.1
    omega
  · rw [eN]
    show k_N s.1 + 1 + 100 ≤ B + s.2.1
    omega
theorem z_pass_lo {v : q_V} {mi : Int32} {but j q : Nat} (h3 : q ≠ 3) (h : q < 54) : z_pass v mi but j q = v q := by
  unfold z_pass
  rw [if_neg h3, if_neg (by omega)]
theorem k_inv_pass {B pn but : Nat} {mi : Int32} {s : q_KS} (h : k_inv B s) : k_inv B (k_pass pn mi but s) := k_inv_same h (z_pass_lo (v := s.1) (mi := mi) (but := but) (j := pn) (q := 4) (by decide) (by decide)) (z_pass_lo (v := s.1) (mi := mi) (but := but) (j := pn) (q := 5) (by decide) (by decide)) rfl
/-- S behaves: from one free place to none, or from none to none (a block takes its own) -/
def k_good (S : q_S) : Prop := ∀ (B : Nat) (hd : q_V) (s : q_KS), B ≤ 2 ^ 29 → k_inv1 B s → k_inv B (S hd s)
def k_goodB (S : q_S) : Prop := ∀ (B : Nat) (hd : q_V) (s : q_KS), B ≤ 2 ^ 29 → k_inv B s → k_inv B (S hd s)
theorem k_good_pour {pn i : Nat} {b : Int32} {D : q_D} : k_good (k_pour pn i b D) := by
  intro B hd s hB h
  refine k_inv_pass ?_
  unfold k_pour2
  have h1 : k_inv1 B (z_fillv hd s.1 i b (z_tr s.1 (D hd s.1)), s.2.1, s.2.2) := k_inv1_same h (z_fillv_n (by omega)) (z_fillv_n (by omega)) rfl
  split
  · exact k_inv_warn hB h1
  · exact h1.le
theorem k_inv_heat2 {B pn i : Nat} {to : Int32} {s : q_KS} (h : k_inv B s) : k_inv B (k_heat2 pn i to s) := by
  unfold k_heat2
  split
  · exact k_inv_pass (k_inv_same h (z_pan_n (by omega)) (z_pan_n (by omega)) rfl)
  · exact h
theorem k_good_heat {pn i : Nat} {D : q_D} : k_good (k_heat pn i D) := by
  intro B hd s hB h
  unfold k_heat
  split
  · exact k_inv_warn hB h
  · unfold k_heat1
    refine k_inv_heat2 ?_
    split
    · exact k_inv_warn hB h
    · exact h.le
theorem k_good_boil {pn i : Nat} {D : q_D} : k_good (k_boil pn i D) := by
  intro B hd s hB h
  unfold k_boil
  split
  · exact k_inv_warn hB h
  · unfold k_boil2 k_boil3
    refine k_inv_pass (k_inv_same ?_ (z_pan_n (by omega)) (z_pan_n (by omega)) rfl)
    split
    · exact k_inv_warn hB h
    · exact h.le
theorem k_good_iter {B : Nat} {F : q_KS → q_KS} (hF : ∀ s, k_inv B s → k_inv B (F s)) : ∀ (j : Nat) (s : q_KS), k_inv B s → k_inv B (k_iter F j s)
  | 0, _, h => h
  | j + 1, s, h => k_good_iter hF j (F s) (hF s h)
theorem k_good_cons {S1 S2 : q_S} (h1 : k_good S1) (h2 : k_goodB S2) : k_goodB (k_cons S1 S2) := by
  intro B hd s hB h
  unfold k_cons
  split
  · next hb =>
      refine h2 B hd _ hB (h1 B hd _ hB ?_)
      obtain ⟨a1, ⟨a2, a3⟩, a4, a5⟩ := h
      refine ⟨?_, ⟨a2, ?_⟩, a4, ?_⟩
      · show s.2.1 + 1 ≤ 100
        omega
      · show k_T s.1 + 101 ≤ B + (s.2.1 + 1)
        omega
      · show k_N s.1 + 101 ≤ B + (s.2.1 + 1)
        omega
  · exact h
theorem k_good_L {E : q_E} {lo hi : Nat} {f : q_H} {RA : Nat → q_S → Prop} (hR : ∀ a S, RA a S → k_good S) : ∀ (m : Nat) (o : Option Nat) (S : q_S), rL E lo hi f RA m o S → k_goodB S
  | 0, _, _, h => by
    obtain ⟨-, rfl⟩ := h
    exact fun B hd s _ h => h
  | m + 1, _, _, h => by
    obtain ⟨a, kd, pan, rcp, pm, val, lc, blk, oth, nxt, S1, S2, -, -, -, -, r1, r2, rfl⟩ := h
    exact k_good_cons (hR a S1 r1) (k_good_L hR m nxt S2 r2)
theorem k_good_A {E : q_E} {pn lo hi : Nat} {f : q_H} {RS : Nat → q_S} {R : Nat} (hRS : ∀ r, r < R → k_goodB (RS r)) : ∀ (d a : Nat) (S : q_S), rA E pn lo hi f RS R d a S → k_good S
  | 0, _, _, h => h.elim
  | d + 1, a, S, h => by
    obtain ⟨kd, pan, rcp, pm, val, lc, blk, oth, nxt, -, -, -, hc⟩ := h
    have L := fun m o B (z : rL E lo hi f (rA E pn lo hi f RS R d) m o B) => k_good_L (k_good_A hRS d) m o B z
    rcases hc with ⟨-, i, x, D, -, -, -, -, -, rfl⟩ | ⟨-, i, x, D, -, -, -, -, rfl⟩ | ⟨-, i, x, D, -, -, -, -, rfl⟩ | ⟨-, i, -, -, rfl⟩ | ⟨-, x, D, -, -, rfl⟩ | ⟨-, x, D, -, -, rfl⟩ | ⟨-, r, hr, -, rfl⟩ | ⟨-, -, x, D, m, B, -, -, hL, rfl⟩ | ⟨-, -, mc, C, m1, B1, m2, B2, -, h1, h2, rfl⟩
    · exact k_good_pour
    · exact k_good_heat
    · exact k_good_boil
    · exact fun B hd s _ h => k_inv_pass (k_inv_same h.le (z_pan_n (by omega)) (z_pan_n (by omega)) rfl)
    · exact fun B hd s _ h => k_inv_pass h.le
    · exact fun B hd s hB h => k_inv_note hB h
    · exact fun B hd s hB h => hRS r hr B hd s hB h.le
    · exact fun B' hd s hB h => k_good_iter (fun s hs => L m blk B hL B' hd s hB hs) _ s h.le
    · intro B hd s hB h
      unfold k_if
      split
      · exact L m1 blk B1 h1 B hd s hB h.le
      · exact L m2 oth B2 h2 B hd s hB h.le

