/-! the law's kitchen: what its acts keep; blocks of acts, cooking -/
/-- S keeps the kitchen's numbers and begins no fewer acts (from one free place to none; a block takes its own) -/
def w_g (pn : Nat) (S : q_S) : Prop := ∀ (B : Nat) (hd : q_V) (s : q_KS), B ≤ 2 ^ 29 → k_inv1 B s → w_ok pn hd s.1 → k_inv B (S hd s) ∧ w_ok pn hd (S hd s).1 ∧ s.2.1 ≤ (S hd s).2.1
def w_gB (pn : Nat) (S : q_S) : Prop := ∀ (B : Nat) (hd : q_V) (s : q_KS), B ≤ 2 ^ 29 → k_inv B s → w_ok pn hd s.1 → k_inv B (S hd s) ∧ w_ok pn hd (S hd s).1 ∧ s.2.1 ≤ (S hd s).2.1
theorem k_inv.T {B : Nat} {s : q_KS} (h : k_inv B s) (hB : B ≤ 2 ^ 29) : k_T s.1 < 2 ^ 30 ∧ k_N s.1 < 2 ^ 30 := by
  obtain ⟨a, ⟨-, b⟩, -, c⟩ := h
  omega
theorem w_ok.kwarn {pn : Nat} {hd : q_V} {s : q_KS} {kd : Nat} (h : w_ok pn hd s.1) (hk : kd < 6) (hT : k_T s.1 < 2 ^ 30) : w_ok pn hd (k_warn kd s).1 := h.warn hk hT
theorem w_g_pour {pn i : Nat} {b : Int32} {D : q_D} (hi : i < pn) : w_g pn (k_pour pn i b D) := by
  intro B hd s hB h hv
  have hg := k_good_pour (pn := pn) (i := i) (b := b) (D := D) B hd s hB h
  obtain ⟨se, hse1, hse, hv1⟩ := id hv.2.1
  obtain ⟨sp, hsp1, hsp, hv2⟩ := id hv.2.2.1
  obtain ⟨c, hc, hcx⟩ := tr_nI hv1 hv2 hse hsp1 hsp (D hd s.1)
  have hT : k_T (z_fillv hd s.1 i b (nI c)) = k_T s.1 := by unfold k_T; rw [z_fillv_n (by omega)]
  have hf := hv.fill (bb := b) hi hc
  refine ⟨hg, ?_, ?_⟩
  · show w_ok pn hd (z_pass (k_pour2 hd i b (z_tr s.1 (D hd s.1)) s).1 1 i pn)
    rw [hcx]
    refine w_ok.pass (c := 1) ?_ (by decide)
    unfold k_pour2
    split
    · exact w_ok.kwarn (s := (z_fillv hd s.1 i b (nI c), s.2.1, s.2.2)) hf (by decide) (by show k_T (z_fillv hd s.1 i b (nI c)) < _; rw [hT]; exact (h.le.T hB).1)
    · exact hf
  · show s.2.1 ≤ (k_pour2 hd i b (z_tr s.1 (D hd s.1)) s).2.1
    unfold k_pour2
    split
    · exact Nat.le_refl _
    · exact Nat.le_refl _
theorem ht_nI {t u : Nat} (h1 : t < u) (h2 : u ≤ 100) : (nI u - nI t + 9) / 10 = nI ((u - t + 9) / 10) := by
  rw [show nI u - nI t = nI (u - t) from pk_sub (by omega), show nI (u - t) + 9 = nI (u - t + 9) from nI_add _ 9]
  exact pk_div (d := 10) (by omega) (by decide) (by decide)
theorem w_g_heat {pn i : Nat} {D : q_D} (hi : i < pn) : w_g pn (k_heat pn i D) := by
  intro B hd s hB h hv
  have hg := k_good_heat (pn := pn) (i := i) (D := D) B hd s hB h
  have hT := (h.le.T hB).1
  refine ⟨hg, ?_⟩
  unfold k_heat
  split
  · exact ⟨hv.kwarn (by decide) hT, Nat.le_refl _⟩
  · unfold k_heat1
    obtain ⟨al, hal, hv0⟩ := id hv.1
    have key : ∀ s' : q_KS, w_ok pn hd s'.1 → s'.1 (54 + 4 * i) = s.1 (54 + 4 * i) → s'.2.1 = s.2.1 → w_ok pn hd (k_heat2 pn i (q_min (D hd s.1) (z_boil (s.1 0))) s').1 ∧ s.2.1 ≤ (k_heat2 pn i (q_min (D hd s.1) (z_boil (s.1 0))) s').2.1 := by
      intro s' hv' e54 eb
      unfold k_heat2
      split
      · next hlt =>
        obtain ⟨x, a, m, t, d, e1, e2, e3, e4, e5, b1, b2, b3, b4, b5, b6⟩ := id (hv'.2.2.2.2 i hi)
        rw [e4, hv0, boil_nI hal] at hlt
        obtain ⟨u, hu1, hu2, hue⟩ := to_nI (by omega) b4 hlt
        rw [hv0, boil_nI hal, hue, e4, ht_nI hu1 (by omega)]
        refine ⟨?_, Nat.le_of_eq eb.symm⟩
        show w_ok pn hd (z_pass (z_pan s'.1 i (s'.1 (52 + 4 * i)) (s'.1 (53 + 4 * i)) (nI u) (s'.1 (55 + 4 * i))) (nI ((u - t + 9) / 10)) i pn)
        exact (w_ok.pan hv' (fun _ => ⟨x, a, m, u, d, e1, e2, e3, rfl, e5, b1, b2, by omega, by omega, b5, b6⟩)).pass (by omega)
      · exact ⟨hv', Nat.le_of_eq eb.symm⟩
    have hw1 : w_ok pn hd (k_warn 2 s).1 := hv.kwarn (by decide) hT
    have hw2 : (k_warn 2 s).1 (54 + 4 * i) = s.1 (54 + 4 * i) := kw_lo (q := 54 + 4 * i) (by decide) (by omega)
    have hw3 : (k_warn 2 s).2.1 = s.2.1 := rfl
    by_cases hc9 : z_boil (s.1 0) < D hd s.1
    · rw [if_pos hc9]
      have hk9 := key (k_warn 2 s) hw1 hw2 hw3
      exact hk9
    · rw [if_neg hc9]
      exact key s hv rfl rfl
theorem w_g_boil {pn i : Nat} {D : q_D} (hi : i < pn) : w_g pn (k_boil pn i D) := by
  intro B hd s hB h hv
  have hg := k_good_boil (pn := pn) (i := i) (D := D) B hd s hB h
  have hT := (h.le.T hB).1
  refine ⟨hg, ?_⟩
  unfold k_boil
  split
  · exact ⟨hv.kwarn (by decide) hT, Nat.le_refl _⟩
  · obtain ⟨al, hal, hv0⟩ := id hv.1
    obtain ⟨h9, hh9, hxh⟩ := clamp_nI (D hd s.1)
    obtain ⟨q, hq, hqe⟩ := lg_nI hh9 hal
    rw [hxh, hv0, hqe]
    unfold k_boil2
    have key : ∀ s' : q_KS, w_ok pn hd s'.1 → s'.1 0 = nI al → s'.1 (52 + 4 * i) = s.1 (52 + 4 * i) → s'.2.1 = s.2.1 → w_ok pn hd (k_boil3 pn i (q_min (nI q) (5 * s.1 (52 + 4 * i))) s').1 ∧ s.2.1 ≤ (k_boil3 pn i (q_min (nI q) (5 * s.1 (52 + 4 * i))) s').2.1 := by
      intro s' hv' e0 e52 eb
      obtain ⟨x, a, m, t, d, e1, e2, e3, e4, e5, b1, b2, b3, b4, b5, b6⟩ := id (hv'.2.2.2.2 i hi)
      rw [← e52, e2, bl_min (by omega) (by omega)]
      refine ⟨?_, Nat.le_of_eq eb.symm⟩
      show w_ok pn hd (z_pass (z_pan s'.1 i (s'.1 (52 + 4 * i) - nI (min q (5 * a)) / 5) (s'.1 (53 + 4 * i)) (z_boil (s'.1 0)) (if 0 < s'.1 (53 + 4 * i) then q_min 100 (s'.1 (55 + 4 * i) + q_quot (nI (min q (5 * a)) * 100) (z_slow (s'.1 0))) else s'.1 (55 + 4 * i))) (nI (min q (5 * a))) i pn)
      have hq9 : min q (5 * a) ≤ 1000 := by omega
      have hq8 : min q (5 * a) / 5 ≤ a := by omega
      generalize min q (5 * a) = mi at hq9 hq8 ⊢
      refine w_ok.pass (w_ok.pan hv' (fun _ => ?_)) (by omega)
      have hsl : 100 ≤ 100 + al / 3 * 5 ∧ 100 + al / 3 * 5 ≤ 300 := by omega
      have hdv : mi * 100 / (100 + al / 3 * 5) ≤ 400000 := Nat.le_trans (Nat.div_le_self _ _) (by omega)
      by_cases hm : 0 < m
      · refine ⟨x, a - mi / 5, m, 100 - al / 3, min 100 (d + mi * 100 / (100 + al / 3 * 5)), e1, ?_, e3, ?_, ?_, b1, by omega, by omega, by omega, by omega, fun h8 => by omega⟩
        · rw [e2, show nI mi / 5 = nI (mi / 5) from pk_div (d := 5) (by omega) (by decide) (by decide)]; exact pk_sub hq8
        · rw [e0]; exact boil_nI hal
        · rw [e3, if_pos (show (0 : Int32) < nI m from nI_lt (a := 0) hm (by omega)), e5, e0, slow_nI hal, cook_nI (by omega) hsl.1 hsl.2]
          exact dn_min (by omega)
      · refine ⟨x, a - mi / 5, m, 100 - al / 3, d, e1, ?_, e3, ?_, ?_, b1, by omega, by omega, by omega, b5, b6⟩
        · rw [e2, show nI mi / 5 = nI (mi / 5) from pk_div (d := 5) (by omega) (by decide) (by decide)]; exact pk_sub hq8
        · rw [e0]; exact boil_nI hal
        · rw [e3, if_neg (by rw [show m = 0 by omega]; decide)]
          exact e5
    have hw1 : w_ok pn hd (k_warn 5 s).1 := hv.kwarn (by decide) hT
    have hw0 : (k_warn 5 s).1 0 = nI al := (kw_lo (kd := 5) (s := s) (q := 0) (by decide) (by decide)).trans hv0
    have hw2 : (k_warn 5 s).1 (52 + 4 * i) = s.1 (52 + 4 * i) := kw_lo (q := 52 + 4 * i) (by decide) (by omega)
    have hw3 : (k_warn 5 s).2.1 = s.2.1 := rfl
    by_cases hc9 : 5 * s.1 (52 + 4 * i) < nI q
    · rw [if_pos hc9]
      have hk9 := key (k_warn 5 s) hw1 hw0 hw2 hw3
      exact hk9
    · rw [if_neg hc9]
      exact key s hv hv0 rfl rfl
theorem w_g_empty {pn i : Nat} (hi : i < pn) : w_g pn (k_empty pn i) := by
  intro B hd s hB h hv
  obtain ⟨x, a, m, t, d, e1, e2, e3, e4, e5, b1, b2, b3, b4, b5, b6⟩ := id (hv.2.2.2.2 i hi)
  refine ⟨k_inv_pass (k_inv_same (s := s) h.le (z_pan_n (by omega)) (z_pan_n (by omega)) rfl), ?_, Nat.le_refl _⟩
  exact w_ok.pass (c := 1) (w_ok.pan hv (fun _ => ⟨x, 0, 0, 20, 0, e1, rfl, rfl, rfl, rfl, b1, by omega, by decide, by decide, by decide, fun _ => rfl⟩)) (by decide)
theorem w_g_rest {pn : Nat} {D : q_D} : w_g pn (k_rest pn D) := by
  intro B hd s hB h hv
  obtain ⟨h6, hh6, hx6⟩ := clamp_600 (D hd s.1)
  refine ⟨k_inv_pass h.le, ?_, Nat.le_refl _⟩
  show w_ok pn hd (z_pass s.1 (q_clamp (D hd s.1) 0 600) 8 pn)
  rw [hx6]
  exact hv.pass (by omega)
theorem w_g_note {pn : Nat} {D : q_D} : w_g pn (k_note D) := fun B hd s hB h hv =>
  ⟨k_inv_note hB h, hv.note (h.le.T hB).2, Nat.le_refl _⟩
theorem w_gB.g {pn : Nat} {S : q_S} (h : w_gB pn S) : w_g pn S := fun B hd s hB h1 hv => h B hd s hB h1.le hv
theorem w_g_iter {pn B : Nat} {hd : q_V} {F : q_KS → q_KS} (hF : ∀ s, k_inv B s → w_ok pn hd s.1 → k_inv B (F s) ∧ w_ok pn hd (F s).1 ∧ s.2.1 ≤ (F s).2.1) : ∀ (j : Nat) (s : q_KS), k_inv B s → w_ok pn hd s.1 → k_inv B (k_iter F j s) ∧ w_ok pn hd (k_iter F j s).1 ∧ s.2.1 ≤ (k_iter F j s).2.1
  | 0, s, h, hv => ⟨h, hv, Nat.le_refl _⟩
  | j + 1, s, h, hv => by
    obtain ⟨a, b, c⟩ := hF s h hv
    obtain ⟨d, e, f⟩ := w_g_iter hF j (F s) a b
    exact ⟨d, e, Nat.le_trans c f⟩
theorem w_gB_nil {pn : Nat} : w_gB pn k_nil := fun _ _ _ _ h hv => ⟨h, hv, Nat.le_refl _⟩
theorem k_inv.one {B : Nat} {s : q_KS} (h : k_inv B s) (hb : s.2.1 < 100) : k_inv1 B (s.1, s.2.1 + 1, s.2.2) := by
  obtain ⟨a1, ⟨a2, a3⟩, a4, a5⟩ := h
  refine ⟨?_, ⟨a2, ?_⟩, a4, ?_⟩
  · show s.2.1 + 1 ≤ 100
    omega
  · show k_T s.1 + 101 ≤ B + (s.2.1 + 1)
    omega
  · show k_N s.1 + 101 ≤ B + (s.2.1 + 1)
    omega
theorem w_gB_cons {pn : Nat} {S1 S2 : q_S} (h1 : w_g pn S1) (h2 : w_gB pn S2) : w_gB pn (k_cons S1 S2) := by
  intro B hd s hB h hv
  unfold k_cons
  split
  · next hb =>
    obtain ⟨a, b, c⟩ := h1 B hd (s.1, s.2.1 + 1, s.2.2) hB (h.one hb) hv
    obtain ⟨d, e, f⟩ := h2 B hd _ hB a b
    refine ⟨d, e, ?_⟩
    have c : s.2.1 + 1 ≤ (S1 hd (s.1, s.2.1 + 1, s.2.2)).2.1 := c
    omega
  · exact ⟨h, hv, Nat.le_refl _⟩
theorem w_gB_list {pn : Nat} : ∀ (L : List LT), (∀ x ∈ L, w_g pn x.2.1) → w_gB pn (bS L)
  | [], _ => w_gB_nil
  | x :: L, h => w_gB_cons (h x (List.mem_cons_self ..)) (w_gB_list L (fun y hy => h y (List.mem_cons_of_mem _ hy)))
theorem w_g_if {pn : Nat} {C : q_V → q_V → Bool} {S1 S2 : q_S} (h1 : w_g pn S1) (h2 : w_g pn S2) : w_g pn (k_if C S1 S2) := by
  intro B hd s hB h hv
  unfold k_if
  split
  · exact h1 B hd s hB h hv
  · exact h2 B hd s hB h hv
theorem w_g_again {pn : Nat} {D : q_D} {S : q_S} (h1 : w_gB pn S) : w_g pn (k_again D S) := fun B hd s hB h hv => w_g_iter (fun s h hv => h1 B hd s hB h hv) _ s h.le hv
theorem LACT.good {E : q_E} {pn R : Nat} {RS : Nat → q_S} {P : Nat → Prop} {f : q_H} (hRS : ∀ r, r < R → w_gB pn (RS r)) : ∀ (d : Nat) (x : LT), LACT E pn R RS P f d x → w_g pn x.2.1
  | 0, _, r => r.elim
  | d + 1, x, r => by
    obtain ⟨hp, do_, wh, va, sg, on, ot, b, el, e, hc⟩ := r
    have lb := fun b L (z : LB P E f (LACT E pn R RS P f d) b L) => w_gB_list (pn := pn) L (fun y hy => LACT.good hRS d y (z.2.2 y hy))
    rcases hc with ⟨t, i, y, D, Wt, a1, a2, a3, a4, a5, a6, a7, a8, a9⟩ | ⟨i, y, D, Wt, a2, a3, a4, a5, a6, a7, a8, a9⟩ | ⟨i, y, D, Wt, a2, a3, a4, a5, a6, a7, a8, a9⟩ | ⟨i, a2, a3, a4, a5, a6, a8, a9⟩ | ⟨i, y, D, Wt, a2, a3, a4, a5, a6, a7, a8, a9⟩ | ⟨i, y, D, Wt, a2, a3, a4, a5, a6, a7, a8, a9⟩ | ⟨i, a2, a3, a4, a5, a6, a8, a9⟩ | ⟨i, y, D, Wt, L, a2, a3, a4, a5, a6, a7, a8, a9⟩ | ⟨i, L, C, a2, a3, a4, a5, a6, a7, a8, a9, a10⟩
    · rw [a9]; exact w_g_pour a2
    · rw [a9]; exact w_g_heat a2
    · rw [a9]; exact w_g_boil a2
    · rw [a9]; exact w_g_empty a2
    · rw [a9]; exact w_g_rest
    · rw [a9]; exact w_g_note
    · rw [a9]; exact (hRS i a2).g
    · rw [a9]; exact w_g_again (lb b L a8)
    · rcases a10 with ⟨-, a10⟩ | ⟨b2, L2, c1, c2, c3⟩
      · rw [a10]; exact w_g_if (lb b L a9).g w_gB_nil.g
      · rw [c3]; exact w_g_if (lb b L a9).g (lb b2 L2 c2).g
theorem LB.good {E : q_E} {pn R d : Nat} {RS : Nat → q_S} {P Q : Nat → Prop} {f : q_H} {b : Nat} {L : List LT} (hRS : ∀ r, r < R → w_gB pn (RS r)) (h : LB Q E f (LACT E pn R RS P f d) b L) : w_gB pn (bS L) := w_gB_list L (fun y hy => LACT.good hRS d y (h.2.2 y hy))
/-- the recipes -/
def RCS (E : q_E) (f : q_H) (re NR pn : Nat) (RS : Nat → q_S) (P : Nat → Prop) (R : Nat) : Prop := ∃ gre, P re ∧ f re = some (aQ E 9 NR gre) ∧ R ≤ NR ∧ NR ≤ 6 ∧ ∀ r, r < R → ∃ b L, gre r = some b ∧ LB P E f (LACT E pn r RS P f 4) b L ∧ RS r = bS L ∧ bC L ≤ 20
theorem RCS.good {E : q_E} {f : q_H} {re NR pn : Nat} {RS : Nat → q_S} {P : Nat → Prop} : ∀ {R : Nat}, RCS E f re NR pn RS P R → ∀ r, r < R → w_gB pn (RS r)
  | 0, _, r, hr => absurd hr (Nat.not_lt_zero _)
  | R + 1, h, r, hr => by
    have ih := RCS.good (R := R) (by obtain ⟨g, a, b, c, c2, d⟩ := h; exact ⟨g, a, b, by omega, c2, fun r hr => d r (by omega)⟩)
    obtain ⟨g, a, b, c, c2, d⟩ := h
    obtain ⟨b', L, -, e2, e3, -⟩ := d r hr
    rw [e3]
    exact e2.good (fun q hq => ih q (by omega))
theorem RCS.le {E : q_E} {f : q_H} {re NR pn : Nat} {RS : Nat → q_S} {P : Nat → Prop} {R R' : Nat} (h : RCS E f re NR pn RS P R) (hR : R' ≤ R) : RCS E f re NR pn RS P R' := by
  obtain ⟨g, a, b, c, c2, d⟩ := h
  exact ⟨g, a, b, by omega, c2, fun r hr => d r (by omega)⟩
theorem RCS.to {E : q_E} {f f1 : q_H} {re NR pn : Nat} {RS : Nat → q_S} {P : Nat → Prop} {R : Nat} (hf : ∀ q, P q → P q ∧ f1 q = f q) (h : RCS E f re NR pn RS P R) : RCS E f1 re NR pn RS P R := by
  obtain ⟨g, a, b, c, c2, d⟩ := h
  refine ⟨g, a, (hf _ a).2.trans b, c, c2, fun r hr => ?_⟩
  obtain ⟨b', L, e1, e2, e3, e4⟩ := d r hr
  exact ⟨b', L, e1, LB.to hf (fun x hx => LACT.to hf (Nat.le_refl _) (fun _ _ => rfl) 4 x hx) e2, e3, e4⟩
theorem bS_full {L : List LT} {hd : q_V} {s : q_KS} (h : ¬ s.2.1 < 100) : bS L hd s = s := by
  cases L with
  | nil => rfl
  | cons x L => exact if_neg h
theorem iter_fix {F : q_KS → q_KS} {s : q_KS} (h : F s = s) : ∀ j, k_iter F j s = s
  | 0 => rfl
  | j + 1 => by show k_iter F j (F s) = s; rw [h]; exact iter_fix h j
theorem iter_add {F : q_KS → q_KS} : ∀ (i j : Nat) (s : q_KS), k_iter F (i + j) s = k_iter F j (k_iter F i s)
  | 0, j, s => by rw [Nat.zero_add]; rfl
  | i + 1, j, s => by rw [Nat.add_right_comm]; exact iter_add i j (F s)

/-- a block is run -/
def RUNP (l : Launch) (E : q_E) (x9 y9 pn R : Nat) (RS : Nat → q_S) (d : Nat) : Prop := ∀ (f : q_H) (n : Nat) (k pa re ki wa no : Nat) (pr : Nat → Nat) (hd v : q_V) (b : Nat) (w : Int32) (B : Nat) (P : Nat → Prop) (bk : Nat) (L : List LT) (NR : Nat), (LK E f k pa re ki wa no pn pr hd v b w) → (LSp ki wa no pn pr) → (pn ≤ 8) → (w_ok pn hd v) → (B ≤ 2 ^ 29) → (k_inv B (v, b, w)) → (OFF k pa ki pn pr n P) → (RCS E f re NR pn RS P R) → (LB P E f (LACT E pn R RS P f d) bk L) → (bC L ≤ 20) → Met l yX15_run wsX15_run ({ frames := x9, cells := ((bS L hd (v, b, w)).2.1 - b), slots := 20 * ((bS L hd (v, b, w)).2.1 - b), locals := y9 }) (q_P E [.ref k, .ref bk] f n) (q_Qv E (fun f1 n1 => KB E f f1 n n1 k pa re ki pn pr hd (bS L hd (v, b, w)))) (((bS L hd (v, b, w)).2.1 - b)) (20 * ((bS L hd (v, b, w)).2.1 - b)) (q_ge E)

/-- an act is carried out -/
def CARP (l : Launch) (E : q_E) (x9 y9 pn R : Nat) (RS : Nat → q_S) (d : Nat) : Prop := ∀ (f : q_H) (n : Nat) (k pa re ki wa no : Nat) (pr : Nat → Nat) (hd v : q_V) (b : Nat) (w : Int32) (B : Nat) (P : Nat → Prop) (x : LT) (NR : Nat), (LK E f k pa re ki wa no pn pr hd v b w) → (LSp ki wa no pn pr) → (pn ≤ 8) → (w_ok pn hd v) → (B ≤ 2 ^ 29) → (k_inv1 B (v, b, w)) → (OFF k pa ki pn pr n P) → (RCS E f re NR pn RS P R) → (LACT E pn R RS P f d x) → (x.2.2.2 ≤ 20) → Met l yX15_carryOut wsX15_carryOut ({ frames := x9, cells := (1 + ((x.2.1 hd (v, b, w)).2.1 - b)), slots := 20 * (1 + ((x.2.1 hd (v, b, w)).2.1 - b)), locals := y9 }) (q_P E [.ref k, .ref x.1] f n) (q_Qv E (fun f1 n1 => KB E f f1 n n1 k pa re ki pn pr hd (x.2.1 hd (v, b, w)))) ((1 + ((x.2.1 hd (v, b, w)).2.1 - b))) (20 * (1 + ((x.2.1 hd (v, b, w)).2.1 - b))) (q_ge E)

theorem again_m (x : Int32) : ∃ m, m < 2 ^ 31 ∧ (∀ kk, kk < 2 ^ 31 → (x ≤ nI kk ↔ m ≤ kk)) ∧ (q_min x 100).toNatClampNeg = min m 100 := by
  by_cases h0 : x < 0
  · refine ⟨0, by decide, fun kk hk => ⟨fun _ => Nat.zero_le _, fun _ => Int32.le_of_lt (Int32.lt_of_lt_of_le h0 (nI_pos' hk))⟩, ?_⟩
    rw [show q_min x 100 = x from if_neg (Int32.not_lt.mpr (Int32.le_of_lt (Int32.lt_trans h0 (by decide))))]
    have h1 : x ≤ nI 0 := Int32.le_of_lt h0
    have := q_cl_le (j := 0) (by decide) h1
    omega
  · obtain ⟨j, hj, rfl⟩ := nI_of h0
    refine ⟨j, hj, fun kk hk => ⟨fun h => q_leN hj h hk, fun h => nI_le h hk⟩, ?_⟩
    rw [show q_min (nI j) 100 = nI (min j 100) from min_nI hj (by decide)]
    exact nI_clamp (by omega)
theorem k_again_eq {D : q_D} {S : q_S} {hd : q_V} {s : q_KS} {m : Nat} (hJ : (q_min (D hd s.1) 100).toNatClampNeg = min m 100) : k_again D S hd s = k_iter (S hd) (min m 100) s := by
  show k_iter (S hd) (q_min (D hd s.1) 100).toNatClampNeg s = _
  rw [hJ]
theorem again_end {D : q_D} {L : List LT} {hd v vj : q_V} {b bj kk m : Nat} {w wj : Int32} (hJ : (q_min (D hd v) 100).toNatClampNeg = min m 100) (hit : k_iter (bS L hd) kk (v, b, w) = (vj, bj, wj)) (hkk : kk ≤ m) (h : m ≤ kk ∨ bj = 100 ∨ L = []) (hk : kk ≤ bj := by omega) (hb : bj ≤ 100 := by omega) : k_again D (bS L) hd (v, b, w) = (vj, bj, wj) := by
  rw [k_again_eq (s := (v, b, w)) hJ]
  obtain ⟨j, hj⟩ : ∃ j, min m 100 = kk + j := ⟨min m 100 - kk, by omega⟩
  rw [hj, iter_add, hit]
  rcases h with h | h | h
  · rw [show j = 0 by omega]
    rfl
  · exact iter_fix (bS_full (by show ¬ bj < 100; omega)) j
  · subst h
    exact iter_fix rfl j
theorem again_le {pn B : Nat} {D : q_D} {L : List LT} {hd v vj : q_V} {b bj kk m : Nat} {w wj : Int32} (hg : w_gB pn (bS L)) (hB : B ≤ 2 ^ 29) (hI : k_inv B (v, b, w)) (hv : w_ok pn hd v) (hJ : (q_min (D hd v) 100).toNatClampNeg = min m 100) (hit : k_iter (bS L hd) kk (v, b, w) = (vj, bj, wj)) (hkk : kk ≤ m) (hlt : kk < m) (hk : kk < 100) : (bS L hd (vj, bj, wj)).2.1 ≤ (k_again D (bS L) hd (v, b, w)).2.1 := by
  have hF : ∀ s, k_inv B s → w_ok pn hd s.1 → k_inv B (bS L hd s) ∧ w_ok pn hd (bS L hd s).1 ∧ s.2.1 ≤ (bS L hd s).2.1 := fun s h1 h2 => hg B hd s hB h1 h2
  rw [k_again_eq (s := (v, b, w)) hJ]
  obtain ⟨j, hj⟩ : ∃ j, min m 100 = kk + 1 + j := ⟨min m 100 - (kk + 1), by omega⟩
  have h1 := w_g_iter hF (kk + 1) (v, b, w) hI hv
  have e : k_iter (bS L hd) (kk + 1) (v, b, w) = bS L hd (vj, bj, wj) := by rw [k_iter_s, hit]
  rw [hj, iter_add, e]
  rw [e] at h1
  exact (w_g_iter hF j _ h1.1 h1.2.1).2.2
theorem LB.goods {E : q_E} {pn R d : Nat} {RS : Nat → q_S} {P Q : Nat → Prop} {f : q_H} {b : Nat} {L : List LT} (hRS : ∀ r, r < R → w_gB pn (RS r)) (h : LB Q E f (LACT E pn R RS P f d) b L) : ∀ x ∈ L, w_g pn x.2.1 := fun y hy => LACT.good hRS d y (h.2.2 y hy)
theorem bS_inc {pn B : Nat} {L : List LT} {hd v : q_V} {b kk : Nat} {w : Int32} (hg : ∀ x ∈ L, w_g pn x.2.1) (hB : B ≤ 2 ^ 29) (hI : k_inv B (v, b, w)) (hv : w_ok pn hd v) (hL : 0 < L.length) (hb : b < 100) (hk : kk ≤ b) : kk + 1 ≤ (bS L hd (v, b, w)).2.1 := by
  cases L with
  | nil => exact absurd hL (Nat.lt_irrefl _)
  | cons x L =>
    rw [show bS (x :: L) hd (v, b, w) = bS L hd (x.2.1 hd (v, b + 1, w)) from if_pos hb]
    obtain ⟨a1, a2, a3⟩ := hg x (List.mem_cons_self ..) B hd (v, b + 1, w) hB (hI.one hb) hv
    have h2 := (w_gB_list L (fun y hy => hg y (List.mem_cons_of_mem _ hy)) B hd _ hB a1 a2).2.2
    have a3 : b + 1 ≤ (x.2.1 hd (v, b + 1, w)).2.1 := a3
    omega

theorem drop_at {L : List LT} {j : Nat} (h : j < L.length) : ∃ x T, (L.drop j = x :: T ∧ T = L.drop (j + 1)) ∧ x ∈ L ∧ lf L j = some x.1 := by
  refine ⟨L[j], L.drop (j + 1), ⟨List.drop_eq_getElem_cons h, rfl⟩, List.getElem_mem h, ?_⟩
  unfold lf
  rw [List.getElem?_eq_getElem h]
  rfl
theorem bC_mem {x : LT} : ∀ {L : List LT}, x ∈ L → x.2.2.2 ≤ bC L
  | y :: L, h => by
    rcases List.mem_cons.mp h with rfl | h
    · show x.2.2.2 ≤ 1 + x.2.2.2 + bC L
      omega
    · have := bC_mem h
      show x.2.2.2 ≤ 1 + y.2.2.2 + bC L
      omega

set_option maxHeartbeats 4000000 in
set_option maxRecDepth 100000 in
theorem kX15_carryOut_7 (l : Launch) (E : q_E) (f : q_H) (n : Nat) (x9 y9 pn : Nat) (RS : Nat → q_S) (k pa re ki wa no : Nat) (pr : Nat → Nat) (hd v : q_V) (b : Nat) (w : Int32) (B : Nat) (P : Nat → Prop) (a r : Nat) (sg on ot bl el : Option Nat) (NR bk : Nat) (L : List LT) (gre : Nat → Option Nat) (h0 : f a = some (cLA 7 (nI r) none sg on ot bl el)) (hX : RUNP l E x9 y9 pn r RS 4) (hK : LK E f k pa re ki wa no pn pr hd v b w) (hs : LSp ki wa no pn pr) (hpn : pn ≤ 8) (hv : w_ok pn hd v) (hB : B ≤ 2 ^ 29) (hI : k_inv B (v, b, w)) (hO : OFF k pa ki pn pr n P) (hR : RCS E f re NR pn RS P r) (hL : LB P E f (LACT E pn r RS P f 4) bk L) (hbc : bC L ≤ 20) (hre : f re = some (aQ E 9 NR gre)) (hgr : gre r = some bk) (hr1 : r < NR) (hr2 : NR ≤ 6) : Met l yX15_carryOut wsX15_carryOut ({ frames := x9 + 10, cells := (1 + ((bS L hd (v, b, w)).2.1 - b)), slots := 20 * (1 + ((bS L hd (v, b, w)).2.1 - b)), locals := y9 + 500 }) (q_P E [.ref k, .ref a] f n) (q_Qv E (fun f1 n1 => KB E f f1 n n1 k pa re ki pn pr hd (bS L hd (v, b, w)))) (1 + ((bS L hd (v, b, w)).2.1 - b)) (20 * (1 + ((bS L hd (v, b, w)).2.1 - b))) (q_ge E) := by
  refine Met.ofW (cc := cX15_carryOut) (maxL := 7) (ret := none) (by decide) rfl ?_
  intro p0_ e0_ s0_ m0_ args0_ below0_ meth0_ c0_ s1_ B0_ hml hv
  obtain ⟨rfl, hA, hW⟩ := hv
  have hx := B0_.exec
  have hb := B0_.bytes
  have hr := B0_.returns
  have hts := atoms_spec (ws := wsX15_carryOut) B0_.pre
  have hown : s0_.vm.findClass RX15 = some m0_.cls := findClass_of_methodNamed B0_.named
  have hlocks := B0_.notSynchronized
  have hS : va_S (q_ge E) s0_.heap s0_.heap [] := va_S.rf
  have iX13 : ∀ w ∈ wsX130, w ∈ wsX15_carryOut := by decide +kernel
  have iX15 : ∀ w ∈ wsX150, w ∈ wsX15_carryOut := by decide +kernel
  have hl := lv_entry ([.ref k, .ref a]) (n := 7) (Nat.le_of_ble_eq_true rfl)
  rw [lg_entry_eq]
  generalize (lg_sl ([.ref k, .ref a]) ++ List.replicate (7 - (lg_sl ([.ref k, .ref a])).length) Slot.unset).toArray = ls at hl ⊢
  have hl : lv_has ls 7 [(0, .ref k), (1, .ref a)] := hl
  obtain ⟨hk0, ⟨gk, hki, hkv⟩, ⟨gw, hwa, hwv⟩, ⟨gn, hno, hnv⟩, ⟨gp, hpa, hpv⟩, hrow⟩ := id hK
  have l_k := hW.lt hk0
  have l_ki := hW.lt hki
  have l_wa := hW.lt hwa
  have l_no := hW.lt hno
  have l_pa := hW.lt hpa
  have l_h0 := hW.lt h0
  refine lv_aload_n hx hb dX15_carryOut_0 rfl (lv_at hl 1 rfl) ?_
  refine q_get hx hb hts hown hA hW iX13 h0 rfl 0 (by decide) (hts (.fieldLink RX15 81 "HighRecipesLaw$Act" "does" "I") (by decide +kernel)) (fun _ h9 => h9) (v := .int 7) rfl dX15_carryOut_1 ?_
  refine lv_bipush (v := 7) hx hb dX15_carryOut_4 (by decide) ?_
  refine lv_icmp_ne (tgt := 13) hx hb dX15_carryOut_6 (by decide) (fun c_6 => absurd c_6 (by decide)) (fun c_6 => ?_)
  refine lv_null hx hb dX15_carryOut_9 ?_
  refine lv_goto (tgt := 22) hx hb dX15_carryOut_10 (by decide) ?_
  refine lv_astore_nN (lv' := [(2, .null), (0, .ref k), (1, .ref a)]) hx hb dX15_carryOut_22 rfl hl (by decide) rfl (fun ls hl => ?_)
  refine lv_aload_n hx hb dX15_carryOut_23 rfl (lv_at hl 2 rfl) ?_
  refine q_get hx hb hts hown hA hW iX13 h0 rfl 2 (by decide) (hts (.fieldLink RX15 89 "HighRecipesLaw$Act" "value" "LHighRecipesLaw$Node;") (by decide +kernel)) (fun _ h9 => h9) (v := .null) rfl dX15_carryOut_24 ?_
  refine lv_ifnonnullN hx hb dX15_carryOut_27 ?_
  refine lv_iconst (v := 0) hx hb dX15_carryOut_30 (by decide) ?_
  refine lv_goto (tgt := 42) hx hb dX15_carryOut_31 (by decide) ?_
  refine lv_istore_n (lv' := [(3, .int 0), (2, .null), (0, .ref k), (1, .ref a)]) hx hb dX15_carryOut_42 rfl hl (by decide) rfl (fun ls hl => ?_)
  refine lv_aload_n hx hb dX15_carryOut_43 rfl (lv_at hl 3 rfl) ?_
  refine q_get hx hb hts hown hA hW iX13 h0 rfl 0 (by decide) (hts (.fieldLink RX15 81 "HighRecipesLaw$Act" "does" "I") (by decide +kernel)) (fun _ h9 => h9) (v := .int 7) rfl dX15_carryOut_44 ?_
  refine lv_tableIn (x := 7) (off := 302) (tgt := 349) hx hb dX15_carryOut_47 (by decide) (by decide) (by decide) (by decide) ?_
  refine lv_aload_n hx hb dX15_carryOut_349 rfl (lv_at hl 2 rfl) ?_
  refine lv_aload_n hx hb dX15_carryOut_350 rfl (lv_at hl 2 rfl) ?_
  refine q_get hx hb hts hown hA hW iX15 hk0 rfl 5 (by decide) (hts (.fieldLink RX15 24 "HighRecipesLaw$Kitchen" "recipes" "[[LHighRecipesLaw$Act;") (by decide +kernel)) (fun _ h9 => h9) (v := .ref re) rfl dX15_carryOut_351 ?_
  refine lv_aload_n hx hb dX15_carryOut_354 rfl (lv_at hl 3 rfl) ?_
  refine q_get hx hb hts hown hA hW iX13 h0 rfl 1 (by decide) (hts (.fieldLink RX15 86 "HighRecipesLaw$Act" "whom" "I") (by decide +kernel)) (fun _ h9 => h9) (v := .int (nI r)) rfl dX15_carryOut_355 ?_
  refine q_aaldA hx hb hA hW 9 rfl hre (vp_in_nI hr1 (by omega)) dX15_carryOut_358 ?_
  rw [show gre (nI r).toNatClampNeg = some bk from by rw [nI_clamp (by omega)]; exact hgr]
  refine q_cv (va_runV (As := [.ref bk]) (rest := []) ⟨hx, hb, hml, hown, hts⟩ (hX  f n k pa re ki wa no pr hd v b w B P bk L NR hK hs hpn hv hB hI hO hR hL hbc) (cwV 1 hts gX15_carryOut_X15_run rfl rfl rfl (by decide +kernel) ⟨(by show x9 + 1 ≤ x9 + 10; omega), (by show 8 + (6 + 11) + y9 ≤ y9 + 500; omega)⟩) (q_pV hA hW hS (ci := 15) rfl hk0) rfl rfl hl.1 rfl (lv_room (Nat.le_of_ble_eq_true rfl)) dX15_carryOut_359 ⟨(by show _ ≤ (1 + ((bS L hd (v, b, w)).2.1 - b)); omega), (by show _ ≤ 20 * (1 + ((bS L hd (v, b, w)).2.1 - b)); omega)⟩) hS (fun f_359 n_359 H locs hp hW hS => ?_)
  have eB := hp
  refine lv_goto (tgt := 442) hx hb dX15_carryOut_362 (by decide) ?_
  exact q_vret hx hb hr hlocks hW hS eB (by show _ ≤ (1 + ((bS L hd (v, b, w)).2.1 - b)); omega) (by show _ ≤ 20 * (1 + ((bS L hd (v, b, w)).2.1 - b)); omega) dX15_carryOut_442

set_option maxHeartbeats 4000000 in
set_option maxRecDepth 100000 in
theorem kX15_carryOut_8 (l : Launch) (E : q_E) (f : q_H) (n : Nat) (x9 y9 pn R : Nat) (RS : Nat → q_S) (d : Nat) (k pa re ki wa no : Nat) (pr : Nat → Nat) (hd v : q_V) (b : Nat) (w : Int32) (B : Nat) (P : Nat → Prop) (a i y : Nat) (sg on ot el : Option Nat) (D : q_D) (Wt : List Int32) (NR bk : Nat) (L : List LT) (h0 : f a = some (cLA 8 (nI i) (some y) sg on ot (some bk) el)) (hX : RUNP l E x9 y9 pn R RS d) (hK : LK E f k pa re ki wa no pn pr hd v b w) (hs : LSp ki wa no pn pr) (hpn : pn ≤ 8) (hv : w_ok pn hd v) (hB : B ≤ 2 ^ 29) (hI : k_inv B (v, b, w)) (hO : OFF k pa ki pn pr n P) (hR : RCS E f re NR pn RS P R) (hL : LB P E f (LACT E pn R RS P f d) bk L) (hbc : bC L ≤ 20) (hi : i < pn) (hN : NODE pn P f 1 y D Wt) (hPa : P a) : Met l yX15_carryOut wsX15_carryOut ({ frames := x9 + 10, cells := (1 + ((k_again D (bS L) hd (v, b, w)).2.1 - b)), slots := 20 * (1 + ((k_again D (bS L) hd (v, b, w)).2.1 - b)), locals := y9 + 500 }) (q_P E [.ref k, .ref a] f n) (q_Qv E (fun f1 n1 => KB E f f1 n n1 k pa re ki pn pr hd (k_again D (bS L) hd (v, b, w)))) (1 + ((k_again D (bS L) hd (v, b, w)).2.1 - b)) (20 * (1 + ((k_again D (bS L) hd (v, b, w)).2.1 - b))) (q_ge E) := by
  refine Met.ofW (cc := cX15_carryOut) (maxL := 7) (ret := none) (by decide) rfl ?_
  intro p0_ e0_ s0_ m0_ args0_ below0_ meth0_ c0_ s1_ B0_ hml hv
  obtain ⟨rfl, hA, hW⟩ := hv
  have hx := B0_.exec
  have hb := B0_.bytes
  have hr := B0_.returns
  have hts := atoms_spec (ws := wsX15_carryOut) B0_.pre
  have hown : s0_.vm.findClass RX15 = some m0_.cls := findClass_of_methodNamed B0_.named
  have hlocks := B0_.notSynchronized
  have hS : va_S (q_ge E) s0_.heap s0_.heap [] := va_S.rf
  have iX13 : ∀ w ∈ wsX130, w ∈ wsX15_carryOut := by decide +kernel
  have iX15 : ∀ w ∈ wsX150, w ∈ wsX15_carryOut := by decide +kernel
  have hl := lv_entry ([.ref k, .ref a]) (n := 7) (Nat.le_of_ble_eq_true rfl)
  rw [lg_entry_eq]
  generalize (lg_sl ([.ref k, .ref a]) ++ List.replicate (7 - (lg_sl ([.ref k, .ref a])).length) Slot.unset).toArray = ls at hl ⊢
  have hl : lv_has ls 7 [(0, .ref k), (1, .ref a)] := hl
  obtain ⟨hk0, ⟨gk, hki, hkv⟩, ⟨gw, hwa, hwv⟩, ⟨gn, hno, hnv⟩, ⟨gp, hpa, hpv⟩, hrow⟩ := id hK
  have l_k := hW.lt hk0
  have l_ki := hW.lt hki
  have l_wa := hW.lt hwa
  have l_no := hW.lt hno
  have l_pa := hW.lt hpa
  have l_h0 := hW.lt h0
  obtain ⟨gr, hr_i, hg0, hg1, hg2, hg3, hg4⟩ := hrow i hi
  have l_r := hW.lt hr_i
  have hrk := hK.kr hi
  obtain ⟨-, so, ky, xy, yy, hcy⟩ := hN.cell
  have l_y := hW.lt hcy
  obtain ⟨m9, hm9, hm8, hJ⟩ := again_m (D hd v)
  have hgd := LB.good (RCS.good hR) hL
  have hLl : L.length ≤ 20 := Nat.le_trans (bC_len L) hbc
  refine lv_aload_n hx hb dX15_carryOut_0 rfl (lv_at hl 1 rfl) ?_
  refine q_get hx hb hts hown hA hW iX13 h0 rfl 0 (by decide) (hts (.fieldLink RX15 81 "HighRecipesLaw$Act" "does" "I") (by decide +kernel)) (fun _ h9 => h9) (v := .int 8) rfl dX15_carryOut_1 ?_
  refine lv_bipush (v := 7) hx hb dX15_carryOut_4 (by decide) ?_
  refine lv_icmp_ne (tgt := 13) hx hb dX15_carryOut_6 (by decide) (fun c_6 => ?_) (fun c_6 => absurd c_6 (by decide))
  refine lv_aload_n hx hb dX15_carryOut_13 rfl (lv_at hl 0 rfl) ?_
  refine q_get hx hb hts hown hA hW iX15 hk0 rfl 4 (by decide) (hts (.fieldLink RX15 18 "HighRecipesLaw$Kitchen" "pans" "[[I") (by decide +kernel)) (fun _ h9 => h9) (v := .ref pa) rfl dX15_carryOut_14 ?_
  refine lv_aload_n hx hb dX15_carryOut_17 rfl (lv_at hl 1 rfl) ?_
  refine q_get hx hb hts hown hA hW iX13 h0 rfl 1 (by decide) (hts (.fieldLink RX15 86 "HighRecipesLaw$Act" "whom" "I") (by decide +kernel)) (fun _ h9 => h9) (v := .int (nI i)) rfl dX15_carryOut_18 ?_
  refine q_aaldA hx hb hA hW 8 rfl hpa (vp_in_nI (by omega) (by omega)) dX15_carryOut_21 ?_
  rw [show gp (nI i).toNatClampNeg = some (pr i) from by rw [nI_clamp (by omega)]; exact hpv i (by omega)]
  refine lv_astore_n (lv' := [(2, .ref (pr i)), (0, .ref k), (1, .ref a)]) hx hb dX15_carryOut_22 rfl hl (by decide) rfl (fun ls hl => ?_)
  refine lv_aload_n hx hb dX15_carryOut_23 rfl (lv_at hl 2 rfl) ?_
  refine q_get hx hb hts hown hA hW iX13 h0 rfl 2 (by decide) (hts (.fieldLink RX15 89 "HighRecipesLaw$Act" "value" "LHighRecipesLaw$Node;") (by decide +kernel)) (fun _ h9 => h9) (v := .ref y) rfl dX15_carryOut_24 ?_
  refine lv_ifnonnull (tgt := 34) hx hb dX15_carryOut_27 (by decide) ?_
  refine lv_aload_n hx hb dX15_carryOut_34 rfl (lv_at hl 2 rfl) ?_
  refine q_get hx hb hts hown hA hW iX13 h0 rfl 2 (by decide) (hts (.fieldLink RX15 89 "HighRecipesLaw$Act" "value" "LHighRecipesLaw$Node;") (by decide +kernel)) (fun _ h9 => h9) (v := .ref y) rfl dX15_carryOut_35 ?_
  refine lv_aload_n hx hb dX15_carryOut_38 rfl (lv_at hl 1 rfl) ?_
  refine q_ci (va_runV (As := [.ref k]) (rest := []) ⟨hx, hb, hml, hown, hts⟩ (kX16_value_1 l E f n k pa re ki wa no pn pr hd v b w y P D Wt hN hpn hK) (cwV 1 hts gX15_carryOut_X16_value rfl rfl rfl (by decide +kernel) ⟨(by show 6 + 1 ≤ x9 + 10; omega), (by show 8 + (4 + 11) + 240 ≤ y9 + 500; omega)⟩) (q_pV hA hW hS (ci := 16) rfl hcy) rfl rfl hl.1 rfl (lv_room (Nat.le_of_ble_eq_true rfl)) dX15_carryOut_39 ⟨(by show _ ≤ (1 + ((k_again D (bS L) hd (v, b, w)).2.1 - b)); omega), (by show _ ≤ 20 * (1 + ((k_again D (bS L) hd (v, b, w)).2.1 - b)); omega)⟩) hS (fun r_39 f_39 n_39 H locs hp hW hS => ?_)
  obtain ⟨rfl, rfl, rfl⟩ := hp
  have hW : q_W E (f) n H := hW
  refine lv_istore_n (lv' := [(3, .int (D hd v)), (2, .ref (pr i)), (0, .ref k), (1, .ref a)]) hx hb dX15_carryOut_42 rfl hl (by decide) rfl (fun ls hl => ?_)
  refine lv_aload_n hx hb dX15_carryOut_43 rfl (lv_at hl 3 rfl) ?_
  refine q_get hx hb hts hown hA hW iX13 h0 rfl 0 (by decide) (hts (.fieldLink RX15 81 "HighRecipesLaw$Act" "does" "I") (by decide +kernel)) (fun _ h9 => h9) (v := .int 8) rfl dX15_carryOut_44 ?_
  refine lv_tableIn (x := 8) (off := 318) (tgt := 365) hx hb dX15_carryOut_47 (by decide) (by decide) (by decide) (by decide) ?_
  refine lv_iconst (v := 0) hx hb dX15_carryOut_365 (by decide) ?_
  refine lv_istore (lv' := [(4, .int 0), (3, .int (D hd v)), (2, .ref (pr i)), (0, .ref k), (1, .ref a)]) hx hb dX15_carryOut_366 hl (by decide) rfl (fun ls hl => ?_)
  have K368 : ∀ (fu : Nat) (F : q_H) (nj waj noj : Nat) (prj : Nat → Nat) (vj : q_V) (bj : Nat) (wj : Int32) (kk cu su : Nat) (hKj : LK E F k pa re ki waj noj pn prj hd vj bj wj) (hsj : LSp ki waj noj pn prj) (hpj : PRN pn pr prj n) (hnj : n ≤ nj) (hfj : FRM k pa ki pn pr n f F) (hIj : k_inv B (vj, bj, wj)) (hvj : w_ok pn hd vj) (hit : k_iter (bS L hd) kk (v, b, w) = (vj, bj, wj)) (hkk : kk ≤ m9) (hkb : kk ≤ bj) (hcu : cu + b = bj) (hsu : su = 20 * cu) (hm : 200 - kk < fu) (H : Heap) (locs : List Loc) (ls : Array Slot), q_W E (F) nj H → va_S (q_ge E) s0_.heap H locs → lv_has ls 7 [(0, .ref k), (1, .ref a), (3, .int (D hd v)), (4, .int (nI kk))] → W p0_ l e0_ (headSpec wsX15_carryOut ({ frames := x9 + 10, cells := (1 + ((k_again D (bS L) hd (v, b, w)).2.1 - b)), slots := 20 * (1 + ((k_again D (bS L) hd (v, b, w)).2.1 - b)), locals := y9 + 500 })).room s0_ m0_ ([.ref k, .ref a] : List Value).toArray below0_ meth0_ c0_ H locs cu su (MQ below0_ (q_Qv E (fun f1 n1 => KB E f f1 n n1 k pa re ki pn pr hd (k_again D (bS L) hd (v, b, w)))) ([.ref k, .ref a] : List Value).toArray s0_ (1 + ((k_again D (bS L) hd (v, b, w)).2.1 - b)) (20 * (1 + ((k_again D (bS L) hd (v, b, w)).2.1 - b))) (q_ge E)) (F0 m0_ 368 ls []) := by
    intro fu
    induction fu with
    | zero =>
      intro F nj waj noj prj vj bj wj kk cu su hKj hsj hpj hnj hfj hIj hvj hit hkk hkb hcu hsu hm
      exact absurd hm (Nat.not_lt_zero _)
    | succ fu ih =>
      intro F nj waj noj prj vj bj wj kk cu su hKj hsj hpj hnj hfj hIj hvj hit hkk hkb hcu hsu hm H locs ls hW hS hl
      obtain ⟨hk0j, -⟩ := id hKj
      have hOj := hO.trans hpj hnj
      have hfP := hO.fr hfj
      have h0j : F a = some (cLA 8 (nI i) (some y) sg on ot (some bk) el) := (hfP a hPa).2.trans h0
      have hbkj : F bk = some (aQ E 6 L.length (lf L)) := (hfP bk hL.1).2.trans hL.2.1
      have hbj : bj ≤ 100 := hIj.1
      have l_k := hW.lt hk0j
      have hLj : LB P E F (LACT E pn R RS P F d) bk L := LB.to hfP (fun x hx => LACT.to hfP (Nat.le_refl _) (fun _ _ => rfl) d x hx) hL
      have hRj := RCS.to hfP hR
      refine lv_iload hx hb dX15_carryOut_368 (lv_at hl 3 rfl) ?_
      refine lv_iload_n hx hb dX15_carryOut_370 rfl (lv_at hl 2 rfl) ?_
      refine lv_icmp_ge (tgt := 405) hx hb dX15_carryOut_371 (by decide) (fun c_371 => ?_) (fun c_371 => ?_)
      · have hmk : m9 ≤ kk := (hm8 kk (by omega)).mp c_371
        refine lv_goto (tgt := 442) hx hb dX15_carryOut_405 (by decide) ?_
        have hfin : k_again D (bS L) hd (v, b, w) = (vj, bj, wj) := again_end hJ hit hkk (Or.inl hmk)
        have hcc : bj - b = cu := by omega
        exact q_vret hx hb hr hlocks hW hS ⟨waj, noj, prj, (by rw [hfin]; exact hKj), hsj, hpj, hnj, hfj⟩ (by show cu ≤ 1 + ((k_again D (bS L) hd (v, b, w)).2.1 - b); rw [hfin]; show cu ≤ 1 + (bj - b); omega) (by show su ≤ 20 * (1 + ((k_again D (bS L) hd (v, b, w)).2.1 - b)); rw [hfin]; show su ≤ 20 * (1 + (bj - b)); omega) dX15_carryOut_442
      · have hmk : kk < m9 := Nat.lt_of_not_le (fun h9 => c_371 ((hm8 kk (by omega)).mpr h9))
        refine lv_aload_n hx hb dX15_carryOut_374 rfl (lv_at hl 0 rfl) ?_
        refine q_get hx hb hts hown hA hW iX15 hk0j rfl 10 (by decide) (hts (.fieldLink RX15 62 "HighRecipesLaw$Kitchen" "begun" "I") (by decide +kernel)) (fun _ h9 => h9) (v := .int (nI bj)) rfl dX15_carryOut_375 ?_
        refine lv_bipush (v := 100) hx hb dX15_carryOut_378 (by decide) ?_
        refine lv_icmp_ge (tgt := 405) hx hb dX15_carryOut_380 (by decide) (fun c_380 => ?_) (fun c_380 => ?_)
        · have hb100 : bj = 100 := by have h8 := q_leN (a := 100) (b := bj) (by decide) c_380 (by omega); omega
          refine lv_goto (tgt := 442) hx hb dX15_carryOut_405 (by decide) ?_
          have hfin : k_again D (bS L) hd (v, b, w) = (vj, bj, wj) := again_end hJ hit hkk (Or.inr (Or.inl hb100))
          have hcc : bj - b = cu := by omega
          exact q_vret hx hb hr hlocks hW hS ⟨waj, noj, prj, (by rw [hfin]; exact hKj), hsj, hpj, hnj, hfj⟩ (by show cu ≤ 1 + ((k_again D (bS L) hd (v, b, w)).2.1 - b); rw [hfin]; show cu ≤ 1 + (bj - b); omega) (by show su ≤ 20 * (1 + ((k_again D (bS L) hd (v, b, w)).2.1 - b)); rw [hfin]; show su ≤ 20 * (1 + (bj - b)); omega) dX15_carryOut_442
        · have hb100 : bj < 100 := q_gtn (a := 100) (b := bj) (by decide) c_380 (by omega)
          refine lv_aload_n hx hb dX15_carryOut_383 rfl (lv_at hl 1 rfl) ?_
          refine q_get hx hb hts hown hA hW iX13 h0j rfl 6 (by decide) (hts (.fieldLink RX15 116 "HighRecipesLaw$Act" "block" "[LHighRecipesLaw$Act;") (by decide +kernel)) (fun _ h9 => h9) (v := .ref bk) rfl dX15_carryOut_384 ?_
          refine q_alen hx hb hA hW 6 rfl hbkj (v := nI L.length) rfl dX15_carryOut_387 ?_
          refine lv_if_le (tgt := 405) hx hb dX15_carryOut_388 (by decide) (fun c_388 => ?_) (fun c_388 => ?_)
          · have hL0 : L = [] := List.eq_nil_of_length_eq_zero (by have h8 := q_leN (a := L.length) (b := 0) (by omega) c_388 (by decide); omega)
            refine lv_goto (tgt := 442) hx hb dX15_carryOut_405 (by decide) ?_
            have hfin : k_again D (bS L) hd (v, b, w) = (vj, bj, wj) := again_end hJ hit hkk (Or.inr (Or.inr hL0))
            have hcc : bj - b = cu := by omega
            exact q_vret hx hb hr hlocks hW hS ⟨waj, noj, prj, (by rw [hfin]; exact hKj), hsj, hpj, hnj, hfj⟩ (by show cu ≤ 1 + ((k_again D (bS L) hd (v, b, w)).2.1 - b); rw [hfin]; show cu ≤ 1 + (bj - b); omega) (by show su ≤ 20 * (1 + ((k_again D (bS L) hd (v, b, w)).2.1 - b)); rw [hfin]; show su ≤ 20 * (1 + (bj - b)); omega) dX15_carryOut_442
          · have hL0 : 0 < L.length := q_gtn (a := L.length) (b := 0) (by omega) c_388 (by decide)
            have hinc : kk + 1 ≤ (bS L hd (vj, bj, wj)).2.1 := bS_inc (LB.goods (RCS.good hRj) hLj) hB hIj hvj hL0 hb100 hkb
            have hG := hgd B hd (vj, bj, wj) hB hIj hvj
            have hG2 : bj ≤ (bS L hd (vj, bj, wj)).2.1 := hG.2.2
            have htl : (bS L hd (vj, bj, wj)).2.1 ≤ (k_again D (bS L) hd (v, b, w)).2.1 := again_le hgd hB hI hv hJ hit hkk hmk (by omega)
            refine lv_aload_n hx hb dX15_carryOut_391 rfl (lv_at hl 0 rfl) ?_
            refine lv_aload_n hx hb dX15_carryOut_392 rfl (lv_at hl 1 rfl) ?_
            refine q_get hx hb hts hown hA hW iX13 h0j rfl 6 (by decide) (hts (.fieldLink RX15 116 "HighRecipesLaw$Act" "block" "[LHighRecipesLaw$Act;") (by decide +kernel)) (fun _ h9 => h9) (v := .ref bk) rfl dX15_carryOut_393 ?_
            refine q_cv (va_runV (As := [.ref bk]) (rest := []) ⟨hx, hb, hml, hown, hts⟩ (hX  F nj k pa re ki waj noj prj hd vj bj wj B P bk L NR hKj hsj hpn hvj hB hIj hOj hRj hLj hbc) (cwV 1 hts gX15_carryOut_X15_run rfl rfl rfl (by decide +kernel) ⟨(by show x9 + 1 ≤ x9 + 10; omega), (by show 8 + (6 + 11) + y9 ≤ y9 + 500; omega)⟩) (q_pV hA hW hS (ci := 15) rfl hk0j) rfl rfl hl.1 rfl (lv_room (Nat.le_of_ble_eq_true rfl)) dX15_carryOut_396 ⟨(by show _ ≤ (1 + ((k_again D (bS L) hd (v, b, w)).2.1 - b)); omega), (by show _ ≤ 20 * (1 + ((k_again D (bS L) hd (v, b, w)).2.1 - b)); omega)⟩) hS (fun f_396 n_396 H locs hp hW hS => ?_)
            obtain ⟨wa3, no3, pr3, eK3, es3, ep3, en3, ef3⟩ := hp
            refine lv_iinc (v := nI (kk + 1)) (lv' := [(4, .int (nI (kk + 1))), (0, .ref k), (1, .ref a), (3, .int (D hd v))]) hx hb dX15_carryOut_399 hl (k := 3) rfl (nI_1 kk) (by decide) rfl (fun ls hl => ?_)
            refine lv_goto (tgt := 368) hx hb dX15_carryOut_402 (by decide) ?_
            exact ih f_396 n_396 wa3 no3 pr3 ((bS L hd (vj, bj, wj)).1) ((bS L hd (vj, bj, wj)).2.1) ((bS L hd (vj, bj, wj)).2.2) (kk + 1) (cu + ((bS L hd (vj, bj, wj)).2.1 - bj)) (su + 20 * ((bS L hd (vj, bj, wj)).2.1 - bj)) eK3 es3 (hpj.trans ep3 hnj) (Nat.le_trans hnj en3) (hfj.trans hpj hnj ef3) hG.1 hG.2.1 (by rw [k_iter_s, hit]) (by omega) hinc (by have := hG.2.2; omega) (by omega) (by omega) _ _ _ hW hS (lv_sub hl [1, 2, 3, 0] rfl)
  exact K368 _ f n wa no pr v b w 0 0 0 hK hs PRN.rf (Nat.le_refl _) FRM.rf hI hv rfl (Nat.zero_le _) (Nat.zero_le _) (Nat.zero_add _) rfl (Nat.lt_succ_self _) _ _ _ hW hS (lv_sub hl [3, 4, 1, 0] rfl)

theorem kX13_isSo (l : Launch) (E : q_E) (f : q_H) (n : Nat) (k pa re ki wa no pn : Nat) (pr : Nat → Nat) (hd v : q_V) (b : Nat) (w : Int32) (a sg on ot : Nat) (do_ wh : Int32) (va bl el : Option Nat) (P : Nat → Prop) (C : List CT) (h0 : f a = some (cLA do_ wh va (some sg) (some on) (some ot) bl el)) (hC : CMPS pn P E f sg on ot C) (hC1 : 1 ≤ C.length) (hC2 : C.length ≤ 2) (hpn : pn ≤ 8) (hK : LK E f k pa re ki wa no pn pr hd v b w) : Met l yX13_isSo wsX13_isSo ({ frames := 6, cells := 0, slots := 0, locals := 300 }) (q_P E [.ref a, .ref k] f n) (q_Qi E (fun r f1 n1 => w01 (cC C.reverse hd v) = r ∧ f = f1 ∧ n = n1)) 0 0 (q_ge E) := by
  obtain ⟨gs, go, gt, -, -, -, e1, e2, e3, r⟩ := hC
  rcases C with _ | ⟨x0, _ | ⟨x1, _ | ⟨x2, C⟩⟩⟩
  · exact absurd hC1 (by decide)
  · obtain ⟨s0, ⟨a0, D0, W0⟩, ⟨c0, E0, Y0⟩⟩ := x0
    obtain ⟨q1, q2, q3, q4, q5, q6⟩ := r 0 _ rfl
    rcases (show s0 = 0 ∨ s0 = 1 ∨ s0 = 2 from by have q2 : s0 < 3 := q2; omega) with rfl | rfl | rfl
    · exact kX13_isSo_0 l E f n k pa re ki wa no pn pr hd v b w a sg on ot a0 c0 D0 E0 W0 Y0 do_ wh va bl el P gs go gt h0 e1 e2 e3 q1 q3 q4 q5 q6 hpn hK
    · exact kX13_isSo_1 l E f n k pa re ki wa no pn pr hd v b w a sg on ot a0 c0 D0 E0 W0 Y0 do_ wh va bl el P gs go gt h0 e1 e2 e3 q1 q3 q4 q5 q6 hpn hK
    · exact kX13_isSo_2 l E f n k pa re ki wa no pn pr hd v b w a sg on ot a0 c0 D0 E0 W0 Y0 do_ wh va bl el P gs go gt h0 e1 e2 e3 q1 q3 q4 q5 q6 hpn hK
  · obtain ⟨s0, ⟨a0, D0, W0⟩, ⟨c0, E0, Y0⟩⟩ := x0
    obtain ⟨s1, ⟨a1, D1, W1⟩, ⟨c1, E1, Y1⟩⟩ := x1
    obtain ⟨q1, q2, q3, q4, q5, q6⟩ := r 0 _ rfl
    obtain ⟨p1, p2, p3, p4, p5, p6⟩ := r 1 _ rfl
    rcases (show s0 = 0 ∨ s0 = 1 ∨ s0 = 2 from by have q2 : s0 < 3 := q2; omega) with rfl | rfl | rfl
    · rcases (show s1 = 0 ∨ s1 = 1 ∨ s1 = 2 from by have p2 : s1 < 3 := p2; omega) with rfl | rfl | rfl
      · exact kX13_isSo_00 l E f n k pa re ki wa no pn pr hd v b w a sg on ot a0 c0 D0 E0 W0 Y0 a1 c1 D1 E1 W1 Y1 do_ wh va bl el P gs go gt h0 e1 e2 e3 q1 q3 q4 q5 q6 p1 p3 p4 p5 p6 hpn hK
      · exact kX13_isSo_01 l E f n k pa re ki wa no pn pr hd v b w a sg on ot a0 c0 D0 E0 W0 Y0 a1 c1 D1 E1 W1 Y1 do_ wh va bl el P gs go gt h0 e1 e2 e3 q1 q3 q4 q5 q6 p1 p3 p4 p5 p6 hpn hK
      · exact kX13_isSo_02 l E f n k pa re ki wa no pn pr hd v b w a sg on ot a0 c0 D0 E0 W0 Y0 a1 c1 D1 E1 W1 Y1 do_ wh va bl el P gs go gt h0 e1 e2 e3 q1 q3 q4 q5 q6 p1 p3 p4 p5 p6 hpn hK
    · rcases (show s1 = 0 ∨ s1 = 1 ∨ s1 = 2 from by have p2 : s1 < 3 := p2; omega) with rfl | rfl | rfl
      · exact kX13_isSo_10 l E f n k pa re ki wa no pn pr hd v b w a sg on ot a0 c0 D0 E0 W0 Y0 a1 c1 D1 E1 W1 Y1 do_ wh va bl el P gs go gt h0 e1 e2 e3 q1 q3 q4 q5 q6 p1 p3 p4 p5 p6 hpn hK
      · exact kX13_isSo_11 l E f n k pa re ki wa no pn pr hd v b w a sg on ot a0 c0 D0 E0 W0 Y0 a1 c1 D1 E1 W1 Y1 do_ wh va bl el P gs go gt h0 e1 e2 e3 q1 q3 q4 q5 q6 p1 p3 p4 p5 p6 hpn hK
      · exact kX13_isSo_12 l E f n k pa re ki wa no pn pr hd v b w a sg on ot a0 c0 D0 E0 W0 Y0 a1 c1 D1 E1 W1 Y1 do_ wh va bl el P gs go gt h0 e1 e2 e3 q1 q3 q4 q5 q6 p1 p3 p4 p5 p6 hpn hK
    · rcases (show s1 = 0 ∨ s1 = 1 ∨ s1 = 2 from by have p2 : s1 < 3 := p2; omega) with rfl | rfl | rfl
      · exact kX13_isSo_20 l E f n k pa re ki wa no pn pr hd v b w a sg on ot a0 c0 D0 E0 W0 Y0 a1 c1 D1 E1 W1 Y1 do_ wh va bl el P gs go gt h0 e1 e2 e3 q1 q3 q4 q5 q6 p1 p3 p4 p5 p6 hpn hK
      · exact kX13_isSo_21 l E f n k pa re ki wa no pn pr hd v b w a sg on ot a0 c0 D0 E0 W0 Y0 a1 c1 D1 E1 W1 Y1 do_ wh va bl el P gs go gt h0 e1 e2 e3 q1 q3 q4 q5 q6 p1 p3 p4 p5 p6 hpn hK
      · exact kX13_isSo_22 l E f n k pa re ki wa no pn pr hd v b w a sg on ot a0 c0 D0 E0 W0 Y0 a1 c1 D1 E1 W1 Y1 do_ wh va bl el P gs go gt h0 e1 e2 e3 q1 q3 q4 q5 q6 p1 p3 p4 p5 p6 hpn hK
  · exact absurd hC2 (by show ¬ C.length + 1 + 1 + 1 ≤ 2; omega)

set_option maxHeartbeats 4000000 in
set_option maxRecDepth 100000 in
theorem kX15_carryOut_9N (l : Launch) (E : q_E) (f : q_H) (n : Nat) (x9 y9 pn R : Nat) (RS : Nat → q_S) (d : Nat) (k pa re ki wa no : Nat) (pr : Nat → Nat) (hd v : q_V) (b : Nat) (w : Int32) (B : Nat) (P : Nat → Prop) (bk : Nat) (L : List LT) (NR : Nat) (a i sg on ot : Nat) (C : List CT) (h0 : f a = some (cLA 9 (nI i) none (some sg) (some on) (some ot) (some bk) none)) (hX : RUNP l E x9 y9 pn R RS d) (hK : LK E f k pa re ki wa no pn pr hd v b w) (hs : LSp ki wa no pn pr) (hpn : pn ≤ 8) (hv : w_ok pn hd v) (hB : B ≤ 2 ^ 29) (hI : k_inv B (v, b, w)) (hO : OFF k pa ki pn pr n P) (hR : RCS E f re NR pn RS P R) (hL : LB P E f (LACT E pn R RS P f d) bk L) (hbc : bC L ≤ 20) (hi : i < pn) (hC : CMPS pn P E f sg on ot C) (hC1 : 1 ≤ C.length) (hC2 : C.length ≤ 2) : Met l yX15_carryOut wsX15_carryOut ({ frames := x9 + 10, cells := (1 + ((k_if (cC C.reverse) (bS L) (k_nil) hd (v, b, w)).2.1 - b)), slots := 20 * (1 + ((k_if (cC C.reverse) (bS L) (k_nil) hd (v, b, w)).2.1 - b)), locals := y9 + 500 }) (q_P E [.ref k, .ref a] f n) (q_Qv E (fun f1 n1 => KB E f f1 n n1 k pa re ki pn pr hd (k_if (cC C.reverse) (bS L) (k_nil) hd (v, b, w)))) (1 + ((k_if (cC C.reverse) (bS L) (k_nil) hd (v, b, w)).2.1 - b)) (20 * (1 + ((k_if (cC C.reverse) (bS L) (k_nil) hd (v, b, w)).2.1 - b))) (q_ge E) := by
  refine Met.ofW (cc := cX15_carryOut) (maxL := 7) (ret := none) (by decide) rfl ?_
  intro p0_ e0_ s0_ m0_ args0_ below0_ meth0_ c0_ s1_ B0_ hml hv
  obtain ⟨rfl, hA, hW⟩ := hv
  have hx := B0_.exec
  have hb := B0_.bytes
  have hr := B0_.returns
  have hts := atoms_spec (ws := wsX15_carryOut) B0_.pre
  have hown : s0_.vm.findClass RX15 = some m0_.cls := findClass_of_methodNamed B0_.named
  have hlocks := B0_.notSynchronized
  have hS : va_S (q_ge E) s0_.heap s0_.heap [] := va_S.rf
  have iX13 : ∀ w ∈ wsX130, w ∈ wsX15_carryOut := by decide +kernel
  have iX15 : ∀ w ∈ wsX150, w ∈ wsX15_carryOut := by decide +kernel
  have hl := lv_entry ([.ref k, .ref a]) (n := 7) (Nat.le_of_ble_eq_true rfl)
  rw [lg_entry_eq]
  generalize (lg_sl ([.ref k, .ref a]) ++ List.replicate (7 - (lg_sl ([.ref k, .ref a])).length) Slot.unset).toArray = ls at hl ⊢
  have hl : lv_has ls 7 [(0, .ref k), (1, .ref a)] := hl
  obtain ⟨hk0, ⟨gk, hki, hkv⟩, ⟨gw, hwa, hwv⟩, ⟨gn, hno, hnv⟩, ⟨gp, hpa, hpv⟩, hrow⟩ := id hK
  have l_k := hW.lt hk0
  have l_ki := hW.lt hki
  have l_wa := hW.lt hwa
  have l_no := hW.lt hno
  have l_pa := hW.lt hpa
  have l_h0 := hW.lt h0
  obtain ⟨gr, hr_i, hg0, hg1, hg2, hg3, hg4⟩ := hrow i hi
  have l_r := hW.lt hr_i
  have hrk := hK.kr hi
  refine lv_aload_n hx hb dX15_carryOut_0 rfl (lv_at hl 1 rfl) ?_
  refine q_get hx hb hts hown hA hW iX13 h0 rfl 0 (by decide) (hts (.fieldLink RX15 81 "HighRecipesLaw$Act" "does" "I") (by decide +kernel)) (fun _ h9 => h9) (v := .int 9) rfl dX15_carryOut_1 ?_
  refine lv_bipush (v := 7) hx hb dX15_carryOut_4 (by decide) ?_
  refine lv_icmp_ne (tgt := 13) hx hb dX15_carryOut_6 (by decide) (fun c_6 => ?_) (fun c_6 => absurd c_6 (by decide))
  refine lv_aload_n hx hb dX15_carryOut_13 rfl (lv_at hl 0 rfl) ?_
  refine q_get hx hb hts hown hA hW iX15 hk0 rfl 4 (by decide) (hts (.fieldLink RX15 18 "HighRecipesLaw$Kitchen" "pans" "[[I") (by decide +kernel)) (fun _ h9 => h9) (v := .ref pa) rfl dX15_carryOut_14 ?_
  refine lv_aload_n hx hb dX15_carryOut_17 rfl (lv_at hl 1 rfl) ?_
  refine q_get hx hb hts hown hA hW iX13 h0 rfl 1 (by decide) (hts (.fieldLink RX15 86 "HighRecipesLaw$Act" "whom" "I") (by decide +kernel)) (fun _ h9 => h9) (v := .int (nI i)) rfl dX15_carryOut_18 ?_
  refine q_aaldA hx hb hA hW 8 rfl hpa (vp_in_nI (by omega) (by omega)) dX15_carryOut_21 ?_
  rw [show gp (nI i).toNatClampNeg = some (pr i) from by rw [nI_clamp (by omega)]; exact hpv i (by omega)]
  refine lv_astore_n (lv' := [(2, .ref (pr i)), (0, .ref k), (1, .ref a)]) hx hb dX15_carryOut_22 rfl hl (by decide) rfl (fun ls hl => ?_)
  refine lv_aload_n hx hb dX15_carryOut_23 rfl (lv_at hl 2 rfl) ?_
  refine q_get hx hb hts hown hA hW iX13 h0 rfl 2 (by decide) (hts (.fieldLink RX15 89 "HighRecipesLaw$Act" "value" "LHighRecipesLaw$Node;") (by decide +kernel)) (fun _ h9 => h9) (v := .null) rfl dX15_carryOut_24 ?_
  refine lv_ifnonnullN hx hb dX15_carryOut_27 ?_
  refine lv_iconst (v := 0) hx hb dX15_carryOut_30 (by decide) ?_
  refine lv_goto (tgt := 42) hx hb dX15_carryOut_31 (by decide) ?_
  refine lv_istore_n (lv' := [(3, .int 0), (2, .ref (pr i)), (0, .ref k), (1, .ref a)]) hx hb dX15_carryOut_42 rfl hl (by decide) rfl (fun ls hl => ?_)
  refine lv_aload_n hx hb dX15_carryOut_43 rfl (lv_at hl 3 rfl) ?_
  refine q_get hx hb hts hown hA hW iX13 h0 rfl 0 (by decide) (hts (.fieldLink RX15 81 "HighRecipesLaw$Act" "does" "I") (by decide +kernel)) (fun _ h9 => h9) (v := .int 9) rfl dX15_carryOut_44 ?_
  refine lv_tableOut (x := 9) (tgt := 408) hx hb dX15_carryOut_47 (by decide) (by decide) ?_
  refine lv_aload_n hx hb dX15_carryOut_408 rfl (lv_at hl 3 rfl) ?_
  refine lv_aload_n hx hb dX15_carryOut_409 rfl (lv_at hl 2 rfl) ?_
  refine q_ci (va_runV (As := [.ref k]) (rest := []) ⟨hx, hb, hml, hown, hts⟩ (kX13_isSo l E f n k pa re ki wa no pn pr hd v b w a sg on ot 9 (nI i) none (some bk) none P C h0 hC hC1 hC2 hpn hK) (cwV 1 hts gX15_carryOut_X13_isSo rfl rfl rfl (by decide +kernel) ⟨(by show 6 + 1 ≤ x9 + 10; omega), (by show 8 + (6 + 11) + 300 ≤ y9 + 500; omega)⟩) (q_pV hA hW hS (ci := 13) rfl h0) rfl rfl hl.1 rfl (lv_room (Nat.le_of_ble_eq_true rfl)) dX15_carryOut_410 ⟨(by show _ ≤ (1 + ((k_if (cC C.reverse) (bS L) (k_nil) hd (v, b, w)).2.1 - b)); omega), (by show _ ≤ 20 * (1 + ((k_if (cC C.reverse) (bS L) (k_nil) hd (v, b, w)).2.1 - b)); omega)⟩) hS (fun r_410 f_410 n_410 H locs hp hW hS => ?_)
  obtain ⟨rfl, rfl, rfl⟩ := hp
  have hW : q_W E (f) n H := hW
  refine lv_if_eq (tgt := 427) hx hb dX15_carryOut_413 (by decide) (fun c_413 => ?_) (fun c_413 => ?_)
  · have hcs : ¬ cC C.reverse hd v = true := fun e => by rw [e] at c_413; exact absurd c_413 (by decide)
    have hfin : k_if (cC C.reverse) (bS L) (k_nil) hd (v, b, w) = k_nil hd (v, b, w) := if_neg hcs
    have hfn : (k_if (cC C.reverse) (bS L) (k_nil) hd (v, b, w)).2.1 = (k_nil hd (v, b, w)).2.1 := by rw [hfin]
    refine lv_aload_n hx hb dX15_carryOut_427 rfl (lv_at hl 3 rfl) ?_
    refine q_get hx hb hts hown hA hW iX13 h0 rfl 7 (by decide) (hts (.fieldLink RX15 123 "HighRecipesLaw$Act" "other" "[LHighRecipesLaw$Act;") (by decide +kernel)) (fun _ h9 => h9) (v := .null) rfl dX15_carryOut_428 ?_
    refine lv_ifnullN (tgt := 442) hx hb dX15_carryOut_431 (by decide) ?_
    exact q_vret hx hb hr hlocks hW hS ⟨wa, no, pr, (by rw [hfin]; exact hK), hs, PRN.rf, (Nat.le_refl _), FRM.rf⟩ (by show _ ≤ (1 + ((k_if (cC C.reverse) (bS L) (k_nil) hd (v, b, w)).2.1 - b)); omega) (by show _ ≤ 20 * (1 + ((k_if (cC C.reverse) (bS L) (k_nil) hd (v, b, w)).2.1 - b)); omega) dX15_carryOut_442
  · have hcs : cC C.reverse hd v = true := by
      by_cases e : cC C.reverse hd v = true
      · exact e
      · exact absurd (show w01 (cC C.reverse hd v) = 0 from if_neg e) c_413
    have hfin : k_if (cC C.reverse) (bS L) (k_nil) hd (v, b, w) = bS L hd (v, b, w) := if_pos hcs
    have hfn : (k_if (cC C.reverse) (bS L) (k_nil) hd (v, b, w)).2.1 = (bS L hd (v, b, w)).2.1 := by rw [hfin]
    refine lv_aload_n hx hb dX15_carryOut_416 rfl (lv_at hl 2 rfl) ?_
    refine lv_aload_n hx hb dX15_carryOut_417 rfl (lv_at hl 3 rfl) ?_
    refine q_get hx hb hts hown hA hW iX13 h0 rfl 6 (by decide) (hts (.fieldLink RX15 116 "HighRecipesLaw$Act" "block" "[LHighRecipesLaw$Act;") (by decide +kernel)) (fun _ h9 => h9) (v := .ref bk) rfl dX15_carryOut_418 ?_
    refine q_cv (va_runV (As := [.ref bk]) (rest := []) ⟨hx, hb, hml, hown, hts⟩ (hX  f n k pa re ki wa no pr hd v b w B P bk L NR hK hs hpn hv hB hI hO hR hL hbc) (cwV 1 hts gX15_carryOut_X15_run rfl rfl rfl (by decide +kernel) ⟨(by show x9 + 1 ≤ x9 + 10; omega), (by show 8 + (6 + 11) + y9 ≤ y9 + 500; omega)⟩) (q_pV hA hW hS (ci := 15) rfl hk0) rfl rfl hl.1 rfl (lv_room (Nat.le_of_ble_eq_true rfl)) dX15_carryOut_421 ⟨(by show _ ≤ (1 + ((k_if (cC C.reverse) (bS L) (k_nil) hd (v, b, w)).2.1 - b)); omega), (by show _ ≤ 20 * (1 + ((k_if (cC C.reverse) (bS L) (k_nil) hd (v, b, w)).2.1 - b)); omega)⟩) hS (fun f_421 n_421 H locs hp hW hS => ?_)
    have eB := hp
    refine lv_goto (tgt := 442) hx hb dX15_carryOut_424 (by decide) ?_
    exact q_vret hx hb hr hlocks hW hS (by rw [hfin]; exact eB) (by show _ ≤ (1 + ((k_if (cC C.reverse) (bS L) (k_nil) hd (v, b, w)).2.1 - b)); omega) (by show _ ≤ 20 * (1 + ((k_if (cC C.reverse) (bS L) (k_nil) hd (v, b, w)).2.1 - b)); omega) dX15_carryOut_442

set_option maxHeartbeats 4000000 in
set_option maxRecDepth 100000 in
theorem kX15_carryOut_9S (l : Launch) (E : q_E) (f : q_H) (n : Nat) (x9 y9 pn R : Nat) (RS : Nat → q_S) (d : Nat) (k pa re ki wa no : Nat) (pr : Nat → Nat) (hd v : q_V) (b : Nat) (w : Int32) (B : Nat) (P : Nat → Prop) (bk : Nat) (L : List LT) (NR : Nat) (a i sg on ot : Nat) (C : List CT) (bk2 : Nat) (L2 : List LT) (h0 : f a = some (cLA 9 (nI i) none (some sg) (some on) (some ot) (some bk) (some bk2))) (hX : RUNP l E x9 y9 pn R RS d) (hK : LK E f k pa re ki wa no pn pr hd v b w) (hs : LSp ki wa no pn pr) (hpn : pn ≤ 8) (hv : w_ok pn hd v) (hB : B ≤ 2 ^ 29) (hI : k_inv B (v, b, w)) (hO : OFF k pa ki pn pr n P) (hR : RCS E f re NR pn RS P R) (hL : LB P E f (LACT E pn R RS P f d) bk L) (hbc : bC L ≤ 20) (hi : i < pn) (hC : CMPS pn P E f sg on ot C) (hC1 : 1 ≤ C.length) (hC2 : C.length ≤ 2) (hL2 : LB P E f (LACT E pn R RS P f d) bk2 L2) (hbc2 : bC L2 ≤ 20) : Met l yX15_carryOut wsX15_carryOut ({ frames := x9 + 10, cells := (1 + ((k_if (cC C.reverse) (bS L) (bS L2) hd (v, b, w)).2.1 - b)), slots := 20 * (1 + ((k_if (cC C.reverse) (bS L) (bS L2) hd (v, b, w)).2.1 - b)), locals := y9 + 500 }) (q_P E [.ref k, .ref a] f n) (q_Qv E (fun f1 n1 => KB E f f1 n n1 k pa re ki pn pr hd (k_if (cC C.reverse) (bS L) (bS L2) hd (v, b, w)))) (1 + ((k_if (cC C.reverse) (bS L) (bS L2) hd (v, b, w)).2.1 - b)) (20 * (1 + ((k_if (cC C.reverse) (bS L) (bS L2) hd (v, b, w)).2.1 - b))) (q_ge E) := by
  refine Met.ofW (cc := cX15_carryOut) (maxL := 7) (ret := none) (by decide) rfl ?_
  intro p0_ e0_ s0_ m0_ args0_ below0_ meth0_ c0_ s1_ B0_ hml hv
  obtain ⟨rfl, hA, hW⟩ := hv
  have hx := B0_.exec
  have hb := B0_.bytes
  have hr := B0_.returns
  have hts := atoms_spec (ws := wsX15_carryOut) B0_.pre
  have hown : s0_.vm.findClass RX15 = some m0_.cls := findClass_of_methodNamed B0_.named
  have hlocks := B0_.notSynchronized
  have hS : va_S (q_ge E) s0_.heap s0_.heap [] := va_S.rf
  have iX13 : ∀ w ∈ wsX130, w ∈ wsX15_carryOut := by decide +kernel
  have iX15 : ∀ w ∈ wsX150, w ∈ wsX15_carryOut := by decide +kernel
  have hl := lv_entry ([.ref k, .ref a]) (n := 7) (Nat.le_of_ble_eq_true rfl)
  rw [lg_entry_eq]
  generalize (lg_sl ([.ref k, .ref a]) ++ List.replicate (7 - (lg_sl ([.ref k, .ref a])).length) Slot.unset).toArray = ls at hl ⊢
  have hl : lv_has ls 7 [(0, .ref k), (1, .ref a)] := hl
  obtain ⟨hk0, ⟨gk, hki, hkv⟩, ⟨gw, hwa, hwv⟩, ⟨gn, hno, hnv⟩, ⟨gp, hpa, hpv⟩, hrow⟩ := id hK
  have l_k := hW.lt hk0
  have l_ki := hW.lt hki
  have l_wa := hW.lt hwa
  have l_no := hW.lt hno
  have l_pa := hW.lt hpa
  have l_h0 := hW.lt h0
  obtain ⟨gr, hr_i, hg0, hg1, hg2, hg3, hg4⟩ := hrow i hi
  have l_r := hW.lt hr_i
  have hrk := hK.kr hi
  refine lv_aload_n hx hb dX15_carryOut_0 rfl (lv_at hl 1 rfl) ?_
  refine q_get hx hb hts hown hA hW iX13 h0 rfl 0 (by decide) (hts (.fieldLink RX15 81 "HighRecipesLaw$Act" "does" "I") (by decide +kernel)) (fun _ h9 => h9) (v := .int 9) rfl dX15_carryOut_1 ?_
  refine lv_bipush (v := 7) hx hb dX15_carryOut_4 (by decide) ?_
  refine lv_icmp_ne (tgt := 13) hx hb dX15_carryOut_6 (by decide) (fun c_6 => ?_) (fun c_6 => absurd c_6 (by decide))
  refine lv_aload_n hx hb dX15_carryOut_13 rfl (lv_at hl 0 rfl) ?_
  refine q_get hx hb hts hown hA hW iX15 hk0 rfl 4 (by decide) (hts (.fieldLink RX15 18 "HighRecipesLaw$Kitchen" "pans" "[[I") (by decide +kernel)) (fun _ h9 => h9) (v := .ref pa) rfl dX15_carryOut_14 ?_
  refine lv_aload_n hx hb dX15_carryOut_17 rfl (lv_at hl 1 rfl) ?_
  refine q_get hx hb hts hown hA hW iX13 h0 rfl 1 (by decide) (hts (.fieldLink RX15 86 "HighRecipesLaw$Act" "whom" "I") (by decide +kernel)) (fun _ h9 => h9) (v := .int (nI i)) rfl dX15_carryOut_18 ?_
  refine q_aaldA hx hb hA hW 8 rfl hpa (vp_in_nI (by omega) (by omega)) dX15_carryOut_21 ?_
  rw [show gp (nI i).toNatClampNeg = some (pr i) from by rw [nI_clamp (by omega)]; exact hpv i (by omega)]
  refine lv_astore_n (lv' := [(2, .ref (pr i)), (0, .ref k), (1, .ref a)]) hx hb dX15_carryOut_22 rfl hl (by decide) rfl (fun ls hl => ?_)
  refine lv_aload_n hx hb dX15_carryOut_23 rfl (lv_at hl 2 rfl) ?_
  refine q_get hx hb hts hown hA hW iX13 h0 rfl 2 (by decide) (hts (.fieldLink RX15 89 "HighRecipesLaw$Act" "value" "LHighRecipesLaw$Node;") (by decide +kernel)) (fun _ h9 => h9) (v := .null) rfl dX15_carryOut_24 ?_
  refine lv_ifnonnullN hx hb dX15_carryOut_27 ?_
  refine lv_iconst (v := 0) hx hb dX15_carryOut_30 (by decide) ?_
  refine lv_goto (tgt := 42) hx hb dX15_carryOut_31 (by decide) ?_
  refine lv_istore_n (lv' := [(3, .int 0), (2, .ref (pr i)), (0, .ref k), (1, .ref a)]) hx hb dX15_carryOut_42 rfl hl (by decide) rfl (fun ls hl => ?_)
  refine lv_aload_n hx hb dX15_carryOut_43 rfl (lv_at hl 3 rfl) ?_
  refine q_get hx hb hts hown hA hW iX13 h0 rfl 0 (by decide) (hts (.fieldLink RX15 81 "HighRecipesLaw$Act" "does" "I") (by decide +kernel)) (fun _ h9 => h9) (v := .int 9) rfl dX15_carryOut_44 ?_
  refine lv_tableOut (x := 9) (tgt := 408) hx hb dX15_carryOut_47 (by decide) (by decide) ?_
  refine lv_aload_n hx hb dX15_carryOut_408 rfl (lv_at hl 3 rfl) ?_
  refine lv_aload_n hx hb dX15_carryOut_409 rfl (lv_at hl 2 rfl) ?_
  refine q_ci (va_runV (As := [.ref k]) (rest := []) ⟨hx, hb, hml, hown, hts⟩ (kX13_isSo l E f n k pa re ki wa no pn pr hd v b w a sg on ot 9 (nI i) none (some bk) (some bk2) P C h0 hC hC1 hC2 hpn hK) (cwV 1 hts gX15_carryOut_X13_isSo rfl rfl rfl (by decide +kernel) ⟨(by show 6 + 1 ≤ x9 + 10; omega), (by show 8 + (6 + 11) + 300 ≤ y9 + 500; omega)⟩) (q_pV hA hW hS (ci := 13) rfl h0) rfl rfl hl.1 rfl (lv_room (Nat.le_of_ble_eq_true rfl)) dX15_carryOut_410 ⟨(by show _ ≤ (1 + ((k_if (cC C.reverse) (bS L) (bS L2) hd (v, b, w)).2.1 - b)); omega), (by show _ ≤ 20 * (1 + ((k_if (cC C.reverse) (bS L) (bS L2) hd (v, b, w)).2.1 - b)); omega)⟩) hS (fun r_410 f_410 n_410 H locs hp hW hS => ?_)
  obtain ⟨rfl, rfl, rfl⟩ := hp
  have hW : q_W E (f) n H := hW
  refine lv_if_eq (tgt := 427) hx hb dX15_carryOut_413 (by decide) (fun c_413 => ?_) (fun c_413 => ?_)
  · have hcs : ¬ cC C.reverse hd v = true := fun e => by rw [e] at c_413; exact absurd c_413 (by decide)
    have hfin : k_if (cC C.reverse) (bS L) (bS L2) hd (v, b, w) = (bS L2) hd (v, b, w) := if_neg hcs
    have hfn : (k_if (cC C.reverse) (bS L) (bS L2) hd (v, b, w)).2.1 = (bS L2 hd (v, b, w)).2.1 := by rw [hfin]
    refine lv_aload_n hx hb dX15_carryOut_427 rfl (lv_at hl 3 rfl) ?_
    refine q_get hx hb hts hown hA hW iX13 h0 rfl 7 (by decide) (hts (.fieldLink RX15 123 "HighRecipesLaw$Act" "other" "[LHighRecipesLaw$Act;") (by decide +kernel)) (fun _ h9 => h9) (v := .ref bk2) rfl dX15_carryOut_428 ?_
    refine lv_ifnull hx hb dX15_carryOut_431 ?_
    refine lv_aload_n hx hb dX15_carryOut_434 rfl (lv_at hl 2 rfl) ?_
    refine lv_aload_n hx hb dX15_carryOut_435 rfl (lv_at hl 3 rfl) ?_
    refine q_get hx hb hts hown hA hW iX13 h0 rfl 7 (by decide) (hts (.fieldLink RX15 123 "HighRecipesLaw$Act" "other" "[LHighRecipesLaw$Act;") (by decide +kernel)) (fun _ h9 => h9) (v := .ref bk2) rfl dX15_carryOut_436 ?_
    refine q_cv (va_runV (As := [.ref bk2]) (rest := []) ⟨hx, hb, hml, hown, hts⟩ (hX  f n k pa re ki wa no pr hd v b w B P bk2 L2 NR hK hs hpn hv hB hI hO hR hL2 hbc2) (cwV 1 hts gX15_carryOut_X15_run rfl rfl rfl (by decide +kernel) ⟨(by show x9 + 1 ≤ x9 + 10; omega), (by show 8 + (6 + 11) + y9 ≤ y9 + 500; omega)⟩) (q_pV hA hW hS (ci := 15) rfl hk0) rfl rfl hl.1 rfl (lv_room (Nat.le_of_ble_eq_true rfl)) dX15_carryOut_439 ⟨(by show _ ≤ (1 + ((k_if (cC C.reverse) (bS L) (bS L2) hd (v, b, w)).2.1 - b)); omega), (by show _ ≤ 20 * (1 + ((k_if (cC C.reverse) (bS L) (bS L2) hd (v, b, w)).2.1 - b)); omega)⟩) hS (fun f_439 n_439 H locs hp hW hS => ?_)
    have eB := hp
    exact q_vret hx hb hr hlocks hW hS (by rw [hfin]; exact eB) (by show _ ≤ (1 + ((k_if (cC C.reverse) (bS L) (bS L2) hd (v, b, w)).2.1 - b)); omega) (by show _ ≤ 20 * (1 + ((k_if (cC C.reverse) (bS L) (bS L2) hd (v, b, w)).2.1 - b)); omega) dX15_carryOut_442
  · have hcs : cC C.reverse hd v = true := by
      by_cases e : cC C.reverse hd v = true
      · exact e
      · exact absurd (show w01 (cC C.reverse hd v) = 0 from if_neg e) c_413
    have hfin : k_if (cC C.reverse) (bS L) (bS L2) hd (v, b, w) = bS L hd (v, b, w) := if_pos hcs
    have hfn : (k_if (cC C.reverse) (bS L) (bS L2) hd (v, b, w)).2.1 = (bS L hd (v, b, w)).2.1 := by rw [hfin]
    refine lv_aload_n hx hb dX15_carryOut_416 rfl (lv_at hl 2 rfl) ?_
    refine lv_aload_n hx hb dX15_carryOut_417 rfl (lv_at hl 3 rfl) ?_
    refine q_get hx hb hts hown hA hW iX13 h0 rfl 6 (by decide) (hts (.fieldLink RX15 116 "HighRecipesLaw$Act" "block" "[LHighRecipesLaw$Act;") (by decide +kernel)) (fun _ h9 => h9) (v := .ref bk) rfl dX15_carryOut_418 ?_
    refine q_cv (va_runV (As := [.ref bk]) (rest := []) ⟨hx, hb, hml, hown, hts⟩ (hX  f n k pa re ki wa no pr hd v b w B P bk L NR hK hs hpn hv hB hI hO hR hL hbc) (cwV 1 hts gX15_carryOut_X15_run rfl rfl rfl (by decide +kernel) ⟨(by show x9 + 1 ≤ x9 + 10; omega), (by show 8 + (6 + 11) + y9 ≤ y9 + 500; omega)⟩) (q_pV hA hW hS (ci := 15) rfl hk0) rfl rfl hl.1 rfl (lv_room (Nat.le_of_ble_eq_true rfl)) dX15_carryOut_421 ⟨(by show _ ≤ (1 + ((k_if (cC C.reverse) (bS L) (bS L2) hd (v, b, w)).2.1 - b)); omega), (by show _ ≤ 20 * (1 + ((k_if (cC C.reverse) (bS L) (bS L2) hd (v, b, w)).2.1 - b)); omega)⟩) hS (fun f_421 n_421 H locs hp hW hS => ?_)
    have eB := hp
    refine lv_goto (tgt := 442) hx hb dX15_carryOut_424 (by decide) ?_
    exact q_vret hx hb hr hlocks hW hS (by rw [hfin]; exact eB) (by show _ ≤ (1 + ((k_if (cC C.reverse) (bS L) (bS L2) hd (v, b, w)).2.1 - b)); omega) (by show _ ≤ 20 * (1 + ((k_if (cC C.reverse) (bS L) (bS L2) hd (v, b, w)).2.1 - b)); omega) dX15_carryOut_442

set_option maxHeartbeats 4000000 in
set_option maxRecDepth 100000 in
theorem kX15_run (l : Launch) (E : q_E) (f : q_H) (n : Nat) (x9 y9 pn R : Nat) (RS : Nat → q_S) (d : Nat) (k pa re ki wa no : Nat) (pr : Nat → Nat) (hd v : q_V) (b : Nat) (w : Int32) (B : Nat) (P : Nat → Prop) (bk : Nat) (L : List LT) (NR : Nat)  (hC : CARP l E x9 y9 pn R RS d) (hK : LK E f k pa re ki wa no pn pr hd v b w) (hs : LSp ki wa no pn pr) (hpn : pn ≤ 8) (hv : w_ok pn hd v) (hB : B ≤ 2 ^ 29) (hI : k_inv B (v, b, w)) (hO : OFF k pa ki pn pr n P) (hR : RCS E f re NR pn RS P R) (hL : LB P E f (LACT E pn R RS P f d) bk L) (hbc : bC L ≤ 20) : Met l yX15_run wsX15_run ({ frames := x9 + 1, cells := ((bS L hd (v, b, w)).2.1 - b), slots := 20 * ((bS L hd (v, b, w)).2.1 - b), locals := y9 + 60 }) (q_P E [.ref k, .ref bk] f n) (q_Qv E (fun f1 n1 => KB E f f1 n n1 k pa re ki pn pr hd (bS L hd (v, b, w)))) ((bS L hd (v, b, w)).2.1 - b) (20 * ((bS L hd (v, b, w)).2.1 - b)) (q_ge E) := by
  refine Met.ofW (cc := cX15_run) (maxL := 6) (ret := none) (by decide) rfl ?_
  intro p0_ e0_ s0_ m0_ args0_ below0_ meth0_ c0_ s1_ B0_ hml hv
  obtain ⟨rfl, hA, hW⟩ := hv
  have hx := B0_.exec
  have hb := B0_.bytes
  have hr := B0_.returns
  have hts := atoms_spec (ws := wsX15_run) B0_.pre
  have hown : s0_.vm.findClass RX15 = some m0_.cls := findClass_of_methodNamed B0_.named
  have hlocks := B0_.notSynchronized
  have hS : va_S (q_ge E) s0_.heap s0_.heap [] := va_S.rf
  have iX15 : ∀ w ∈ wsX150, w ∈ wsX15_run := by decide +kernel
  have hl := lv_entry ([.ref k, .ref bk]) (n := 6) (Nat.le_of_ble_eq_true rfl)
  rw [lg_entry_eq]
  generalize (lg_sl ([.ref k, .ref bk]) ++ List.replicate (6 - (lg_sl ([.ref k, .ref bk])).length) Slot.unset).toArray = ls at hl ⊢
  have hl : lv_has ls 6 [(0, .ref k), (1, .ref bk)] := hl
  obtain ⟨hk0, ⟨gk, hki, hkv⟩, ⟨gw, hwa, hwv⟩, ⟨gn, hno, hnv⟩, ⟨gp, hpa, hpv⟩, hrow⟩ := id hK
  have l_k := hW.lt hk0
  have l_ki := hW.lt hki
  have l_wa := hW.lt hwa
  have l_no := hW.lt hno
  have l_pa := hW.lt hpa
  have hLl : L.length ≤ 20 := Nat.le_trans (bC_len L) hbc
  have hgl := LB.goods (RCS.good hR) hL
  refine lv_aload_n hx hb dX15_run_0 rfl (lv_at hl 1 rfl) ?_
  refine lv_astore_n (lv' := [(2, .ref bk), (0, .ref k), (1, .ref bk)]) hx hb dX15_run_1 rfl hl (by decide) rfl (fun ls hl => ?_)
  refine lv_aload_n hx hb dX15_run_2 rfl (lv_at hl 0 rfl) ?_
  refine q_alen hx hb hA hW 6 rfl hL.2.1 (v := nI L.length) rfl dX15_run_3 ?_
  refine lv_istore_n (lv' := [(3, .int (nI L.length)), (2, .ref bk), (0, .ref k), (1, .ref bk)]) hx hb dX15_run_4 rfl hl (by decide) rfl (fun ls hl => ?_)
  refine lv_iconst (v := 0) hx hb dX15_run_5 (by decide) ?_
  refine lv_istore (lv' := [(4, .int 0), (3, .int (nI L.length)), (2, .ref bk), (0, .ref k), (1, .ref bk)]) hx hb dX15_run_6 hl (by decide) rfl (fun ls hl => ?_)
  have K8 : ∀ (fu : Nat) (F : q_H) (nj waj noj : Nat) (prj : Nat → Nat) (vj : q_V) (bj : Nat) (wj : Int32) (j cu su : Nat) (hKj : LK E F k pa re ki waj noj pn prj hd vj bj wj) (hsj : LSp ki waj noj pn prj) (hpj : PRN pn pr prj n) (hnj : n ≤ nj) (hfj : FRM k pa ki pn pr n f F) (hIj : k_inv B (vj, bj, wj)) (hvj : w_ok pn hd vj) (heq : bS (L.drop j) hd (vj, bj, wj) = bS L hd (v, b, w)) (hj : j ≤ L.length) (hcu : cu + b = bj) (hsu : su = 20 * cu) (hm : L.length - j < fu) (H : Heap) (locs : List Loc) (ls : Array Slot), q_W E (F) nj H → va_S (q_ge E) s0_.heap H locs → lv_has ls 6 [(0, .ref k), (2, .ref bk), (3, .int (nI L.length)), (4, .int (nI j))] → W p0_ l e0_ (headSpec wsX15_run ({ frames := x9 + 1, cells := ((bS L hd (v, b, w)).2.1 - b), slots := 20 * ((bS L hd (v, b, w)).2.1 - b), locals := y9 + 60 })).room s0_ m0_ ([.ref k, .ref bk] : List Value).toArray below0_ meth0_ c0_ H locs cu su (MQ below0_ (q_Qv E (fun f1 n1 => KB E f f1 n n1 k pa re ki pn pr hd (bS L hd (v, b, w)))) ([.ref k, .ref bk] : List Value).toArray s0_ ((bS L hd (v, b, w)).2.1 - b) (20 * ((bS L hd (v, b, w)).2.1 - b)) (q_ge E)) (F0 m0_ 8 ls []) := by
    intro fu
    induction fu with
    | zero =>
      intro F nj waj noj prj vj bj wj j cu su hKj hsj hpj hnj hfj hIj hvj heq hj hcu hsu hm
      exact absurd hm (Nat.not_lt_zero _)
    | succ fu ih =>
      intro F nj waj noj prj vj bj wj j cu su hKj hsj hpj hnj hfj hIj hvj heq hj hcu hsu hm H locs ls hW hS hl
      obtain ⟨hk0j, -⟩ := id hKj
      have hOj := hO.trans hpj hnj
      have hfP := hO.fr hfj
      have hbkj : F bk = some (aQ E 6 L.length (lf L)) := (hfP bk hL.1).2.trans hL.2.1
      have hbj : bj ≤ 100 := hIj.1
      have l_k := hW.lt hk0j
      refine lv_iload hx hb dX15_run_8 (lv_at hl 3 rfl) ?_
      refine lv_iload_n hx hb dX15_run_10 rfl (lv_at hl 2 rfl) ?_
      refine lv_icmp_ge (tgt := 52) hx hb dX15_run_11 (by decide) (fun c_11 => ?_) (fun c_11 => ?_)
      · have hjl : L.length ≤ j := q_leN (by omega) c_11
        have hfin : bS L hd (v, b, w) = (vj, bj, wj) := heq.symm.trans (by rw [List.drop_eq_nil_of_le hjl]; rfl)
        exact q_vret hx hb hr hlocks hW hS ⟨waj, noj, prj, (by rw [hfin]; exact hKj), hsj, hpj, hnj, hfj⟩ (by show cu ≤ (bS L hd (v, b, w)).2.1 - b; rw [hfin]; show cu ≤ bj - b; omega) (by show su ≤ 20 * ((bS L hd (v, b, w)).2.1 - b); rw [hfin]; show su ≤ 20 * (bj - b); omega) dX15_run_52
      · have hjl : j < L.length := q_gtn (by omega) c_11
        obtain ⟨x, T9, hdx, hxm, hlf⟩ := drop_at hjl
        refine lv_aload_n hx hb dX15_run_14 rfl (lv_at hl 1 rfl) ?_
        refine lv_iload hx hb dX15_run_15 (lv_at hl 3 rfl) ?_
        refine q_aald hx hb hA hW 6 rfl hbkj (vp_in_nI hjl (by omega)) dX15_run_17 ?_
        rw [show lf L (nI j).toNatClampNeg = some x.1 from by rw [nI_clamp (by omega)]; exact hlf]
        refine lv_astore (lv' := [(5, .ref x.1), (0, .ref k), (2, .ref bk), (3, .int (nI L.length)), (4, .int (nI j))]) hx hb dX15_run_18 hl (by decide) rfl (fun ls hl => ?_)
        refine lv_aload_n hx hb dX15_run_20 rfl (lv_at hl 1 rfl) ?_
        refine q_get hx hb hts hown hA hW iX15 hk0j rfl 10 (by decide) (hts (.fieldLink RX15 62 "HighRecipesLaw$Kitchen" "begun" "I") (by decide +kernel)) (fun _ h9 => h9) (v := .int (nI bj)) rfl dX15_run_21 ?_
        refine lv_bipush (v := 100) hx hb dX15_run_24 (by decide) ?_
        refine lv_icmp_ne (tgt := 30) hx hb dX15_run_26 (by decide) (fun c_26 => ?_) (fun c_26 => ?_)
        · have hb100 : bj < 100 := by rcases Nat.lt_or_ge bj 100 with h8 | h8; (exact h8); exact absurd (show nI bj = 100 by rw [show bj = 100 by omega]; rfl) c_26
          have hb1 := hIj.one hb100
          obtain ⟨hdx1, hdx2⟩ := hdx
          have hgx := hgl x hxm B hd (vj, bj + 1, wj) hB hb1 hvj
          have hgx3 : bj + 1 ≤ (x.2.1 hd (vj, bj + 1, wj)).2.1 := hgx.2.2
          have heq2 : bS (L.drop (j + 1)) hd (x.2.1 hd (vj, bj + 1, wj)) = bS L hd (v, b, w) := by rw [← heq, hdx1, hdx2]; exact (if_pos hb100).symm
          have hgt : (x.2.1 hd (vj, bj + 1, wj)).2.1 ≤ (bS L hd (v, b, w)).2.1 := by rw [← heq2]; exact (w_gB_list (L.drop (j + 1)) (fun y hy => hgl y (List.mem_of_mem_drop hy)) B hd _ hB hgx.1 hgx.2.1).2.2
          have hfP2 : ∀ q, P q → P q ∧ va_up F k (some (cLK (vj 0) (vj 1) (vj 2) (vj 3) (some pa) (some re) (some ki) (some waj) (some noj) (vj 5) (nI (bj + 1)) wj)) q = f q := fun q hq => ⟨hq, (q_ne (hO q hq).2.1 rfl).trans (hfP q hq).2⟩
          refine lv_aload_n hx hb dX15_run_30 rfl (lv_at hl 1 rfl) ?_
          refine lv_dup hx hb dX15_run_31 rfl ?_
          refine q_get hx hb hts hown hA hW iX15 hk0j rfl 10 (by decide) (hts (.fieldLink RX15 62 "HighRecipesLaw$Kitchen" "begun" "I") (by decide +kernel)) (fun _ h9 => h9) (v := .int (nI bj)) rfl dX15_run_32 ?_
          refine lv_iconst (v := 1) hx hb dX15_run_35 (by decide) ?_
          refine lv_iadd hx hb dX15_run_36 ?_
          rw [nI_1]
          refine q_put hx hb hts hown hA hW hS iX15 tyX15 tyX15_ok nmX15 hk0j rfl 10 (by decide) (hts (.fieldLink RX15 62 "HighRecipesLaw$Kitchen" "begun" "I") (by decide +kernel)) (fun _ h9 => h9) rfl rfl rfl (Nat.le_of_ble_eq_true rfl) dX15_run_37 (fun H locs hW hS => ?_)
          have hW : q_W E (va_up F k (some (cLK (vj 0) (vj 1) (vj 2) (vj 3) (some pa) (some re) (some ki) (some waj) (some noj) (vj 5) (nI (bj + 1)) wj))) nj H := hW
          refine lv_aload_n hx hb dX15_run_40 rfl (lv_at hl 1 rfl) ?_
          refine lv_aload hx hb dX15_run_41 (lv_at hl 0 rfl) ?_
          refine q_cv (va_runV (As := [.ref x.1]) (rest := []) ⟨hx, hb, hml, hown, hts⟩ (hC  (va_up F k (some (cLK (vj 0) (vj 1) (vj 2) (vj 3) (some pa) (some re) (some ki) (some waj) (some noj) (vj 5) (nI (bj + 1)) wj))) nj k pa re ki waj noj prj hd vj (bj + 1) wj B P x NR (LK.head (b' := bj + 1) (w' := wj) hKj (v' := vj) rfl (fun _ _ => rfl)) hsj hpn hvj hB hb1 hOj (RCS.to hfP2 hR) (LACT.to hfP2 (Nat.le_refl _) (fun _ _ => rfl) d x (hL.2.2 x hxm)) (Nat.le_trans (bC_mem hxm) hbc)) (cwV 1 hts gX15_run_X15_carryOut rfl rfl rfl (by decide +kernel) ⟨(by show x9 + 1 ≤ x9 + 1; omega), (by show 8 + (7 + 11) + y9 ≤ y9 + 60; omega)⟩) (q_pV hA hW hS (ci := 15) rfl q_eq) rfl rfl hl.1 rfl (lv_room (Nat.le_of_ble_eq_true rfl)) dX15_run_43 ⟨(by show _ ≤ ((bS L hd (v, b, w)).2.1 - b); omega), (by show _ ≤ 20 * ((bS L hd (v, b, w)).2.1 - b); omega)⟩) hS (fun f_43 n_43 H locs hp hW hS => ?_)
          obtain ⟨wa3, no3, pr3, eK3, es3, ep3, en3, ef3⟩ := hp
          refine lv_iinc (v := nI (j + 1)) (lv' := [(4, .int (nI (j + 1))), (5, .ref x.1), (0, .ref k), (2, .ref bk), (3, .int (nI L.length))]) hx hb dX15_run_46 hl (k := 4) rfl (nI_1 j) (by decide) rfl (fun ls hl => ?_)
          refine lv_goto (tgt := 8) hx hb dX15_run_49 (by decide) ?_
          exact ih f_43 n_43 wa3 no3 pr3 ((x.2.1 hd (vj, bj + 1, wj)).1) ((x.2.1 hd (vj, bj + 1, wj)).2.1) ((x.2.1 hd (vj, bj + 1, wj)).2.2) (j + 1) (cu + (1 + ((x.2.1 hd (vj, bj + 1, wj)).2.1 - (bj + 1)))) (su + 20 * (1 + ((x.2.1 hd (vj, bj + 1, wj)).2.1 - (bj + 1)))) eK3 es3 (hpj.trans ep3 hnj) (Nat.le_trans hnj en3) (hfj.trans hpj hnj (fun z a9 b9 c9 d9 e9 => (ef3 z a9 b9 c9 d9 e9).trans (q_ne a9 rfl))) hgx.1 hgx.2.1 heq2 (by omega) (by omega) (by omega) (by omega) _ _ _ hW hS (lv_sub hl [2, 3, 4, 0] rfl)
        · have hb100 : ¬ bj < 100 := by have h8 := (nI_eq (a := bj) (b := 100) (by omega) (by decide)).mp c_26; omega
          have hfin : bS L hd (v, b, w) = (vj, bj, wj) := heq.symm.trans (bS_full hb100)
          exact q_vret hx hb hr hlocks hW hS ⟨waj, noj, prj, (by rw [hfin]; exact hKj), hsj, hpj, hnj, hfj⟩ (by show cu ≤ (bS L hd (v, b, w)).2.1 - b; rw [hfin]; show cu ≤ bj - b; omega) (by show su ≤ 20 * ((bS L hd (v, b, w)).2.1 - b); rw [hfin]; show su ≤ 20 * (bj - b); omega) dX15_run_29
  exact K8 _ f n wa no pr v b w 0 0 0 hK hs PRN.rf (Nat.le_refl _) FRM.rf hI hv rfl (Nat.zero_le _) (Nat.zero_add _) rfl (Nat.lt_succ_self _) _ _ _ hW hS (lv_sub hl [3, 2, 1, 0] rfl)

theorem CAR_of {l : Launch} {E : q_E} {x9 y9 pn R d : Nat} {RS : Nat → q_S} (h8 : RUNP l E x9 y9 pn R RS d) (h7 : ∀ r, r < R → RUNP l E x9 y9 pn r RS 4) : CARP l E (x9 + 10) (y9 + 500) pn R RS (d + 1) := by
  intro f n k pa re ki wa no pr hd v b w B P x NR hK hs hpn hv hB hI hO hR hX hbx
  obtain ⟨a, S, V, cc⟩ := x
  obtain ⟨hp, do_, wh, va, sg, on, ot, bk, el, e, hc⟩ := hX
  have hp : P a := hp
  have hbx : cc ≤ 20 := hbx
  have e : f a = some (cLA do_ wh va (some sg) (some on) (some ot) (some bk) el) := e
  rcases hc with ⟨t, i, y, D, Wt, a1, a2, rfl, rfl, rfl, rfl, a7, a8, a9⟩ | ⟨i, y, D, Wt, a2, rfl, rfl, rfl, rfl, a7, a8, a9⟩ | ⟨i, y, D, Wt, a2, rfl, rfl, rfl, rfl, a7, a8, a9⟩ | ⟨i, a2, rfl, rfl, rfl, rfl, a8, a9⟩ | ⟨i, y, D, Wt, a2, rfl, rfl, rfl, rfl, a7, a8, a9⟩ | ⟨i, y, D, Wt, a2, rfl, rfl, rfl, rfl, a7, a8, a9⟩ | ⟨r, a2, rfl, rfl, rfl, rfl, a8, a9⟩ | ⟨i, y, D, Wt, L, a2, rfl, rfl, rfl, rfl, a7, a8, a9⟩ | ⟨i, L, C, a2, rfl, rfl, rfl, a6, a7, a8, a9, a10⟩
  · obtain ⟨rfl, -⟩ := Prod.mk.inj a9
    rcases (show t = 0 ∨ t = 1 by omega) with rfl | rfl
    · exact kX15_carryOut_0 l E f n x9 y9 _ k pa re ki wa no pn pr hd v b w B a i y _ _ _ _ _ P D Wt e hK hs a2 hpn hv hB hI a7
    · exact kX15_carryOut_1 l E f n x9 y9 _ k pa re ki wa no pn pr hd v b w B a i y _ _ _ _ _ P D Wt e hK hs a2 hpn hv hB hI a7
  · obtain ⟨rfl, -⟩ := Prod.mk.inj a9
    exact kX15_carryOut_2 l E f n x9 y9 _ k pa re ki wa no pn pr hd v b w B a i y _ _ _ _ _ P D Wt e hK hs a2 hpn hv hB hI a7
  · obtain ⟨rfl, -⟩ := Prod.mk.inj a9
    exact kX15_carryOut_3 l E f n x9 y9 _ k pa re ki wa no pn pr hd v b w B a i y _ _ _ _ _ P D Wt e hK hs a2 hpn hv hB hI a7
  · obtain ⟨rfl, -⟩ := Prod.mk.inj a9
    exact kX15_carryOut_4 l E f n x9 y9 _ k pa re ki wa no pn pr hd v b w B a i _ _ _ _ _ e hK hs a2 hpn hv hB hI
  · obtain ⟨rfl, -⟩ := Prod.mk.inj a9
    exact kX15_carryOut_5 l E f n x9 y9 _ k pa re ki wa no pn pr hd v b w B a i y _ _ _ _ _ P D Wt e hK hs a2 hpn hv hB hI a7
  · obtain ⟨rfl, -⟩ := Prod.mk.inj a9
    exact kX15_carryOut_6 l E f n x9 y9 _ k pa re ki wa no pn pr hd v b w B a i y _ _ _ _ _ P D Wt e hK hs a2 hpn hv hB hI a7
  · obtain ⟨hS1, -⟩ := Prod.mk.inj a9
    obtain ⟨gre, r1, r2, r3, r4, r5⟩ := id hR
    obtain ⟨bk9, L, e1, e2, e3, e4⟩ := r5 r a2
    have hS2 : S = bS L := hS1.trans e3
    subst hS2
    exact kX15_carryOut_7 l E f n x9 y9 pn RS k pa re ki wa no pr hd v b w B P a r _ _ _ _ _ NR bk9 L gre e (h7 r a2) hK hs hpn hv hB hI.le hO (hR.le (Nat.le_of_lt a2)) e2 e4 r2 e1 (Nat.lt_of_lt_of_le a2 r3) r4
  · obtain ⟨rfl, h9⟩ := Prod.mk.inj a9
    obtain ⟨-, rfl⟩ := Prod.mk.inj h9
    exact kX15_carryOut_8 l E f n x9 y9 pn R RS d k pa re ki wa no pr hd v b w B P a i y _ _ _ _ D Wt NR bk L e h8 hK hs hpn hv hB hI.le hO hR a8 hbx a2 a7 hp
  · rcases a10 with ⟨rfl, a10⟩ | ⟨b2, L2, rfl, c2, c3⟩
    · obtain ⟨rfl, h9⟩ := Prod.mk.inj a10
      obtain ⟨-, rfl⟩ := Prod.mk.inj h9
      exact kX15_carryOut_9N l E f n x9 y9 pn R RS d k pa re ki wa no pr hd v b w B P bk L NR a i sg on ot C e h8 hK hs hpn hv hB hI.le hO hR a9 hbx a2 a8 a6 a7
    · obtain ⟨rfl, h9⟩ := Prod.mk.inj c3
      obtain ⟨-, rfl⟩ := Prod.mk.inj h9
      exact kX15_carryOut_9S l E f n x9 y9 pn R RS d k pa re ki wa no pr hd v b w B P bk L NR a i sg on ot C b2 L2 e h8 hK hs hpn hv hB hI.le hO hR a9 (by omega) a2 a8 a6 a7 c2 (by omega)
theorem RUN_of {l : Launch} {E : q_E} {x9 y9 pn R d : Nat} {RS : Nat → q_S} (h : CARP l E x9 y9 pn R RS d) : RUNP l E (x9 + 1) (y9 + 60) pn R RS d := by
  intro f n k pa re ki wa no pr hd v b w B P bk L NR hK hs hpn hv hB hI hO hR hL hbc
  exact kX15_run l E f n x9 y9 pn R RS d k pa re ki wa no pr hd v b w B P bk L NR h hK hs hpn hv hB hI hO hR hL hbc
theorem RUN_all {l : Launch} {E : q_E} {pn : Nat} {RS : Nat → q_S} : ∀ (R d x9 y9 : Nat), d ≤ 4 → 11 * (d + 5 * R) + 1 ≤ x9 → 560 * (d + 5 * R) + 60 ≤ y9 → RUNP l E x9 y9 pn R RS d := by
  intro R
  induction R using Nat.strongRecOn with
  | _ R ihR =>
    intro d
    induction d with
    | zero =>
      intro x9 y9 _ h1 h2
      obtain ⟨x, rfl⟩ : ∃ x, x9 = x + 1 := ⟨x9 - 1, by omega⟩
      obtain ⟨y, rfl⟩ : ∃ y, y9 = y + 60 := ⟨y9 - 60, by omega⟩
      exact RUN_of (fun f n k pa re ki wa no pr hd v b w B P x NR hK hs hpn hv hB hI hO hR hX hbx => hX.elim)
    | succ d ihd =>
      intro x9 y9 hd4 h1 h2
      obtain ⟨x, rfl⟩ : ∃ x, x9 = x + 10 + 1 := ⟨x9 - 11, by omega⟩
      obtain ⟨y, rfl⟩ : ∃ y, y9 = y + 500 + 60 := ⟨y9 - 560, by omega⟩
      exact RUN_of (CAR_of (ihd x y (by omega) (by omega) (by omega)) (fun r hr => ihR r hr 4 x y (Nat.le_refl _) (by omega) (by omega)))

