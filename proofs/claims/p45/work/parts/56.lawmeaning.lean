/-! what cooking brings: minutes, warnings, the first of them -/
def w_f (T0 : Nat) (s : q_KS) : Prop := (s.2.2 = -1 ∧ k_T s.1 = T0) ∨ ∃ j, s.2.2 = nI j ∧ 1 ≤ j ∧ j ≤ s.2.1 ∧ T0 < k_T s.1
/-- s' is behind s, with no more than c minutes and x warnings between -/
def ev (c x : Nat) (s s' : q_KS) : Prop := s'.2.1 = s.2.1 ∧ (∃ m, m ≤ c ∧ s'.1 3 = s.1 3 + nI m) ∧ (w_sum s.1 → w_sum s'.1) ∧ (∀ T0, 1 ≤ s.2.1 → s.2.1 ≤ 100 → w_f T0 s → w_f T0 s') ∧ k_T s'.1 ≤ k_T s.1 + x
theorem ev.rf {s : q_KS} : ev 0 0 s s := ⟨rfl, ⟨0, Nat.le_refl _, (Int32.add_zero _).symm⟩, id, fun _ _ _ h => h, Nat.le_refl _⟩
theorem ev.trans {c d x y : Nat} {s t u : q_KS} (h1 : ev c x s t) (h2 : ev d y t u) : ev (c + d) (x + y) s u := by
  obtain ⟨a1, ⟨m1, b1, c1⟩, d1, e1, f1⟩ := h1
  obtain ⟨a2, ⟨m2, b2, c2⟩, d2, e2, f2⟩ := h2
  refine ⟨a2.trans a1, ⟨m1 + m2, by omega, ?_⟩, fun h => d2 (d1 h), fun T0 h h9 hf => e2 T0 (by rw [a1]; exact h) (by rw [a1]; exact h9) (e1 T0 h h9 hf), by omega⟩
  rw [c2, c1, Int32.add_assoc, nI_add]
theorem ev.le {c d x y : Nat} {s t : q_KS} (h : ev c x s t) (hc : c ≤ d) (hx : x ≤ y) : ev d y s t := by
  obtain ⟨a1, ⟨m1, b1, c1⟩, d1, e1, f1⟩ := h
  exact ⟨a1, ⟨m1, Nat.le_trans b1 hc, c1⟩, d1, e1, by omega⟩
theorem ev.row {v v' : q_V} {b : Nat} {w : Int32} (h3 : v' 3 = v 3) (hq : ∀ q, 4 ≤ q → q < 32 → q ≠ 5 → v' q = v q) : ev 0 0 (v, b, w) (v', b, w) := by
  have eT : k_T v' = k_T v := by unfold k_T; rw [hq 4 (by decide) (by decide) (by decide)]
  refine ⟨rfl, ⟨0, Nat.le_refl _, ?_⟩, fun h => w_sum.same h hq, fun T0 _ _ h => ?_, Nat.le_of_eq eT⟩
  · show v' 3 = v 3 + nI 0
    rw [h3]
    exact (Int32.add_zero _).symm
  · unfold w_f at h ⊢
    show (w = -1 ∧ k_T v' = T0) ∨ ∃ j, w = nI j ∧ 1 ≤ j ∧ j ≤ b ∧ T0 < k_T v'
    rw [eT]
    exact h
theorem ev.pan {v : q_V} {b i : Nat} {w x1 x2 x3 x4 : Int32} : ev 0 0 (v, b, w) (z_pan v i x1 x2 x3 x4, b, w) := ev.row (z_pan_n (by omega)) (fun q h1 h2 _ => z_pan_n (by omega))
theorem ev.fill {hd v : q_V} {b i : Nat} {w bb x : Int32} : ev 0 0 (v, b, w) (z_fillv hd v i bb x, b, w) := ev.row (z_fillv_n (by omega)) (fun q h1 h2 _ => z_fillv_n (by omega))
theorem ev.warn {s : q_KS} {kd : Nat} (h1 : 1 ≤ kd) (h5 : kd ≤ 5) (hT : k_T s.1 < 2 ^ 30) (hv : s.1 4 = nI (k_T s.1)) : ev 0 1 s (k_warn kd s) := by
  have eT : k_T (k_warn kd s).1 = k_T s.1 + 1 := by
    show (z_warn s.1 (k_T s.1) kd 4).toNatClampNeg = _
    rw [z_warn_4, nI_1]
    exact nI_clamp (by omega)
  refine ⟨rfl, ⟨0, Nat.le_refl _, ?_⟩, fun h => h.warn h1 h5 hT hv, fun T0 hb1 hb2 h => ?_, Nat.le_of_eq eT⟩
  · show z_warn s.1 (k_T s.1) kd 3 = _
    rw [z_warn_lo (by omega) (by omega)]
    exact (Int32.add_zero _).symm
  · unfold w_f at h ⊢
    rw [eT]
    show ((if s.2.2 < 0 then nI s.2.1 else s.2.2) = -1 ∧ _) ∨ ∃ j, (if s.2.2 < 0 then nI s.2.1 else s.2.2) = nI j ∧ 1 ≤ j ∧ j ≤ s.2.1 ∧ _
    rcases h with ⟨e1, e2⟩ | ⟨j, e1, e2, e3, e4⟩
    · rw [e1, if_pos (by decide)]
      exact Or.inr ⟨s.2.1, rfl, hb1, Nat.le_refl _, by omega⟩
    · rw [e1, if_neg (nI_pos (by omega))]
      exact Or.inr ⟨j, rfl, e2, e3, by omega⟩
theorem ev.pass {pn c but : Nat} {s : q_KS} : ev c 0 s (k_pass pn (nI c) but s) := by
  have eT : k_T (k_pass pn (nI c) but s).1 = k_T s.1 := by
    show (z_pass s.1 (nI c) but pn 4).toNatClampNeg = _
    rw [z_pass_lo (by decide) (by decide)]
    rfl
  refine ⟨rfl, ⟨c, Nat.le_refl _, (by show z_pass s.1 (nI c) but pn 3 = _; unfold z_pass; exact if_pos rfl)⟩, fun h => w_sum.same h (fun q h1 h2 _ => z_pass_lo (by omega) (by omega)), fun T0 _ _ h => ?_, Nat.le_of_eq eT⟩
  unfold w_f at h ⊢
  rw [eT]
  exact h
/-- an act: minutes, warnings, the first -/
def w_e (pn : Nat) (S : q_S) : Prop := ∀ (B : Nat) (hd : q_V) (s : q_KS), B ≤ 2 ^ 29 → k_inv1 B s → w_ok pn hd s.1 → ev 2100 1 s (S hd s)
theorem w_e_pour {pn i : Nat} {b : Int32} {D : q_D} (hi : i < pn) : w_e pn (k_pour pn i b D) := by
  intro B hd s hB h hv
  have hT := (h.le.T hB).1
  obtain ⟨se, hse1, hse, hv1⟩ := id hv.2.1
  obtain ⟨sp, hsp1, hsp, hv2⟩ := id hv.2.2.1
  obtain ⟨c, hc, hcx⟩ := tr_nI hv1 hv2 hse hsp1 hsp (D hd s.1)
  have eT : k_T (z_fillv hd s.1 i b (nI c)) = k_T s.1 := by unfold k_T; rw [z_fillv_n (by omega)]
  refine ev.le (ev.trans (c := 0) (x := 1) ?_ (ev.pass (pn := pn) (c := 1) (but := i))) (by decide) (by decide)
  rw [hcx]
  unfold k_pour2
  split
  · exact ev.trans (c := 0) (d := 0) (ev.fill (bb := b) (x := nI c)) (ev.warn (s := (z_fillv hd s.1 i b (nI c), s.2.1, s.2.2)) (by decide) (by decide) (by show k_T (z_fillv hd s.1 i b (nI c)) < _; rw [eT]; exact hT) (by show z_fillv hd s.1 i b (nI c) 4 = nI (k_T (z_fillv hd s.1 i b (nI c))); rw [eT, z_fillv_n (by omega)]; exact hv.2.2.2.1.1))
  · exact ev.fill.le (by decide) (by decide)
theorem w_e_heat {pn i : Nat} {D : q_D} (hi : i < pn) : w_e pn (k_heat pn i D) := by
  intro B hd s hB h hv
  have hT := (h.le.T hB).1
  have h4 := hv.2.2.2.1.1
  unfold k_heat
  split
  · exact (ev.warn (by decide) (by decide) hT h4).le (by decide) (by decide)
  · unfold k_heat1
    obtain ⟨al, hal, hv0⟩ := id hv.1
    obtain ⟨x, a, m, t, d, e1, e2, e3, e4, e5, b1, b2, b3, b4, b5, b6⟩ := id (hv.2.2.2.2 i hi)
    have key : ∀ s' : q_KS, s'.1 (54 + 4 * i) = nI t → ev 2100 0 s' (k_heat2 pn i (q_min (D hd s.1) (z_boil (s.1 0))) s') := by
      intro s' e54
      unfold k_heat2
      split
      · next hlt =>
        rw [e54, hv0, boil_nI hal] at hlt
        obtain ⟨u, hu1, hu2, hue⟩ := to_nI (by omega) b4 hlt
        rw [hv0, boil_nI hal, hue, e54, ht_nI hu1 (by omega)]
        exact (ev.trans (c := 0) ev.pan ev.pass).le (by omega) (by decide)
      · exact ev.rf.le (by decide) (by decide)
    have hw2 : (k_warn 2 s).1 (54 + 4 * i) = nI t := (kw_lo (kd := 2) (s := s) (q := 54 + 4 * i) (by decide) (by omega)).trans e4
    by_cases hc9 : z_boil (s.1 0) < D hd s.1
    · rw [if_pos hc9]
      exact (ev.trans (c := 0) (ev.warn (by decide) (by decide) hT h4) (key (k_warn 2 s) hw2)).le (by decide) (by decide)
    · rw [if_neg hc9]
      exact (key s e4).le (by decide) (by decide)
theorem w_e_boil {pn i : Nat} {D : q_D} (hi : i < pn) : w_e pn (k_boil pn i D) := by
  intro B hd s hB h hv
  have hT := (h.le.T hB).1
  have h4 := hv.2.2.2.1.1
  unfold k_boil
  split
  · exact (ev.warn (by decide) (by decide) hT h4).le (by decide) (by decide)
  · obtain ⟨al, hal, hv0⟩ := id hv.1
    obtain ⟨h9, hh9, hxh⟩ := clamp_nI (D hd s.1)
    obtain ⟨q, hq, hqe⟩ := lg_nI hh9 hal
    obtain ⟨x, a, m, t, d, e1, e2, e3, e4, e5, b1, b2, b3, b4, b5, b6⟩ := id (hv.2.2.2.2 i hi)
    rw [hxh, hv0, hqe]
    unfold k_boil2
    rw [e2, bl_min (by omega) (by omega)]
    have key : ∀ u : q_KS, ev 2100 0 u (k_boil3 pn i (nI (min q (5 * a))) u) := fun u => (ev.trans (c := 0) (s := u) ev.pan ev.pass).le (by omega) (by decide)
    by_cases hc9 : 5 * nI a < nI q
    · rw [if_pos hc9]
      exact (ev.trans (c := 0) (ev.warn (by decide) (by decide) hT h4) (key (k_warn 5 s))).le (by decide) (by decide)
    · rw [if_neg hc9]
      exact (key s).le (by decide) (by decide)
theorem w_e_empty {pn i : Nat} : w_e pn (k_empty pn i) := fun _ _ s _ _ _ => (ev.trans (c := 0) (s := s) ev.pan (ev.pass (c := 1))).le (by decide) (by decide)
theorem w_e_rest {pn : Nat} {D : q_D} : w_e pn (k_rest pn D) := by
  intro B hd s hB h hv
  obtain ⟨h6, hh6, hx6⟩ := clamp_600 (D hd s.1)
  show ev 2100 1 s (k_pass pn (q_clamp (D hd s.1) 0 600) 8 s)
  rw [hx6]
  exact ev.pass.le (by omega) (by decide)
theorem w_e_note {pn : Nat} {D : q_D} : w_e pn (k_note D) := by
  intro B hd s hB h hv
  have hm : k_N s.1 % 20 < 20 := Nat.mod_lt _ (by decide)
  exact (ev.row (v := s.1) (v' := z_note s.1 (k_N s.1) (D hd s.1)) (by unfold z_note; rw [z_un (by omega), z_un (by omega)]) (fun q h1 h2 h3 => by unfold z_note; rw [z_un (by omega), z_un (by omega)])).le (by decide) (by decide)
/-- a block: as many minutes as acts that it begins; and the first that warns is one of them -/
def ev2 (s s' : q_KS) : Prop := s.2.1 ≤ s'.2.1 ∧ (∃ m, m ≤ 2100 * (s'.2.1 - s.2.1) ∧ s'.1 3 = s.1 3 + nI m) ∧ (w_sum s.1 → w_sum s'.1) ∧ (∀ T0, w_f T0 s → w_f T0 s') ∧ k_T s'.1 ≤ k_T s.1 + (s'.2.1 - s.2.1)
theorem ev2.rf {s : q_KS} : ev2 s s := ⟨Nat.le_refl _, ⟨0, Nat.zero_le _, (Int32.add_zero _).symm⟩, id, fun _ h => h, Nat.le_add_right _ _⟩
theorem ev2.trans {s t u : q_KS} (h1 : ev2 s t) (h2 : ev2 t u) : ev2 s u := by
  obtain ⟨a1, ⟨m1, b1, c1⟩, d1, e1, f1⟩ := h1
  obtain ⟨a2, ⟨m2, b2, c2⟩, d2, e2, f2⟩ := h2
  refine ⟨Nat.le_trans a1 a2, ⟨m1 + m2, by omega, ?_⟩, fun h => d2 (d1 h), fun T0 hf => e2 T0 (e1 T0 hf), by omega⟩
  rw [c2, c1, Int32.add_assoc, nI_add]
def w_b (pn : Nat) (S : q_S) : Prop := ∀ (B : Nat) (hd : q_V) (s : q_KS), B ≤ 2 ^ 29 → k_inv B s → w_ok pn hd s.1 → ev2 s (S hd s)
/-- an act behind its count: of its own no more than 2100 minutes -/
def w_a (pn : Nat) (S : q_S) : Prop := ∀ (B : Nat) (hd : q_V) (s : q_KS), B ≤ 2 ^ 29 → k_inv1 B s → 1 ≤ s.2.1 → w_ok pn hd s.1 → s.2.1 ≤ (S hd s).2.1 ∧ (∃ m, m ≤ 2100 * (1 + ((S hd s).2.1 - s.2.1)) ∧ (S hd s).1 3 = s.1 3 + nI m) ∧ (w_sum s.1 → w_sum (S hd s).1) ∧ (∀ T0, w_f T0 s → w_f T0 (S hd s)) ∧ k_T (S hd s).1 ≤ k_T s.1 + (1 + ((S hd s).2.1 - s.2.1))
theorem w_e.a {pn : Nat} {S : q_S} (h : w_e pn S) : w_a pn S := fun B hd s hB hI h1 hv => by
  obtain ⟨a, ⟨m, b, c⟩, d, e, f⟩ := h B hd s hB hI hv
  exact ⟨Nat.le_of_eq a.symm, ⟨m, by omega, c⟩, d, fun T0 hf => e T0 h1 hI.1 hf, by omega⟩
theorem w_b.a {pn : Nat} {S : q_S} (h : w_b pn S) : w_a pn S := fun B hd s hB hI _ hv => by
  obtain ⟨a, ⟨m, b, c⟩, d, e, f⟩ := h B hd s hB hI.le hv
  exact ⟨a, ⟨m, by omega, c⟩, d, e, by omega⟩
theorem w_b_cons {pn : Nat} {S1 S2 : q_S} (g1 : w_g pn S1) (h1 : w_a pn S1) (h2 : w_b pn S2) : w_b pn (k_cons S1 S2) := by
  intro B hd s hB h hv
  unfold k_cons
  split
  · next hb =>
    obtain ⟨a, b, c⟩ := g1 B hd (s.1, s.2.1 + 1, s.2.2) hB (h.one hb) hv
    obtain ⟨a1, ⟨m, b1, c1⟩, d1, e1, f1⟩ := h1 B hd (s.1, s.2.1 + 1, s.2.2) hB (h.one hb) (Nat.le_add_left _ _) hv
    have a1 : s.2.1 + 1 ≤ (S1 hd (s.1, s.2.1 + 1, s.2.2)).2.1 := a1
    have b1 : m ≤ 2100 * (1 + ((S1 hd (s.1, s.2.1 + 1, s.2.2)).2.1 - (s.2.1 + 1))) := b1
    have f1 : k_T (S1 hd (s.1, s.2.1 + 1, s.2.2)).1 ≤ k_T s.1 + (1 + ((S1 hd (s.1, s.2.1 + 1, s.2.2)).2.1 - (s.2.1 + 1))) := f1
    refine ev2.trans (t := S1 hd (s.1, s.2.1 + 1, s.2.2)) ⟨by omega, ⟨m, by omega, c1⟩, d1, fun T0 hf => e1 T0 ?_, by show k_T _ ≤ k_T s.1 + (_ - s.2.1); omega⟩ (h2 B hd _ hB a b)
    rcases hf with hf | ⟨j, f1, f2, f3, f4⟩
    · exact Or.inl hf
    · exact Or.inr ⟨j, f1, f2, Nat.le_succ_of_le f3, f4⟩
  · exact ev2.rf
theorem w_b_list {pn : Nat} : ∀ (L : List LT), (∀ x ∈ L, w_g pn x.2.1 ∧ w_a pn x.2.1) → w_b pn (bS L)
  | [], _ => fun _ _ _ _ _ _ => ev2.rf
  | x :: L, h => w_b_cons (h x (List.mem_cons_self ..)).1 (h x (List.mem_cons_self ..)).2 (w_b_list L (fun y hy => h y (List.mem_cons_of_mem _ hy)))
theorem w_b_iter {pn B : Nat} {hd : q_V} {F : q_KS → q_KS} (hF : ∀ s, k_inv B s → w_ok pn hd s.1 → (k_inv B (F s) ∧ w_ok pn hd (F s).1) ∧ ev2 s (F s)) : ∀ (j : Nat) (s : q_KS), k_inv B s → w_ok pn hd s.1 → ev2 s (k_iter F j s)
  | 0, _, _, _ => ev2.rf
  | j + 1, s, h, hv => by
    obtain ⟨⟨a, b⟩, c⟩ := hF s h hv
    exact c.trans (w_b_iter hF j (F s) a b)
theorem w_b_again {pn : Nat} {D : q_D} {S : q_S} (g1 : w_gB pn S) (h1 : w_b pn S) : w_b pn (k_again D S) := fun B hd s hB h hv =>
  w_b_iter (fun s h hv => ⟨⟨(g1 B hd s hB h hv).1, (g1 B hd s hB h hv).2.1⟩, h1 B hd s hB h hv⟩) _ s h hv
theorem w_b_if {pn : Nat} {C : q_V → q_V → Bool} {S1 S2 : q_S} (h1 : w_b pn S1) (h2 : w_b pn S2) : w_b pn (k_if C S1 S2) := by
  intro B hd s hB h hv
  unfold k_if
  split
  · exact h1 B hd s hB h hv
  · exact h2 B hd s hB h hv
theorem LACT.ev {E : q_E} {pn R : Nat} {RS : Nat → q_S} {P : Nat → Prop} {f : q_H} (hRS : ∀ r, r < R → w_gB pn (RS r) ∧ w_b pn (RS r)) : ∀ (d : Nat) (x : LT), LACT E pn R RS P f d x → w_a pn x.2.1
  | 0, _, r => r.elim
  | d + 1, x, r => by
    obtain ⟨hp, do_, wh, va, sg, on, ot, b, el, e, hc⟩ := r
    have lb := fun b L (z : LB P E f (LACT E pn R RS P f d) b L) => w_b_list (pn := pn) L (fun y hy => ⟨LACT.good (fun r hr => (hRS r hr).1) d y (z.2.2 y hy), LACT.ev hRS d y (z.2.2 y hy)⟩)
    have lg := fun b L (z : LB P E f (LACT E pn R RS P f d) b L) => LB.good (fun r hr => (hRS r hr).1) z
    rcases hc with ⟨t, i, y, D, W, a1, a2, a3, a4, a5, a6, a7, a8, a9⟩ | ⟨i, y, D, W, a2, a3, a4, a5, a6, a7, a8, a9⟩ | ⟨i, y, D, W, a2, a3, a4, a5, a6, a7, a8, a9⟩ | ⟨i, a2, a3, a4, a5, a6, a8, a9⟩ | ⟨i, y, D, W, a2, a3, a4, a5, a6, a7, a8, a9⟩ | ⟨i, y, D, W, a2, a3, a4, a5, a6, a7, a8, a9⟩ | ⟨i, a2, a3, a4, a5, a6, a8, a9⟩ | ⟨i, y, D, W, L, a2, a3, a4, a5, a6, a7, a8, a9⟩ | ⟨i, L, C, a2, a3, a4, a5, a6, a7, a8, a9, a10⟩
    · rw [a9]; exact (w_e_pour a2).a
    · rw [a9]; exact (w_e_heat a2).a
    · rw [a9]; exact (w_e_boil a2).a
    · rw [a9]; exact w_e_empty.a
    · rw [a9]; exact w_e_rest.a
    · rw [a9]; exact w_e_note.a
    · rw [a9]; exact (hRS i a2).2.a
    · rw [a9]; exact (w_b_again (lg b L a8) (lb b L a8)).a
    · rcases a10 with ⟨-, a10⟩ | ⟨b2, L2, c1, c2, c3⟩
      · rw [a10]; exact (w_b_if (lb b L a9) (fun _ _ _ _ _ _ => ev2.rf)).a
      · rw [c3]; exact (w_b_if (lb b L a9) (lb b2 L2 c2)).a
theorem RCS.ev {E : q_E} {f : q_H} {re NR pn : Nat} {RS : Nat → q_S} {P : Nat → Prop} : ∀ {R : Nat}, RCS E f re NR pn RS P R → ∀ r, r < R → w_gB pn (RS r) ∧ w_b pn (RS r)
  | 0, _, r, hr => absurd hr (Nat.not_lt_zero _)
  | R + 1, h, r, hr => by
    have ih := RCS.ev (R := R) (h.le (Nat.le_succ _))
    obtain ⟨g, a, b, c, c2, d⟩ := h
    obtain ⟨b', L, -, e2, e3, -⟩ := d r hr
    rw [e3]
    exact ⟨e2.good (fun q hq => (ih q (by omega)).1), w_b_list L (fun y hy => ⟨LACT.good (fun q hq => (ih q (by omega)).1) 4 y (e2.2.2 y hy), LACT.ev (fun q hq => ih q (by omega)) 4 y (e2.2.2 y hy)⟩)⟩
