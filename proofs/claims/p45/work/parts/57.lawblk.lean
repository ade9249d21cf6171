/-! what the law's recipes mean hangs on nothing but pans and measures -/
theorem LF.dR {pn s k : Nat} {D : q_D} {V : List Int32} (h : LF pn s k D V) : dR pn D := by
  intro hd hd' v v' hr
  rcases h with ⟨-, -, hD, -⟩ | ⟨-, -, hD, -⟩ | ⟨-, -, hk, hD, -⟩
  · rw [hD]
  · rw [hD]
    unfold d_meas
    rw [hr.2.1 0 (by decide), hr.2.1 1 (by decide), hr.2.1 2 (by decide), hr.2.1 3 (by decide)]
  · rw [hD]
    unfold d_cont
    obtain ⟨a0, a1, a2, a3⟩ := hr.2.2 k hk
    rw [a0, a1, a2, a3, hr.1 k hk]
theorem NODE.dR {pn : Nat} {P : Nat → Prop} {f : q_H} : ∀ {d a : Nat} {D : q_D} {V : List Int32}, NODE pn P f d a D V → dR pn D
  | 0, _, _, _, ⟨_, _, _, _, _, _, h⟩ => h.dR
  | _ + 1, _, _, _, Or.inl ⟨_, _, _, _, _, _, h⟩ => h.dR
  | d + 1, _, D, _, Or.inr ⟨_, s, _, _, D1, D2, _, _, _, _, _, n1, n2, hD, _⟩ => by
    intro hd hd' v v' hr
    rw [hD]
    show d_bin (22 + s) (D1 hd v) (D2 hd v) = d_bin (22 + s) (D1 hd' v') (D2 hd' v')
    rw [NODE.dR n1 hd hd' v v' hr, NODE.dR n2 hd hd' v v' hr]
theorem cC_cR {pn : Nat} : ∀ (L : List CT), (∀ x ∈ L, dR pn x.2.1.2.1 ∧ dR pn x.2.2.2.1) → cR pn (cC L)
  | [], _ => fun _ _ _ _ _ => rfl
  | x :: L, h => by
    intro hd hd' v v' hr
    obtain ⟨h1, h2⟩ := h x (List.mem_cons_self ..)
    show (c_cmp (30 + x.1) (x.2.1.2.1 hd v) (x.2.2.2.1 hd v) && cC L hd v) = (c_cmp (30 + x.1) (x.2.1.2.1 hd' v') (x.2.2.2.1 hd' v') && cC L hd' v')
    rw [h1 hd hd' v v' hr, h2 hd hd' v v' hr, cC_cR L (fun y hy => h y (List.mem_cons_of_mem _ hy)) hd hd' v v' hr]
theorem CMPS.all9 {pn : Nat} {P : Nat → Prop} {E : q_E} {f : q_H} {sg on ot : Nat} {L : List CT} (h : CMPS pn P E f sg on ot L) : ∀ y ∈ L, dR pn y.2.1.2.1 ∧ dR pn y.2.2.2.1 := by
  obtain ⟨gs, go, gt, -, -, -, -, -, -, r⟩ := h
  intro y hy
  obtain ⟨j, hj⟩ := List.mem_iff_getElem?.mp hy
  obtain ⟨-, -, -, -, b, c⟩ := r j y hj
  exact ⟨b.dR, c.dR⟩
theorem s_list {pn : Nat} : ∀ (L : List LT), (∀ x ∈ L, s_act pn x.2.1) → s_blk pn (bS L)
  | [], _ => s_nil
  | x :: L, h => s_cons (h x (List.mem_cons_self ..)) (s_list L (fun y hy => h y (List.mem_cons_of_mem _ hy)))
theorem LACT.s {E : q_E} {pn R : Nat} {RS : Nat → q_S} {P : Nat → Prop} {f : q_H} (hRS : ∀ r, r < R → s_blk pn (RS r)) : ∀ (d : Nat) (x : LT), LACT E pn R RS P f d x → s_act pn x.2.1
  | 0, _, r => r.elim
  | d + 1, x, r => by
    obtain ⟨hp, do_, wh, va, sg, on, ot, b, el, e, hc⟩ := r
    have lb := fun b L (z : LB P E f (LACT E pn R RS P f d) b L) => s_list (pn := pn) L (fun y hy => LACT.s hRS d y (z.2.2 y hy))
    rcases hc with ⟨t, i, y, D, W, a1, a2, a3, a4, a5, a6, a7, a8, a9⟩ | ⟨i, y, D, W, a2, a3, a4, a5, a6, a7, a8, a9⟩ | ⟨i, y, D, W, a2, a3, a4, a5, a6, a7, a8, a9⟩ | ⟨i, a2, a3, a4, a5, a6, a8, a9⟩ | ⟨i, y, D, W, a2, a3, a4, a5, a6, a7, a8, a9⟩ | ⟨i, y, D, W, a2, a3, a4, a5, a6, a7, a8, a9⟩ | ⟨i, a2, a3, a4, a5, a6, a8, a9⟩ | ⟨i, y, D, W, L, a2, a3, a4, a5, a6, a7, a8, a9⟩ | ⟨i, L, C, a2, a3, a4, a5, a6, a7, a8, a9, a10⟩
    · rw [a9]; exact s_pour a2 a7.dR
    · rw [a9]; exact s_heat a2 a7.dR
    · rw [a9]; exact s_boil a2 a7.dR
    · rw [a9]; exact s_empty a2
    · rw [a9]; exact s_rest a7.dR
    · rw [a9]; exact s_note a7.dR
    · rw [a9]; exact s_blk_act (hRS i a2)
    · rw [a9]; exact s_again a7.dR (lb b L a8)
    · have hC := cC_cR (pn := pn) C.reverse (fun y hy => CMPS.all9 a8 y (List.mem_reverse.mp hy))
      rcases a10 with ⟨-, a10⟩ | ⟨b2, L2, c1, c2, c3⟩
      · rw [a10]; exact s_if hC (lb b L a9) s_nil
      · rw [c3]; exact s_if hC (lb b L a9) (lb b2 L2 c2)
theorem RCS.s {E : q_E} {f : q_H} {re NR pn : Nat} {RS : Nat → q_S} {P : Nat → Prop} : ∀ {R : Nat}, RCS E f re NR pn RS P R → ∀ r, r < R → s_blk pn (RS r)
  | 0, _, r, hr => absurd hr (Nat.not_lt_zero _)
  | R + 1, h, r, hr => by
    have ih := RCS.s (R := R) (h.le (Nat.le_succ _))
    obtain ⟨g, a, b, c, c2, d⟩ := h
    obtain ⟨b', L, -, e2, e3, -⟩ := d r hr
    rw [e3]
    exact s_list L (fun y hy => LACT.s (fun q hq => ih q (by omega)) 4 y (e2.2.2 y hy))
