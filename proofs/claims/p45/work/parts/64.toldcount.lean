/-! how many words are told -/
theorem LF.tok {pn s k : Nat} {D : q_D} {V : List Int32} (h : LF pn s k D V) (hpn : pn ≤ 8) : (lex V).length ≤ 3 := by
  rcases h with ⟨-, hk, -, hV⟩ | ⟨h1, h2, -, hV⟩ | ⟨h1, h2, hk, -, hV⟩
  · rw [hV, lex_num k hk]; exact Nat.le_add_left 1 2
  · rw [hV, (lex_meas s (by omega) h1).1]; exact Nat.le_add_left 1 2
  · rw [hV, lex_app (sr_jn (sr_app (by decide +kernel) (by decide +kernel))), lex_app (sl_jn (by decide +kernel)), (lex_cont s (by omega) h1).1, lex_pT k (by omega), show lex (kt 8) = [(24, 486)] from by decide +kernel]
    exact Nat.le_refl 3
theorem NODE.tok0 {pn : Nat} {P : Nat → Prop} {f : q_H} {a : Nat} {D : q_D} {V : List Int32} (hpn : pn ≤ 8) (h : NODE pn P f 0 a D V) : (lex V).length ≤ 3 := by
  obtain ⟨-, s, k, x, y, -, r⟩ := h
  exact r.tok hpn
theorem NODE.tok1 {pn : Nat} {P : Nat → Prop} {f : q_H} {a : Nat} {D : q_D} {V : List Int32} (hpn : pn ≤ 8) (h : NODE pn P f 1 a D V) : (lex V).length ≤ 9 := by
  rcases h with ⟨-, s, k, x, y, -, r⟩ | ⟨-, s, x, y, D1, D2, V1, V2, h1, h2, -, n1, n2, -, hV⟩
  · exact Nat.le_trans (r.tok hpn) (by decide)
  · obtain ⟨⟨w, hw⟩, -⟩ := lex_sign s (by omega) h1
    have := n1.tok0 hpn
    have := n2.tok0 hpn
    rw [hV, lex_bin h1 h2 hw]
    simp only [List.length_append, List.length_cons, List.length_nil]
    omega
theorem cmp_tok {pn : Nat} {P : Nat → Prop} {f : q_H} {x : CT} (hpn : pn ≤ 8) (h : x.1 < 3 ∧ NODE pn P f 0 x.2.1.1 x.2.1.2.1 x.2.1.2.2 ∧ NODE pn P f 0 x.2.2.1 x.2.2.2.1 x.2.2.2.2) : (lex (cV1 x)).length ≤ 7 := by
  obtain ⟨h1, h2, h3⟩ := h
  obtain ⟨⟨w, hw⟩, -⟩ := lex_cmp x.1 h1
  have := h2.tok0 hpn
  have := h3.tok0 hpn
  rw [lex_cV1 h1 hw]
  simp only [List.length_append, List.length_cons, List.length_nil]
  omega
theorem cmps_tok {pn : Nat} {P : Nat → Prop} {E : q_E} {f : q_H} {sg on ot : Nat} {C : List CT} (hpn : pn ≤ 8) (h : CMPS pn P E f sg on ot C) (h1 : 1 ≤ C.length) (h2 : C.length ≤ 2) : (lex (cV C)).length ≤ 16 := by
  have ha := h.all
  rcases C with _ | ⟨x0, _ | ⟨x1, _ | ⟨x2, C⟩⟩⟩
  · exact absurd h1 (by decide)
  · have := cmp_tok hpn (ha x0 (List.mem_cons_self ..))
    rw [lex_cV, show lex (cVs ([] : List CT)) = [] from rfl]
    simp only [List.length_append, List.length_cons, List.length_nil]
    omega
  · have := cmp_tok hpn (ha x0 (List.mem_cons_self ..))
    have := cmp_tok hpn (ha x1 (List.mem_cons_of_mem _ (List.mem_cons_self ..)))
    rw [lex_cV, lex_cVs, show lex (cVs ([] : List CT)) = [] from rfl]
    simp only [List.length_append, List.length_cons, List.length_nil]
    omega
  · exact absurd h2 (by show ¬ C.length + 1 + 1 + 1 ≤ 2; omega)
theorem bV_tok : ∀ {L : List LT}, (∀ x ∈ L, (lex x.2.2.1).length ≤ 21 * (1 + x.2.2.2) ∧ sr x.2.2.1 = true) → (lex (bV L)).length ≤ 21 * bC L
  | [], _ => Nat.le_refl _
  | x :: L, h => by
    obtain ⟨h1, h2⟩ := h x (List.mem_cons_self ..)
    have h3 := bV_tok (fun y hy => h y (List.mem_cons_of_mem _ hy))
    show (lex (x.2.2.1 ++ bV L)).length ≤ 21 * (1 + x.2.2.2 + bC L)
    rw [lex_app (sr_jn h2), List.length_append]
    omega
theorem bT_tok {L : List LT} (h : ∀ x ∈ L, (lex x.2.2.1).length ≤ 21 * (1 + x.2.2.2) ∧ sr x.2.2.1 = true) : (lex (bT L)).length ≤ 2 + 21 * bC L := by
  have := bV_tok h
  rw [lex_bT]
  simp only [List.length_append, List.length_cons, List.length_nil]
  omega
theorem LACT.tok {E : q_E} {pn R : Nat} {RS : Nat → q_S} {P : Nat → Prop} {f : q_H} (hpn : pn ≤ 8) (hR : R ≤ 6) : ∀ (d : Nat) (x : LT), LACT E pn R RS P f d x → (lex x.2.2.1).length ≤ 21 * (1 + x.2.2.2)
  | 0, _, r => r.elim
  | d + 1, x, r => by
    obtain ⟨-, do_, wh, va, sg, on, ot, b, el, e, hc⟩ := r
    have lb := fun b L (z : LB P E f (LACT E pn R RS P f d) b L) => bT_tok (L := L) (fun y hy => ⟨LACT.tok hpn hR d y (z.2.2 y hy), (z.2.2 y hy).sr⟩)
    rcases hc with ⟨t, i, y, D, W, a1, a2, a3, a4, a5, a6, a7, a8, a9⟩ | ⟨i, y, D, W, a2, a3, a4, a5, a6, a7, a8, a9⟩ | ⟨i, y, D, W, a2, a3, a4, a5, a6, a7, a8, a9⟩ | ⟨i, a2, a3, a4, a5, a6, a8, a9⟩ | ⟨i, y, D, W, a2, a3, a4, a5, a6, a7, a8, a9⟩ | ⟨i, y, D, W, a2, a3, a4, a5, a6, a7, a8, a9⟩ | ⟨i, a2, a3, a4, a5, a6, a8, a9⟩ | ⟨i, y, D, W, L, a2, a3, a4, a5, a6, a7, a8, a9⟩ | ⟨i, L, C, a2, a3, a4, a5, a6, a7, a8, a9, a10⟩
    · have := a7.tok1 hpn
      rw [a9]
      show (lex (kt 6 ++ W ++ kt (11 + 2 * t) ++ pT i ++ kt (12 + 2 * t))).length ≤ 21 * (1 + 0)
      rw [lex_pour a1 (by omega)]
      simp only [List.length_append, List.length_cons, List.length_nil]
      omega
    · have := a7.tok1 hpn
      rw [a9]
      show (lex (kt 15 ++ pT i ++ kt 16 ++ W ++ kt 12)).length ≤ 21 * (1 + 0)
      rw [lex_heat (by omega)]
      simp only [List.length_append, List.length_cons, List.length_nil]
      omega
    · have := a7.tok1 hpn
      rw [a9]
      show (lex (kt 17 ++ pT i ++ kt 18 ++ W ++ kt 19)).length ≤ 21 * (1 + 0)
      rw [lex_boil (by omega)]
      simp only [List.length_append, List.length_cons, List.length_nil]
      omega
    · rw [a9]
      show (lex (kt 20 ++ pT i ++ kt 12)).length ≤ 21 * (1 + 0)
      rw [lex_empty (by omega)]
      exact Nat.le_add_left 3 18
    · have := a7.tok1 hpn
      rw [a9]
      show (lex (kt 21 ++ W ++ kt 22)).length ≤ 21 * (1 + 0)
      rw [lex_rest]
      simp only [List.length_append, List.length_cons, List.length_nil]
      omega
    · have := a7.tok1 hpn
      rw [a9]
      show (lex (kt 23 ++ W ++ kt 12)).length ≤ 21 * (1 + 0)
      rw [lex_note]
      simp only [List.length_append, List.length_cons, List.length_nil]
      omega
    · rw [a9]
      show (lex (kt 24 ++ [nI (97 + i)] ++ kt 12)).length ≤ 21 * (1 + 0)
      rw [lex_cook i (by omega)]
      exact Nat.le_add_left 3 18
    · have := a7.tok1 hpn
      have := lb b L a8
      rw [a9]
      show (lex (kt 25 ++ W ++ bT L)).length ≤ 21 * (1 + bC L)
      rw [lex_again]
      simp only [List.length_append, List.length_cons, List.length_nil]
      omega
    · have := cmps_tok hpn a8 a6 a7
      have := lb b L a9
      rcases a10 with ⟨-, a10⟩ | ⟨b2, L2, -, c2, c3⟩
      · rw [a10]
        show (lex (cV C ++ bT L)).length ≤ 21 * (1 + bC L)
        rw [lex_if1, List.length_append]
        omega
      · have := lb b2 L2 c2
        rw [c3]
        show (lex (cV C ++ bT L ++ kt 28 ++ bT L2)).length ≤ 21 * (1 + (bC L + bC L2))
        rw [lex_if2]
        simp only [List.length_append, List.length_cons, List.length_nil]
        omega
theorem pnT_tok : ∀ (H : List Nat) (p : Nat), (∀ h ∈ H, 1 ≤ h ∧ h ≤ 200) → p + H.length ≤ 8 → (lex (pnT H p)).length = 5 * H.length
  | [], _, _, _ => rfl
  | h :: H, p, hH, hp => by
    have hp : p + (H.length + 1) ≤ 8 := hp
    have := hH h (List.mem_cons_self ..)
    rw [lex_pnT, lex_pnR (by omega) (by omega), List.length_append, pnT_tok H (p + 1) (fun x hx => hH x (List.mem_cons_of_mem _ hx)) (by omega)]
    simp only [List.length_append, List.length_cons, List.length_nil]
    omega
theorem rcT_tok {E : q_E} {P : Nat → Prop} {f : q_H} {pn : Nat} {RS : Nat → q_S} (hpn : pn ≤ 8) : ∀ (C : List (List LT)) (c : Nat), (∀ j L, C[j]? = some L → ∀ x ∈ L, LACT E pn (c + j) RS P f 4 x) → c + C.length ≤ 6 → (lex (rcT C c)).length ≤ 4 * C.length + 21 * rcC C
  | [], _, _, _ => Nat.le_refl _
  | L :: C, c, hC, hc => by
    have hc : c + (C.length + 1) ≤ 6 := hc
    have hA := hC 0 L rfl
    have h1 := bT_tok (L := L) (fun x hx => ⟨LACT.tok hpn (by omega) 4 x (hA x hx), (hA x hx).sr⟩)
    have h2 := rcT_tok hpn C (c + 1) (fun j L' h => by rw [Nat.add_right_comm]; exact hC (j + 1) L' h) (by omega)
    rw [lex_rcT, lex_rcR (by omega)]
    show _ ≤ 4 * (C.length + 1) + 21 * (bC L + rcC C)
    simp only [List.length_append, List.length_cons, List.length_nil]
    omega
