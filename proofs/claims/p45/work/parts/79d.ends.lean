/-! from what was drawn and told to class and kitchen side by side; and back -/
theorem sr_pnT : ∀ (H : List Nat) (p : Nat), H ≠ [] → sr (pnT H p) = true
  | [], _, h => absurd rfl h
  | [h], p, _ => by
    show sr (pnR h p ++ []) = true
    rw [List.append_nil]
    exact sr_app (by decide +kernel) (by decide +kernel)
  | h :: h2 :: H, p, _ => by
    have h1 := sr_pnT (h2 :: H) (p + 1) (List.cons_ne_nil _ _)
    refine sr_app (W := pnR h p) h1 ?_
    show pnR h2 (p + 1) ++ pnT H (p + 1 + 1) ≠ []
    unfold pnR
    rw [show kt 0 = 112 :: (kt 0).tail from by decide +kernel]
    exact List.cons_ne_nil _ _
theorem VG.bgn {pn : Nat} {hd v : q_V} (hp : ∀ i, i < pn → ∃ h, h ≤ 200 ∧ hd i = nI h) : VG 100 pn hd (z_bgn v pn) := by
  have e0 : ∀ q, q < 12 → z_bgn v pn q = z_ini q := fun q hq => bgn_0 hq
  have e4 : k_T (z_bgn v pn) = 0 := by unfold k_T; rw [e0 4 (by decide)]; rfl
  have e5 : k_N (z_bgn v pn) = 0 := by unfold k_N; rw [e0 5 (by decide)]; rfl
  refine ⟨⟨⟨0, by decide, e0 0 (by decide)⟩, ⟨4, by decide, by decide, e0 1 (by decide)⟩, ⟨1, by decide, by decide, e0 2 (by decide)⟩, ⟨by rw [e4, e0 4 (by decide)]; rfl, by rw [e5, e0 5 (by decide)]; rfl⟩, fun i hi => ?_⟩, ⟨e0 6 (by decide), ?_, fun j hj hT => ?_⟩, inv_bgn (Nat.le_refl _)⟩
  · obtain ⟨h, hh, e⟩ := hp i hi
    obtain ⟨z1, z2, z3, z4⟩ := z_ini_w i
    refine ⟨h, 0, 0, 20, 0, e, ?_, ?_, ?_, ?_, hh, by omega, by decide, by decide, by decide, fun _ => rfl⟩
    · rw [bgn_p (by omega) (by omega), z1]; rfl
    · rw [bgn_p (by omega) (by omega), z2]; rfl
    · rw [bgn_p (by omega) (by omega), z3]; rfl
    · rw [bgn_p (by omega) (by omega), z4]; rfl
  · rw [e0 4 (by decide), e0 7 (by decide), e0 8 (by decide), e0 9 (by decide), e0 10 (by decide), e0 11 (by decide)]
    decide
  · rw [e4] at hT
    exact absurd hT (Nat.not_lt_zero _)
theorem CM.bd {E : q_E} {a BB : Nat} {f : q_H} {n L : Nat} {g : Nat → Int32} {pn rc : Nat} {ac : Int32} {hd v : q_V} {RS : Nat → q_S} {Q : Nat → Prop} (h : CM E a BB f n L g pn rc ac hd v RS Q) : a + 55 ≤ n := by
  obtain ⟨ep, bk0, et, er0, c0, here0, k0, kk0, po0, wo0, b0, w0, b1, w1, bk, gB, bt, hdt, vt, lo, hi, hF, ⟨p1, p2, p3, p4, p5, p6, p7, p8, p9⟩, hs, hQ⟩ := h
  exact p8
/-- the drawn book tells what it means; and what stands when it is taught -/
theorem DRW.told {E : q_E} {f0 : q_H} {nb n0 k : Nat} {TW : List Int32} (h : DRW E f0 nb n0 k TW) (ho : okb TW) (hlt : ∀ q x, f0 q = some x → q < n0) : ∃ (pn NR ac : Nat) (hd : q_V) (RS : Nat → q_S), TOLD TW pn NR ac hd RS ∧ (∀ i, i < NR → s_blk pn (RS i)) ∧ (pn ≤ 8 ∧ NR ≤ 6 ∧ 1 ≤ pn ∧ pn ≤ 4 ∧ 1 ≤ NR ∧ NR ≤ 3) ∧
    ∀ (a c r m0 n1 : Nat) (s : Int32) (f1 : q_H) (g' : Nat → Int32) (hd' v : q_V) (RS' : Nat → q_S) (Qw : Nat → Prop), CM E a 100 f1 n1 0 g' pn NR (nI ac) hd' (z_bgn v pn) RS' (fun q => (a ≤ q ∧ q < a + 55) ∨ (m0 ≤ q ∧ q < n1)) → (∀ j, j < pn → hd' j = hd j) → (∀ i, i < NR → RS' i = RS i) → (∀ q, (q < a ∨ a + 55 ≤ q) → q < n0 → f1 q = f0 q) → CW E c f1 n1 Qw → (∀ q, Qw q → q < nb ∧ (q < a ∨ a + 55 ≤ q) ∧ q ≠ r) → f1 r = some (cDice s) → (a + 55 ≤ c ∧ c + 55 ≤ r ∧ r < nb ∧ nb ≤ n0 ∧ n0 ≤ m0 ∧ m0 ≤ n1) → JA E a c nb r k s (fun _ => False) f1 n1 100 pn NR (nI ac) hd' (z_bgn v pn) (z_bgn v pn) RS' := by
  obtain ⟨pa, re, ki, wa, no, pn, NR, pr, hd, RS, P, H, C, hK, hs, ⟨p1, p4, hl, hH, hhd⟩, hO, ⟨b1, b2, b3, b4, b5⟩, ⟨gre, hre, hfre, hRC⟩, ⟨N1, N3, hCl, hC14⟩, hTW⟩ := h
  have hRCS := RCI.cs hRC hCl (by omega) hre hfre hC14
  have hRCN := RCI.cn hRC hCl hre hfre hC14
  have hC2 : ∀ j L, C[j]? = some L → (∀ x ∈ L, LACT E H.length j RS P f0 4 x) ∧ RS j = bS L := fun j L hj => by
    obtain ⟨b8, e1, e2, e3⟩ := hRC j L hj
    rw [hl]
    exact ⟨e2.2.2, e3⟩
  have hjn : jn (pnT H 0) (rcT C 0) := sr_jn (sr_pnT H 0 (fun e => by rw [e] at hl; have hl : 0 = pn := hl; omega))
  have htok : (lex TW).length ≤ 400 := by
    have h1 := pnT_tok H 0 hH (by omega)
    have h2 := rcT_tok (E := E) (P := P) (f := f0) (pn := H.length) (RS := RS) (by omega) C 0 (fun j L hj => by rw [Nat.zero_add]; exact (hC2 j L hj).1) (by omega)
    rw [hTW, lex_app hjn, List.length_append]
    omega
  refine ⟨pn, NR, rcC C, fun j => nI (H.getD j 0), RS, ?_, RCS.s hRCS, ⟨by omega, by omega, p1, p4, N1, N3⟩, ?_⟩
  · intro g et n hg
    obtain ⟨hT, hKl⟩ := TOK_all ho hg htok
    rw [hTW] at hT hKl
    obtain ⟨z1, z2, z3, z4, z5, z6⟩ := PBOOK (E := E) (P := P) (f := f0) (et := et) (n := n) (RS := RS) hH (by omega) (by omega) (by omega) hC2 (by omega) hT hKl hjn
    rw [← hTW] at z1 z2 z3 z4 z5 z6
    exact ⟨z1.trans hl, fun j hj => z2 j (by omega), z3.trans hCl, fun r hr => z4 r (by omega), z5, z6⟩
  · intro a c r m0 n1 s f1 g' hd' v RS' Qw hM hh hRR hfr hW hQw hr ⟨o1, o2, o3, o4, o5, o6⟩
    have hb : ∀ q, nb ≤ q → q < n0 → f1 q = f0 q := fun q h1 h2 => hfr q (by omega) h2
    have hs1 := hs.1
    have hs2 := hs.2.1
    have hPf : ∀ q, P q → P q ∧ f1 q = f0 q := fun q hq => ⟨hq, hb q (b5 q hq) (hO q hq).1⟩
    have lk := hlt _ _ hK.1
    obtain ⟨-, ⟨gk, hki, -⟩, -, -, ⟨gp, hpa, -⟩, hrow⟩ := id hK
    have lki := hlt _ _ hki
    have lpa := hlt _ _ hpa
    have lpr : ∀ i, i < pn → pr i < n0 := fun i hi => by obtain ⟨gr, e, -⟩ := hrow i hi; exact hlt _ _ e
    have hK1 := hK.fr (g := f1) (fun q hq hf => hb q (by rcases hq with e | e | e | e | e | ⟨i, hi, e⟩; omega; omega; omega; omega; omega; (have := b4 i hi; omega)) (by obtain ⟨x, e9⟩ := Option.ne_none_iff_exists'.mp hf; exact hlt q x e9))
    have hK2 := hK1.rows (hd' := hd') (v' := z_bgn v pn) (fun i hi => (hh i hi).trans (hhd i hi).symm) (fun q hq => bgn_0 hq) (fun q h1 h2 => bgn_p h1 h2) rfl rfl
    have hvg : VG 100 pn hd' (z_bgn v pn) := VG.bgn (fun i hi => by
      refine ⟨H.getD i 0, ?_, hh i hi⟩
      have hi9 : i < H.length := by omega
      rw [List.getD_eq_getElem?_getD, List.getElem?_eq_getElem hi9]
      exact (hH _ (List.getElem_mem hi9)).2)
    refine ⟨_, Qw, P, pa, re, ki, wa, no, pr, 0, 0, _, _, _, hM, hW, hK2, hs, (hRCS.to hPf).rows hRR, fun q hq => ?_, hr, ⟨b1, b2, b3, b4, b5⟩, ⟨fun q hq => ?_, fun q hq => ?_, fun q hq => ?_⟩, ⟨by omega, o2, o3⟩, hvg, hvg, ⟨p1, p4, N1, N3, rfl⟩, (hRCN.to hPf).rows hRR, ?_⟩
    · rcases hq with h9 | h9 | h9 | h9
      · obtain ⟨z1, z2⟩ := hO q h9
        exact ⟨by omega, z2⟩
      · exact ⟨by omega, by omega, by omega, by omega, fun i hi => by have h8 := lpr i hi; have h7 := b4 i hi; omega⟩
      · have h6 := hQw q h9
        exact ⟨by omega, by omega, by omega, by omega, fun i hi => by have h7 := b4 i hi; omega⟩
      · exact h9.elim
    · rcases hq with h9 | h9
      · omega
      · exact h9.elim
    · rcases hq with h9 | h9
      · exact (hQw q h9).2.1
      · exact h9.elim
    · rcases hq with h9 | h9 | h9
      · omega
      · exact (hQw q h9).2.2
      · exact h9.elim
    · rw [← psum_rc C, hCl]
/-- what stands of the two classes alone -/
def CB (E : q_E) (a c : Nat) (f : q_H) (n : Nat) : Prop := ∃ Qm Qw : Nat → Prop, CW E a f n Qm ∧ CW E c f n Qw ∧ (∀ q, Qm q → q < n ∧ (q < c ∨ c + 55 ≤ q)) ∧ ∀ q, Qw q → q < n ∧ (q < a ∨ a + 55 ≤ q)
theorem JA.cb {E : q_E} {a c nb r k : Nat} {s : Int32} {X : Nat → Prop} {f : q_H} {n BB pn NR : Nat} {ac : Int32} {hd vm vk : q_V} {RS : Nat → q_S} (h : JA E a c nb r k s X f n BB pn NR ac hd vm vk RS) : CB E a c f n := by
  obtain ⟨Qm, Qw, P, pa, re, ki, wa, no, pr, b, w, L, g, cnt, hM, ⟨BBw, gw, pnw, rcw, acw, hdw, vw, RSw, hWm⟩, hK, hs, hR, hO, hr, ⟨n1_, n2_, n3_, n4_, n5_⟩, ⟨x1_, x2_, x3_⟩, ⟨y1_, y2_, y3_⟩, hgm, hgk, ⟨d1_, d2_, d3_, d4_, rfl⟩, hcn, hac⟩ := h
  exact ⟨Qm, Qw, ⟨_, _, _, _, _, _, _, _, hM⟩, ⟨BBw, gw, pnw, rcw, acw, hdw, vw, RSw, hWm⟩, fun q hq => ⟨(hO q (Or.inr (Or.inl hq))).1, x1_ q (Or.inl hq)⟩, fun q hq => ⟨(hO q (Or.inr (Or.inr (Or.inl hq)))).1, x2_ q (Or.inl hq)⟩⟩
/-- the class as it is made -/
theorem cm_init (l : Launch) (E : q_E) (f : q_H) (n a : Nat) (h0 : f a = some (rX12 none none none none none none 0)) (hn : n = a + 1) : Met l yX12_init wsX12_init ({ frames := 3, cells := 54, slots := 3300, locals := 61 }) (q_P E [.ref a] f n) (q_Qv E (fun f1 n1 => CM E a 100 f1 n1 0 (fun _ => 0) 0 0 0 (fun _ => 0) z_ini (fun _ => k_nil) (fun q => a ≤ q ∧ q < a + 55) ∧ n1 = n + 54 ∧ ∀ z9, z9 < a → f1 z9 = f z9)) 54 3300 (q_ge E) := by
  refine met_imp (kX12_init l E f n a h0 hn) (fun ar st o t hq => ?_)
  obtain ⟨⟨u, e, hp, hB⟩, hF⟩ := hq
  obtain ⟨fr, e0, e1, e2, e3, e4, e5, e6, e7, e8, e9, e10, e11, k1, k2, hn1⟩ := hp
  refine ⟨⟨u, e, ⟨⟨-1, a + 8, 0, 0, 0, 0, 39, _, _, _, 0, -1, 0, -1, a + 20, _, a + 41, _, _, a + 55, a + 55, ⟨e0, e1, e2, e3, e4, e5, e6, e7, e10, e11, e8, e9, k1, k2, fun r hr => absurd hr (Nat.not_lt_zero _)⟩, ⟨Nat.zero_le _, Nat.zero_le _, Nat.zero_le _, Or.inl rfl, Nat.le_refl _, by omega, by omega, by omega, k_inv_0 (Nat.le_refl _) rfl rfl⟩, fun i hi => absurd hi (Nat.not_lt_zero _), fun q hq => by omega⟩, by omega, fr⟩, hB⟩, hF⟩
/-- the second text: it boils, or it warns -/
theorem sec_ok {N al w : Nat} {hd v : q_V} (hN : N < 1000) (hal : al ≤ 60) (hw1 : 1 ≤ w) (hw2 : w ≤ 30) (h0 : v 0 = nI al) (h52 : v 52 = nI w) (h53 : v 53 = 0) (h54 : v 54 = nI 20) (h10 : v 10 = 0) : (bS [s1 N, s2] hd (v, 0, (-1))).1 10 = 0 ∧ (bS [s1 N, s2] hd (v, 0, (-1))).1 54 = z_boil ((bS [s1 N, s2] hd (v, 0, (-1))).1 0) ∨ ¬ (bS [s1 N, s2] hd (v, 0, (-1))).1 10 = 0 ∧ ¬ (bS [s1 N, s2] hd (v, 0, (-1))).1 54 = z_boil ((bS [s1 N, s2] hd (v, 0, (-1))).1 0) := by
  have hb : z_boil (nI al) = nI (100 - al / 3) := boil_nI hal
  have zp : ∀ (u : q_V) (mi : Int32) (q : Nat), (q = 0 ∨ q = 10 ∨ q = 52 ∨ q = 53 ∨ q = 54) → z_pass u mi 0 1 q = u q := fun u mi q h1 => by
    unfold z_pass
    rw [if_neg (by omega), if_neg (by omega)]
  -- behind the heating: no warning of the kind 4, the water as it was
  have hH : ∀ s : q_KS, s.1 0 = nI al → s.1 52 = nI w → s.1 53 = 0 → s.1 10 = 0 → (k_heat 1 0 (fun _ _ => nI N) hd s).1 0 = nI al ∧ (k_heat 1 0 (fun _ _ => nI N) hd s).1 52 = nI w ∧ (k_heat 1 0 (fun _ _ => nI N) hd s).1 10 = 0 := by
    intro s a0 a52 a53 a10
    have e9 : k_heat 1 0 (fun _ _ => nI N) hd s = k_heat2 1 0 (q_min (nI N) (z_boil (s.1 0))) (if z_boil (s.1 0) < nI N then k_warn 2 s else s) := by
      show (if s.1 (52 + 4 * 0) + s.1 (53 + 4 * 0) = 0 then k_warn 3 s else k_heat1 1 0 (nI N) s) = _
      rw [show s.1 (52 + 4 * 0) = nI w from a52, show s.1 (53 + 4 * 0) = 0 from a53, Int32.add_zero, if_neg (show ¬ nI w = 0 from nI_ne (b := 0) (by omega) (by decide) (by omega))]
      rfl
    rw [e9]
    have key : ∀ u : q_KS, u.1 0 = nI al → u.1 52 = nI w → u.1 10 = 0 → (k_heat2 1 0 (q_min (nI N) (z_boil (s.1 0))) u).1 0 = nI al ∧ (k_heat2 1 0 (q_min (nI N) (z_boil (s.1 0))) u).1 52 = nI w ∧ (k_heat2 1 0 (q_min (nI N) (z_boil (s.1 0))) u).1 10 = 0 := by
      intro u c0 c52 c10
      have h0' : ∀ mi x1 x2 x3 x4 : Int32, z_pass (z_pan u.1 0 x1 x2 x3 x4) mi 0 1 0 = nI al := fun mi x1 x2 x3 x4 => by
        rw [zp _ _ 0 (by omega), (z_pan_n (by omega) : z_pan u.1 0 x1 x2 x3 x4 0 = u.1 0)]
        exact c0
      have h10' : ∀ mi x1 x2 x3 x4 : Int32, z_pass (z_pan u.1 0 x1 x2 x3 x4) mi 0 1 10 = 0 := fun mi x1 x2 x3 x4 => by
        rw [zp _ _ 10 (by omega), (z_pan_n (by omega) : z_pan u.1 0 x1 x2 x3 x4 10 = u.1 10)]
        exact c10
      have h52' : ∀ mi x2 x3 x4 : Int32, z_pass (z_pan u.1 0 (u.1 (52 + 4 * 0)) x2 x3 x4) mi 0 1 52 = nI w := fun mi x2 x3 x4 => by
        rw [zp _ _ 52 (by omega)]
        exact z_pan_0.trans c52
      generalize hto : q_min (nI N) (z_boil (s.1 0)) = to
      by_cases hc : u.1 (54 + 4 * 0) < to
      · rw [show k_heat2 1 0 to u = k_pass 1 ((to - u.1 (54 + 4 * 0) + 9) / 10) 0 (z_pan u.1 0 (u.1 (52 + 4 * 0)) (u.1 (53 + 4 * 0)) to (u.1 (55 + 4 * 0)), u.2.1, u.2.2) from if_pos hc]
        exact ⟨h0' ((to - u.1 (54 + 4 * 0) + 9) / 10) (u.1 (52 + 4 * 0)) (u.1 (53 + 4 * 0)) to (u.1 (55 + 4 * 0)), h52' ((to - u.1 (54 + 4 * 0) + 9) / 10) (u.1 (53 + 4 * 0)) to (u.1 (55 + 4 * 0)), h10' ((to - u.1 (54 + 4 * 0) + 9) / 10) (u.1 (52 + 4 * 0)) (u.1 (53 + 4 * 0)) to (u.1 (55 + 4 * 0))⟩
      · rw [show k_heat2 1 0 to u = u from if_neg hc]
        exact ⟨c0, c52, c10⟩
    have w0 : (k_warn 2 s).1 0 = nI al := (kw_lo (by decide) (by omega)).trans a0
    have w52 : (k_warn 2 s).1 52 = nI w := (kw_lo (by decide) (by omega)).trans a52
    have w10 : (k_warn 2 s).1 10 = 0 := (kw_10 (by decide)).trans ((if_neg (by decide)).trans a10)
    by_cases hc9 : z_boil (s.1 0) < nI N
    · rw [if_pos hc9]
      exact key (k_warn 2 s) w0 w52 w10
    · rw [if_neg hc9]
      exact key s a0 a52 a10
  have hBo : ∀ s : q_KS, s.1 0 = nI al → s.1 52 = nI w → s.1 10 = 0 → (k_boil 1 0 (fun _ _ => nI 1) hd s).1 10 = 0 ∧ (k_boil 1 0 (fun _ _ => nI 1) hd s).1 54 = z_boil ((k_boil 1 0 (fun _ _ => nI 1) hd s).1 0) ∨ ¬ (k_boil 1 0 (fun _ _ => nI 1) hd s).1 10 = 0 ∧ ¬ (k_boil 1 0 (fun _ _ => nI 1) hd s).1 54 = z_boil ((k_boil 1 0 (fun _ _ => nI 1) hd s).1 0) := by
    intro s a0 a52 a10
    unfold k_boil
    split
    · next h9 =>
      refine Or.inr ⟨?_, ?_⟩
      · rw [(kw_10 (by decide)).trans (if_pos rfl), a10]
        decide
      · rw [kw_lo (kd := 4) (q := 54) (s := s) (by decide) (by omega), kw_lo (kd := 4) (q := 0) (s := s) (by decide) (by omega)]
        rcases h9 with h9 | h9
        · have h9 : s.1 52 = 0 := h9
          rw [a52] at h9
          exact absurd h9 (nI_ne (b := 0) (by omega) (by decide) (by omega))
        · have h9 : s.1 54 < z_boil (s.1 0) := h9
          exact fun e => by rw [e] at h9; exact Int32.lt_irrefl h9
    · refine Or.inl ?_
      unfold k_boil2
      have key : ∀ (u : q_KS) (mi : Int32), u.1 10 = 0 → (k_boil3 1 0 mi u).1 10 = 0 ∧ (k_boil3 1 0 mi u).1 54 = z_boil ((k_boil3 1 0 mi u).1 0) := by
        intro u mi c10
        unfold k_boil3
        have hz : ∀ x1 x2 x4 : Int32, z_pass (z_pan u.1 0 x1 x2 (z_boil (u.1 0)) x4) mi 0 1 54 = z_boil (z_pass (z_pan u.1 0 x1 x2 (z_boil (u.1 0)) x4) mi 0 1 0) := fun x1 x2 x4 => by
          rw [zp _ _ 54 (by omega), zp _ _ 0 (by omega), (z_pan_n (by omega) : z_pan u.1 0 x1 x2 (z_boil (u.1 0)) x4 0 = u.1 0)]
          exact z_pan_2
        have hz0 : ∀ x1 x2 x4 : Int32, z_pass (z_pan u.1 0 x1 x2 (z_boil (u.1 0)) x4) mi 0 1 10 = 0 := fun x1 x2 x4 => by
          rw [zp _ _ 10 (by omega), (z_pan_n (by omega) : z_pan u.1 0 x1 x2 (z_boil (u.1 0)) x4 10 = u.1 10)]
          exact c10
        exact ⟨hz0 (u.1 (52 + 4 * 0) - mi / 5) (u.1 (53 + 4 * 0)) (if 0 < u.1 (53 + 4 * 0) then q_min 100 (u.1 (55 + 4 * 0) + q_quot (mi * 100) (z_slow (u.1 0))) else u.1 (55 + 4 * 0)), hz (u.1 (52 + 4 * 0) - mi / 5) (u.1 (53 + 4 * 0)) (if 0 < u.1 (53 + 4 * 0) then q_min 100 (u.1 (55 + 4 * 0) + q_quot (mi * 100) (z_slow (u.1 0))) else u.1 (55 + 4 * 0))⟩
      split
      · exact key (k_warn 5 s) _ ((kw_10 (by decide)).trans ((if_neg (by decide)).trans a10))
      · exact key _ _ a10
  show (k_cons (k_heat 1 0 (fun _ _ => nI N)) (k_cons (k_boil 1 0 (fun _ _ => nI 1)) k_nil) hd (v, 0, (-1))).1 10 = 0 ∧ _ ∨ _
  have e2 : ∀ s : q_KS, s.2.1 < 100 → k_cons (k_boil 1 0 (fun _ _ => nI 1)) k_nil hd s = k_boil 1 0 (fun _ _ => nI 1) hd (s.1, s.2.1 + 1, s.2.2) := fun s hs => if_pos hs
  have hb1 : (k_heat 1 0 (fun _ _ => nI N) hd (v, 0 + 1, (-1))).2.1 < 100 := by
    have hk : ∀ s : q_KS, (k_heat 1 0 (fun _ _ => nI N) hd s).2.1 = s.2.1 := by
      intro s
      unfold k_heat k_heat1 k_heat2
      split
      · rfl
      · split <;> split <;> rfl
    rw [hk]
    exact (by decide : 0 + 1 < 100)
  have e1 : k_cons (k_heat 1 0 (fun _ _ => nI N)) (k_cons (k_boil 1 0 (fun _ _ => nI 1)) k_nil) hd (v, 0, (-1)) = k_boil 1 0 (fun _ _ => nI 1) hd ((k_heat 1 0 (fun _ _ => nI N) hd (v, 0 + 1, (-1))).1, (k_heat 1 0 (fun _ _ => nI N) hd (v, 0 + 1, (-1))).2.1 + 1, (k_heat 1 0 (fun _ _ => nI N) hd (v, 0 + 1, (-1))).2.2) := (if_pos (show 0 < 100 by decide)).trans (e2 _ hb1)
  obtain ⟨c0, c52, c10⟩ := hH (v, 0 + 1, (-1)) h0 h52 h53 h10
  have hfin := hBo ((k_heat 1 0 (fun _ _ => nI N) hd (v, 0 + 1, (-1))).1, (k_heat 1 0 (fun _ _ => nI N) hd (v, 0 + 1, (-1))).2.1 + 1, (k_heat 1 0 (fun _ _ => nI N) hd (v, 0 + 1, (-1))).2.2) c0 c52 c10
  rw [show bS [s1 N, s2] hd (v, 0, (-1)) = k_cons (k_heat 1 0 (fun _ _ => nI N)) (k_cons (k_boil 1 0 (fun _ _ => nI 1)) k_nil) hd (v, 0, (-1)) from rfl, e1]
  exact hfin
