/-! acts and blocks that are told, read -/
section TA
variable {K : Nat → Nat} {Wd pN rN : Nat → Int64} {i et ac nn pn R : Nat} {RS' : Nat → q_S}

theorem act_15 {B : p_S → p_S} (h : K i = 15) : p_act K Wd pN pn rN R B (ST K i et ac nn) = B (p_val K Wd pN pn 4 (p_beg K (ST K i et ac nn))) := (if_pos h)
theorem actS_15 {B : p_S → p_S} {M : p_S → q_S} (h : K i = 15) : p_actS K Wd pN pn rN R RS' B M (ST K i et ac nn) = k_again (p_valD K Wd pN pn 4 (p_beg K (ST K i et ac nn))) (M (p_val K Wd pN pn 4 (p_beg K (ST K i et ac nn)))) := (if_pos h)
theorem act_16 {B : p_S → p_S} (h : K i = 16) : p_act K Wd pN pn rN R B (ST K i et ac nn) = p_else K B (B (p_cmps K Wd pN pn 400 (p_beg K (ST K i et ac nn)))) := (if_neg (show ¬ K i = 15 from by omega)).trans ((if_pos h))
theorem actS_16 {B : p_S → p_S} {M : p_S → q_S} (h : K i = 16) : p_actS K Wd pN pn rN R RS' B M (ST K i et ac nn) = k_if (p_cmpsC K Wd pN pn 400 (p_beg K (ST K i et ac nn)) (fun _ _ => true)) (M (p_cmps K Wd pN pn 400 (p_beg K (ST K i et ac nn)))) (if (B (p_cmps K Wd pN pn 400 (p_beg K (ST K i et ac nn)))).2.1 = 18 then M (p_take K 18 (B (p_cmps K Wd pN pn 400 (p_beg K (ST K i et ac nn))))) else k_nil) := (if_neg (show ¬ K i = 15 from by omega)).trans ((if_pos h))
theorem act_3 {B : p_S → p_S} (h : K i = 3) : p_act K Wd pN pn rN R B (ST K i et ac nn) = p_take K 29 (p_known K Wd pN pn (p_what K (p_val K Wd pN pn 4 (p_beg K (ST K i et ac nn))))) := (if_neg (show ¬ K i = 15 from by omega)).trans ((if_neg (show ¬ K i = 16 from by omega)).trans ((if_pos h)))
theorem actS_3 {B : p_S → p_S} {M : p_S → q_S} (h : K i = 3) : p_actS K Wd pN pn rN R RS' B M (ST K i et ac nn) = k_pour pn (ix pN pn (Wd (p_what K (p_val K Wd pN pn 4 (p_beg K (ST K i et ac nn)))).1)).toNatClampNeg (if (p_val K Wd pN pn 4 (p_beg K (ST K i et ac nn))).2.1 = 5 then 1 else 0) (p_valD K Wd pN pn 4 (p_beg K (ST K i et ac nn))) := (if_neg (show ¬ K i = 15 from by omega)).trans ((if_neg (show ¬ K i = 16 from by omega)).trans ((if_pos h)))
theorem act_7 {B : p_S → p_S} (h : K i = 7) : p_act K Wd pN pn rN R B (ST K i et ac nn) = p_take K 29 (p_val K Wd pN pn 4 (p_take K 8 (p_known K Wd pN pn (p_beg K (ST K i et ac nn))))) := (if_neg (show ¬ K i = 15 from by omega)).trans ((if_neg (show ¬ K i = 16 from by omega)).trans ((if_neg (show ¬ K i = 3 from by omega)).trans ((if_pos h))))
theorem actS_7 {B : p_S → p_S} {M : p_S → q_S} (h : K i = 7) : p_actS K Wd pN pn rN R RS' B M (ST K i et ac nn) = k_heat pn (ix pN pn (Wd (p_beg K (ST K i et ac nn)).1)).toNatClampNeg (p_valD K Wd pN pn 4 (p_take K 8 (p_known K Wd pN pn (p_beg K (ST K i et ac nn))))) := (if_neg (show ¬ K i = 15 from by omega)).trans ((if_neg (show ¬ K i = 16 from by omega)).trans ((if_neg (show ¬ K i = 3 from by omega)).trans ((if_pos h))))
theorem act_9 {B : p_S → p_S} (h : K i = 9) : p_act K Wd pN pn rN R B (ST K i et ac nn) = p_take K 29 (p_val K Wd pN pn 4 (p_take K 10 (p_known K Wd pN pn (p_beg K (ST K i et ac nn))))) := (if_neg (show ¬ K i = 15 from by omega)).trans ((if_neg (show ¬ K i = 16 from by omega)).trans ((if_neg (show ¬ K i = 3 from by omega)).trans ((if_neg (show ¬ K i = 7 from by omega)).trans ((if_pos h)))))
theorem actS_9 {B : p_S → p_S} {M : p_S → q_S} (h : K i = 9) : p_actS K Wd pN pn rN R RS' B M (ST K i et ac nn) = k_boil pn (ix pN pn (Wd (p_beg K (ST K i et ac nn)).1)).toNatClampNeg (p_valD K Wd pN pn 4 (p_take K 10 (p_known K Wd pN pn (p_beg K (ST K i et ac nn))))) := (if_neg (show ¬ K i = 15 from by omega)).trans ((if_neg (show ¬ K i = 16 from by omega)).trans ((if_neg (show ¬ K i = 3 from by omega)).trans ((if_neg (show ¬ K i = 7 from by omega)).trans ((if_pos h)))))
theorem act_11 {B : p_S → p_S} (h : K i = 11) : p_act K Wd pN pn rN R B (ST K i et ac nn) = p_take K 29 (p_known K Wd pN pn (p_beg K (ST K i et ac nn))) := (if_neg (show ¬ K i = 15 from by omega)).trans ((if_neg (show ¬ K i = 16 from by omega)).trans ((if_neg (show ¬ K i = 3 from by omega)).trans ((if_neg (show ¬ K i = 7 from by omega)).trans ((if_neg (show ¬ K i = 9 from by omega)).trans ((if_pos h))))))
theorem actS_11 {B : p_S → p_S} {M : p_S → q_S} (h : K i = 11) : p_actS K Wd pN pn rN R RS' B M (ST K i et ac nn) = k_empty pn (ix pN pn (Wd (p_beg K (ST K i et ac nn)).1)).toNatClampNeg := (if_neg (show ¬ K i = 15 from by omega)).trans ((if_neg (show ¬ K i = 16 from by omega)).trans ((if_neg (show ¬ K i = 3 from by omega)).trans ((if_neg (show ¬ K i = 7 from by omega)).trans ((if_neg (show ¬ K i = 9 from by omega)).trans ((if_pos h))))))
theorem act_14 {B : p_S → p_S} (h : K i = 14) : p_act K Wd pN pn rN R B (ST K i et ac nn) = p_take K 29 (p_known K Wd rN R (p_beg K (ST K i et ac nn))) := (if_neg (show ¬ K i = 15 from by omega)).trans ((if_neg (show ¬ K i = 16 from by omega)).trans ((if_neg (show ¬ K i = 3 from by omega)).trans ((if_neg (show ¬ K i = 7 from by omega)).trans ((if_neg (show ¬ K i = 9 from by omega)).trans ((if_neg (show ¬ K i = 11 from by omega)).trans ((if_pos h)))))))
theorem actS_14 {B : p_S → p_S} {M : p_S → q_S} (h : K i = 14) : p_actS K Wd pN pn rN R RS' B M (ST K i et ac nn) = RS' (ix rN R (Wd (p_beg K (ST K i et ac nn)).1)).toNatClampNeg := (if_neg (show ¬ K i = 15 from by omega)).trans ((if_neg (show ¬ K i = 16 from by omega)).trans ((if_neg (show ¬ K i = 3 from by omega)).trans ((if_neg (show ¬ K i = 7 from by omega)).trans ((if_neg (show ¬ K i = 9 from by omega)).trans ((if_neg (show ¬ K i = 11 from by omega)).trans ((if_pos h)))))))
theorem act_12 {B : p_S → p_S} (h : K i = 12) : p_act K Wd pN pn rN R B (ST K i et ac nn) = p_take K 29 (p_val K Wd pN pn 4 (p_beg K (ST K i et ac nn))) := (if_neg (show ¬ K i = 15 from by omega)).trans ((if_neg (show ¬ K i = 16 from by omega)).trans ((if_neg (show ¬ K i = 3 from by omega)).trans ((if_neg (show ¬ K i = 7 from by omega)).trans ((if_neg (show ¬ K i = 9 from by omega)).trans ((if_neg (show ¬ K i = 11 from by omega)).trans ((if_neg (show ¬ K i = 14 from by omega))))))))
theorem actS_12 {B : p_S → p_S} {M : p_S → q_S} (h : K i = 12) : p_actS K Wd pN pn rN R RS' B M (ST K i et ac nn) = k_rest pn (p_valD K Wd pN pn 4 (p_beg K (ST K i et ac nn))) := (if_neg (show ¬ K i = 15 from by omega)).trans ((if_neg (show ¬ K i = 16 from by omega)).trans ((if_neg (show ¬ K i = 3 from by omega)).trans ((if_neg (show ¬ K i = 7 from by omega)).trans ((if_neg (show ¬ K i = 9 from by omega)).trans ((if_neg (show ¬ K i = 11 from by omega)).trans ((if_neg (show ¬ K i = 14 from by omega)).trans ((if_pos h))))))))
theorem act_13 {B : p_S → p_S} (h : K i = 13) : p_act K Wd pN pn rN R B (ST K i et ac nn) = p_take K 29 (p_val K Wd pN pn 4 (p_beg K (ST K i et ac nn))) := (if_neg (show ¬ K i = 15 from by omega)).trans ((if_neg (show ¬ K i = 16 from by omega)).trans ((if_neg (show ¬ K i = 3 from by omega)).trans ((if_neg (show ¬ K i = 7 from by omega)).trans ((if_neg (show ¬ K i = 9 from by omega)).trans ((if_neg (show ¬ K i = 11 from by omega)).trans ((if_neg (show ¬ K i = 14 from by omega))))))))
theorem actS_13 {B : p_S → p_S} {M : p_S → q_S} (h : K i = 13) : p_actS K Wd pN pn rN R RS' B M (ST K i et ac nn) = k_note (p_valD K Wd pN pn 4 (p_beg K (ST K i et ac nn))) := (if_neg (show ¬ K i = 15 from by omega)).trans ((if_neg (show ¬ K i = 16 from by omega)).trans ((if_neg (show ¬ K i = 3 from by omega)).trans ((if_neg (show ¬ K i = 7 from by omega)).trans ((if_neg (show ¬ K i = 9 from by omega)).trans ((if_neg (show ¬ K i = 11 from by omega)).trans ((if_neg (show ¬ K i = 14 from by omega)).trans ((if_neg (show ¬ K i = 12 from by omega)))))))))
theorem lex_pour {t j : Nat} {W : List Int32} (ht : t < 2) (hj : j < 8) : lex (kt 6 ++ W ++ kt (11 + 2 * t) ++ pT j ++ kt (12 + 2 * t)) = [(3, 540338)] ++ lex W ++ [(4 + t, q_wrd.getD (4 + t) 0), (6, 309903)] ++ [(37, nmw 112 j)] ++ [(29, -37)] := by
  rcases (show t = 0 ∨ t = 1 by omega) with rfl | rfl
  · rw [lex_app (sl_jn (by decide +kernel)), lex_app (sr_jn (sr_app (by decide +kernel) (by decide +kernel))), lex_app (sl_jn (by decide +kernel)), lex_app (sr_jn (by decide +kernel)), lex_pT j hj, show lex (kt 6) = [(3, 540338)] from by decide +kernel, show lex (kt (11 + 2 * 0)) = [(4 + 0, q_wrd.getD (4 + 0) 0), (6, 309903)] from by decide +kernel, show lex (kt (12 + 2 * 0)) = [(29, -37)] from by decide +kernel]
  · rw [lex_app (sl_jn (by decide +kernel)), lex_app (sr_jn (sr_app (by decide +kernel) (by decide +kernel))), lex_app (sl_jn (by decide +kernel)), lex_app (sr_jn (by decide +kernel)), lex_pT j hj, show lex (kt 6) = [(3, 540338)] from by decide +kernel, show lex (kt (11 + 2 * 1)) = [(4 + 1, q_wrd.getD (4 + 1) 0), (6, 309903)] from by decide +kernel, show lex (kt (12 + 2 * 1)) = [(29, -37)] from by decide +kernel]

theorem lex_heat {j : Nat} (hj : j < 8) {W : List Int32} : lex (kt 15 ++ pT j ++ kt 16 ++ W ++ kt 12) = [(7, 267316)] ++ [(37, nmw 112 j)] ++ [(8, 655)] ++ lex W ++ [(29, -37)] := by
  rw [lex_app (sl_jn (by decide +kernel)), lex_app (sr_jn (sr_app (by decide +kernel) (by decide +kernel))), lex_app (sl_jn (by decide +kernel)), lex_app (sr_jn (by decide +kernel)), show lex (kt 15) = [(7, 267316)] from (by decide +kernel), lex_pT j hj, show lex (kt 16) = [(8, 655)] from (by decide +kernel), show lex (kt 12) = [(29, -37)] from (by decide +kernel)]

theorem lex_boil {j : Nat} (hj : j < 8) {W : List Int32} : lex (kt 17 ++ pT j ++ kt 18 ++ W ++ kt 19) = [(9, 81196)] ++ [(37, nmw 112 j)] ++ [(10, 6642)] ++ lex W ++ [(29, -37)] := by
  rw [lex_app (sl_jn (by decide +kernel)), lex_app (sr_jn (sr_app (by decide +kernel) (by decide +kernel))), lex_app (sl_jn (by decide +kernel)), lex_app (sr_jn (by decide +kernel)), show lex (kt 17) = [(9, 81196)] from (by decide +kernel), lex_pT j hj, show lex (kt 18) = [(10, 6642)] from (by decide +kernel), show lex (kt 19) = [(29, -37)] from (by decide +kernel)]

theorem lex_empty {j : Nat} (hj : j < 8) : lex (kt 20 ++ pT j ++ kt 12) = [(11, 5685913)] ++ [(37, nmw 112 j)] ++ [(29, -37)] := by
  rw [lex_app (sl_jn (by decide +kernel)), lex_app (sr_jn (by decide +kernel)), show lex (kt 20) = [(11, 5685913)] from (by decide +kernel), lex_pT j hj, show lex (kt 12) = [(29, -37)] from (by decide +kernel)]

theorem lex_rest {W : List Int32} : lex (kt 21 ++ W ++ kt 22) = [(12, 595572)] ++ lex W ++ [(29, -37)] := by
  rw [lex_app (sl_jn (by decide +kernel)), lex_app (sr_jn (by decide +kernel)), show lex (kt 21) = [(12, 595572)] from (by decide +kernel), show lex (kt 22) = [(29, -37)] from (by decide +kernel)]

theorem lex_note {W : List Int32} : lex (kt 23 ++ W ++ kt 12) = [(13, 474757)] ++ lex W ++ [(29, -37)] := by
  rw [lex_app (sl_jn (by decide +kernel)), lex_app (sr_jn (by decide +kernel)), show lex (kt 23) = [(13, 474757)] from (by decide +kernel), show lex (kt 12) = [(29, -37)] from (by decide +kernel)]

theorem lex_cook : ∀ r, r < 6 → lex (kt 24 ++ [nI (97 + r)] ++ kt 12) = [(14, 114155), (37, nmw 114 r), (29, -37)] := by decide +kernel
theorem kt5_ne : kt 5 ≠ [] := by decide +kernel
theorem kt29_ne : kt 29 ≠ [] := by decide +kernel
theorem sl_bT {L : List LT} : sl (bT L) = true := sl_app (W := kt 5 ++ bV L) (sl_app (by decide +kernel) kt5_ne) (by intro e; exact kt5_ne (List.append_eq_nil_iff.mp e).1)
theorem sr_bT {L : List LT} : sr (bT L) = true := sr_app (by decide +kernel) kt29_ne
theorem bT_ne {L : List LT} : bT L ≠ [] := fun e => kt29_ne (List.append_eq_nil_iff.mp e).2
theorem lex_bT {L : List LT} : lex (bT L) = [(27, -56)] ++ lex (bV L) ++ [(28, -55)] := by
  unfold bT
  rw [lex_app (sl_jn (by decide +kernel)), lex_app (sr_jn (by decide +kernel)), show lex (kt 5) = [(27, -56)] from by decide +kernel, show lex (kt 29) = [(28, -55)] from by decide +kernel]
theorem lex_again {W : List Int32} {L : List LT} : lex (kt 25 ++ W ++ bT L) = [(15, 1279278)] ++ lex W ++ lex (bT L) := by
  rw [lex_app (sl_jn sl_bT), lex_app (sr_jn (by decide +kernel)), show lex (kt 25) = [(15, 1279278)] from by decide +kernel]
theorem lex_if1 {C : List CT} {L : List LT} : lex (cV C ++ bT L) = lex (cV C) ++ lex (bT L) := lex_app (sl_jn sl_bT)
theorem lex_if2 {C : List CT} {L L2 : List LT} : lex (cV C ++ bT L ++ kt 28 ++ bT L2) = lex (cV C) ++ lex (bT L) ++ [(18, 176741)] ++ lex (bT L2) := by
  rw [lex_app (sl_jn sl_bT), lex_app (sr_jn (sr_app sr_bT bT_ne)), lex_app (sl_jn sl_bT), show lex (kt 28) = [(18, 176741)] from by decide +kernel]
/-- every act's text ends so that nothing is drawn to it -/
theorem LACT.sr {E : q_E} {RS : Nat → q_S} {P : Nat → Prop} {f : q_H} : ∀ {d : Nat} {x : LT}, LACT E pn R RS P f d x → sr x.2.2.1 = true
  | 0, _, r => r.elim
  | d + 1, x, r => by
    obtain ⟨-, do_, wh, va, sg, on, ot, b, el, e, hc⟩ := r
    rcases hc with ⟨t, i, y, D, W, a1, a2, a3, a4, a5, a6, a7, a8, a9⟩ | ⟨i, y, D, W, a2, a3, a4, a5, a6, a7, a8, a9⟩ | ⟨i, y, D, W, a2, a3, a4, a5, a6, a7, a8, a9⟩ | ⟨i, a2, a3, a4, a5, a6, a8, a9⟩ | ⟨i, y, D, W, a2, a3, a4, a5, a6, a7, a8, a9⟩ | ⟨i, y, D, W, a2, a3, a4, a5, a6, a7, a8, a9⟩ | ⟨i, a2, a3, a4, a5, a6, a8, a9⟩ | ⟨i, y, D, W, L, a2, a3, a4, a5, a6, a7, a8, a9⟩ | ⟨i, L, C, a2, a3, a4, a5, a6, a7, a8, a9, a10⟩
    · rw [a9]
      rcases (show t = 0 ∨ t = 1 by omega) with rfl | rfl
      · exact sr_app (by decide +kernel) (by decide +kernel)
      · exact sr_app (by decide +kernel) (by decide +kernel)
    · rw [a9]; exact sr_app (by decide +kernel) (by decide +kernel)
    · rw [a9]; exact sr_app (by decide +kernel) (by decide +kernel)
    · rw [a9]; exact sr_app (by decide +kernel) (by decide +kernel)
    · rw [a9]; exact sr_app (by decide +kernel) (by decide +kernel)
    · rw [a9]; exact sr_app (by decide +kernel) (by decide +kernel)
    · rw [a9]; exact sr_app (by decide +kernel) (by decide +kernel)
    · rw [a9]; exact sr_app sr_bT bT_ne
    · rcases a10 with ⟨-, a10⟩ | ⟨b2, L2, -, -, c3⟩
      · rw [a10]; exact sr_app sr_bT bT_ne
      · rw [c3]; exact sr_app sr_bT bT_ne
/-- an act is read as it is told -/
def PAp (K : Nat → Nat) (Wd pN rN : Nat → Int64) (pn R : Nat) (RS' : Nat → q_S) (F : Nat) (x : LT) : Prop := ∀ i et ac nn : Nat, TOK K Wd i (lex x.2.2.1) → K (i + (lex x.2.2.1).length) ≠ 18 → ac + 1 + x.2.2.2 ≤ 80 →
  b_act (K i) = true ∧ ∃ nn', p_act K Wd pN pn rN R (p_blk K Wd pN pn rN R F) (ST K i et ac nn) = ST K (i + (lex x.2.2.1).length) et (ac + 1 + x.2.2.2) nn' ∧ p_actS K Wd pN pn rN R RS' (p_blk K Wd pN pn rN R F) (p_blkS K Wd pN pn rN R RS' F) (ST K i et ac nn) = x.2.1
theorem PACTS {F : Nat} : ∀ (L : List LT) (m i et ac nn : Nat), (∀ x ∈ L, PAp K Wd pN rN pn R RS' F x ∧ sr x.2.2.1 = true) → L.length < m → TOK K Wd i (lex (bV L)) → K (i + (lex (bV L)).length) = 28 → ac + bC L ≤ 80 →
    (L ≠ [] → b_act (K i) = true) ∧ ∃ nn', p_acts (p_act K Wd pN pn rN R (p_blk K Wd pN pn rN R F)) m (ST K i et ac nn) = ST K (i + (lex (bV L)).length) et (ac + bC L) nn' ∧ p_actsS (p_act K Wd pN pn rN R (p_blk K Wd pN pn rN R F)) (p_actS K Wd pN pn rN R RS' (p_blk K Wd pN pn rN R F) (p_blkS K Wd pN pn rN R RS' F)) m (ST K i et ac nn) = bS L
  | _, 0, _, _, _, _, _, h, _, _, _ => absurd h (Nat.not_lt_zero _)
  | [], m + 1, i, et, ac, nn, _, _, _, hK, _ => by
    have hk : K i = 28 := hK
    refine ⟨fun h => absurd rfl h, nn, ?_, ?_⟩
    · exact if_neg (show ¬ b_act (K i) = true from by rw [hk]; decide)
    · exact if_neg (show ¬ b_act (K i) = true from by rw [hk]; decide)
  | x :: L, m + 1, i, et, ac, nn, hA, hm, hT, hK, hac => by
    have hac : ac + (1 + x.2.2.2 + bC L) ≤ 80 := hac
    obtain ⟨hx, hsr⟩ := hA x (List.mem_cons_self ..)
    have hl : lex (bV (x :: L)) = lex x.2.2.1 ++ lex (bV L) := lex_app (sr_jn hsr)
    rw [hl] at hT hK ⊢
    rw [List.length_append, ← Nat.add_assoc] at hK ⊢
    obtain ⟨t1, t2⟩ := TOK.app hT
    have hL : ∀ nn, _ := fun nn => PACTS L m (i + (lex x.2.2.1).length) et (ac + 1 + x.2.2.2) nn (fun y hy => hA y (List.mem_cons_of_mem _ hy)) (Nat.lt_of_succ_lt_succ hm) t2 hK (by omega)
    have h18 : K (i + (lex x.2.2.1).length) ≠ 18 := by
      cases L with
      | nil =>
        have hk : K (i + (lex x.2.2.1).length) = 28 := hK
        rw [hk]
        decide
      | cons y L =>
        intro e
        have h9 := (hL nn).1 (List.cons_ne_nil _ _)
        rw [e] at h9
        exact absurd h9 (by decide)
    obtain ⟨hb, m1, e1, f1⟩ := hx i et ac nn t1 h18 (by omega)
    obtain ⟨-, m2, e2, f2⟩ := hL m1
    refine ⟨fun _ => hb, m2, ?_, ?_⟩
    · refine (if_pos hb).trans ?_
      rw [e1, e2, show ac + 1 + x.2.2.2 + bC L = ac + bC (x :: L) from by show _ = ac + (1 + x.2.2.2 + bC L); omega]
    · refine (if_pos hb).trans ?_
      rw [e1, f1, f2]
      rfl
theorem PBLK {F : Nat} {L : List LT} (hA : ∀ x ∈ L, PAp K Wd pN rN pn R RS' F x ∧ sr x.2.2.1 = true) (hl : L.length < 400) (hT : TOK K Wd i (lex (bT L))) (hac : ac + bC L ≤ 80) : ∃ nn', p_blk K Wd pN pn rN R (F + 1) (ST K i et ac nn) = ST K (i + (lex (bT L)).length) et (ac + bC L) nn' ∧ p_blkS K Wd pN pn rN R RS' (F + 1) (ST K i et ac nn) = bS L := by
  rw [lex_bT] at hT ⊢
  obtain ⟨hT, t3⟩ := TOK.app hT
  obtain ⟨t1, t2⟩ := TOK.app hT
  have k1 : K i = 27 := t1.1
  simp only [List.length_append, List.length_cons, List.length_nil] at t2 t3 ⊢
  have k2 : K (i + (0 + 1) + (lex (bV L)).length) = 28 := by rw [Nat.add_assoc]; exact t3.1
  obtain ⟨-, m1, e1, f1⟩ := PACTS (F := F) L 400 (i + (0 + 1)) et ac nn hA hl t2 k2 hac
  refine ⟨m1, ?_, ?_⟩
  · show p_take K 28 (p_acts (p_act K Wd pN pn rN R (p_blk K Wd pN pn rN R F)) 400 (p_take K 27 (ST K i et ac nn))) = _
    rw [ST_take k1, e1, ST_take k2, show i + (0 + 1) + (lex (bV L)).length + 1 = i + (0 + 1 + (lex (bV L)).length + (0 + 1)) by omega]
  · show p_actsS (p_act K Wd pN pn rN R (p_blk K Wd pN pn rN R F)) (p_actS K Wd pN pn rN R RS' (p_blk K Wd pN pn rN R F) (p_blkS K Wd pN pn rN R RS' F)) 400 (p_take K 27 (ST K i et ac nn)) = _
    rw [ST_take k1, f1]

theorem PACT {E : q_E} {RS : Nat → q_S} {P : Nat → Prop} {f : q_H} (hpn : pn ≤ 8) (hR6 : R ≤ 6) (hN : NMS pN pn 112) (hM : NMS rN R 114) (hRS : ∀ r, r < R → RS' r = RS r) : ∀ (d F : Nat) (x : LT), LACT E pn R RS P f d x → d ≤ F → x.2.2.2 ≤ 80 → PAp K Wd pN rN pn R RS' F x
  | 0, _, _, r, _, _ => r.elim
  | d + 1, F, x, r, hF, hc80 => by
    obtain ⟨F, rfl⟩ : ∃ F', F = F' + 1 := ⟨F - 1, by omega⟩
    obtain ⟨-, do_, wh, va, sg, on, ot, b, el, e, hc⟩ := r
    have hblk : ∀ (b : Nat) (L : List LT), LB P E f (LACT E pn R RS P f d) b L → bC L ≤ 80 → (∀ y ∈ L, PAp K Wd pN rN pn R RS' F y ∧ sr y.2.2.1 = true) ∧ L.length < 400 := fun b L h h8 => ⟨fun y hy => ⟨PACT hpn hR6 hN hM hRS d F y (h.2.2 y hy) (by omega) (Nat.le_trans (bC_mem hy) h8), (h.2.2 y hy).sr⟩, by have := bC_len L; omega⟩
    intro i et ac nn hT h18 hac
    rcases hc with ⟨t, j, y, D, W, a1, a2, a3, a4, a5, a6, a7, a8, a9⟩ | ⟨j, y, D, W, a2, a3, a4, a5, a6, a7, a8, a9⟩ | ⟨j, y, D, W, a2, a3, a4, a5, a6, a7, a8, a9⟩ | ⟨j, a2, a3, a4, a5, a6, a8, a9⟩ | ⟨j, y, D, W, a2, a3, a4, a5, a6, a7, a8, a9⟩ | ⟨j, y, D, W, a2, a3, a4, a5, a6, a7, a8, a9⟩ | ⟨j, a2, a3, a4, a5, a6, a8, a9⟩ | ⟨j, y, D, W, L, a2, a3, a4, a5, a6, a7, a8, a9⟩ | ⟨j, L, C, a2, a3, a4, a5, a6, a7, a8, a9, a10⟩
    · have e0 : x.2.2.2 = 0 := by rw [a9]
      have eV : x.2.2.1 = kt 6 ++ W ++ kt (11 + 2 * t) ++ pT j ++ kt (12 + 2 * t) := by rw [a9]
      have eS : x.2.1 = k_pour pn j (nI t) D := by rw [a9]
      rw [e0] at hac ⊢
      rw [eV, lex_pour a1 (by omega)] at hT ⊢
      rw [eS]
      obtain ⟨hT, t5⟩ := TOK.app hT
      obtain ⟨hT, t4⟩ := TOK.app hT
      obtain ⟨hT, t3⟩ := TOK.app hT
      obtain ⟨t1, t2⟩ := TOK.app hT
      simp only [List.length_append, List.length_cons, List.length_nil] at t2 t3 t4 t5 ⊢
      have k1 : K i = 3 := t1.1
      obtain ⟨m1, e1, f1⟩ := PV (Wd := Wd) hpn hN 1 y D W a7 4 (by decide) (i + 1) et (ac + 1) (nn + 1) t2
      have k3 : K (i + 1 + (lex W).length) = 4 + t := by rw [show i + 1 + (lex W).length = i + (0 + 1 + (lex W).length) by omega]; exact t3.1
      have k4 : K (i + 1 + (lex W).length + 1) = 6 := by rw [show i + 1 + (lex W).length + 1 = i + (0 + 1 + (lex W).length) + 1 by omega]; exact t3.2.2.1
      have k5 : K (i + 1 + (lex W).length + 1 + 1) = 37 := by rw [show i + 1 + (lex W).length + 1 + 1 = i + (0 + 1 + (lex W).length + (0 + 1 + 1)) by omega]; exact t4.1
      have k5w : Wd (i + 1 + (lex W).length + 1 + 1) = nmw 112 j := by rw [show i + 1 + (lex W).length + 1 + 1 = i + (0 + 1 + (lex W).length + (0 + 1 + 1)) by omega]; exact t4.2.1
      have k6 : K (i + 1 + (lex W).length + 1 + 1 + 1) = 29 := by rw [show i + 1 + (lex W).length + 1 + 1 + 1 = i + (0 + 1 + (lex W).length + (0 + 1 + 1) + (0 + 1)) by omega]; exact t5.1
      have hw : p_what K (ST K (i + 1 + (lex W).length) et (ac + 1) m1) = ST K (i + 1 + (lex W).length + 1 + 1) et (ac + 1) m1 := by
        show p_take K 6 (p_take K (if K (i + 1 + (lex W).length) = 5 then 5 else 4) (ST K (i + 1 + (lex W).length) et (ac + 1) m1)) = _
        rw [show (if K (i + 1 + (lex W).length) = 5 then 5 else 4) = 4 + t from by rw [k3]; rcases (show t = 0 ∨ t = 1 by omega) with rfl | rfl <;> rfl, ST_take k3, ST_take k4]
      refine ⟨by rw [k1]; decide, m1, ?_, ?_⟩
      · rw [act_3 k1, ST_beg (by omega), e1, hw, ST_known (j := j) k5 (by omega) (by rw [k5w]; exact hN j a2), ST_take k6]
        rw [show i + 1 + (lex W).length + 1 + 1 + 1 + 1 = i + (0 + 1 + (lex W).length + (0 + 1 + 1) + (0 + 1) + (0 + 1)) by omega]
      · rw [actS_3 k1, ST_beg (by omega), e1, hw, f1]
        show k_pour pn (ix pN pn (Wd (i + 1 + (lex W).length + 1 + 1))).toNatClampNeg (if K (i + 1 + (lex W).length) = 5 then 1 else 0) D = _
        rw [k5w, hN j a2, nI_clamp (by omega), k3]
        rcases (show t = 0 ∨ t = 1 by omega) with rfl | rfl <;> rfl
    · have e0 : x.2.2.2 = 0 := by rw [a9]
      have eV : x.2.2.1 = kt 15 ++ pT j ++ kt 16 ++ W ++ kt 12 := by rw [a9]
      have eS : x.2.1 = k_heat pn j D := by rw [a9]
      rw [e0] at hac ⊢
      rw [eV, lex_heat (by omega)] at hT ⊢
      rw [eS]
      obtain ⟨hT, t5⟩ := TOK.app hT
      obtain ⟨hT, t4⟩ := TOK.app hT
      obtain ⟨hT, t3⟩ := TOK.app hT
      obtain ⟨t1, t2⟩ := TOK.app hT
      simp only [List.length_append, List.length_cons, List.length_nil] at t2 t3 t4 t5 ⊢
      have k1 : K i = 7 := t1.1
      have k2 : K (i + 1) = 37 := t2.1
      have k2w : Wd (i + 1) = nmw 112 j := t2.2.1
      have k3 : K (i + 1 + 1) = 8 := by rw [show i + 1 + 1 = i + (0 + 1 + (0 + 1)) by omega]; exact t3.1
      obtain ⟨m1, e1, f1⟩ := PV (Wd := Wd) hpn hN 1 y D W a7 4 (by decide) (i + 1 + 1 + 1) et (ac + 1) (nn + 1) (by rw [show i + 1 + 1 + 1 = i + (0 + 1 + (0 + 1) + (0 + 1)) by omega]; exact t4)
      have k5 : K (i + 1 + 1 + 1 + (lex W).length) = 29 := by rw [show i + 1 + 1 + 1 + (lex W).length = i + (0 + 1 + (0 + 1) + (0 + 1) + (lex W).length) by omega]; exact t5.1
      refine ⟨by rw [k1]; decide, m1, ?_, ?_⟩
      · rw [act_7 k1, ST_beg (by omega), ST_known (j := j) k2 (by omega) (by rw [k2w]; exact hN j a2), ST_take k3, e1, ST_take k5]
        rw [show i + 1 + 1 + 1 + (lex W).length + 1 = i + (0 + 1 + (0 + 1) + (0 + 1) + (lex W).length + (0 + 1)) by omega]
      · rw [actS_7 k1, ST_beg (by omega), ST_known (j := j) k2 (by omega) (by rw [k2w]; exact hN j a2), ST_take k3, f1]
        show k_heat pn (ix pN pn (Wd (i + 1))).toNatClampNeg D = _
        rw [k2w, hN j a2, nI_clamp (by omega)]
    · have e0 : x.2.2.2 = 0 := by rw [a9]
      have eV : x.2.2.1 = kt 17 ++ pT j ++ kt 18 ++ W ++ kt 19 := by rw [a9]
      have eS : x.2.1 = k_boil pn j D := by rw [a9]
      rw [e0] at hac ⊢
      rw [eV, lex_boil (by omega)] at hT ⊢
      rw [eS]
      obtain ⟨hT, t5⟩ := TOK.app hT
      obtain ⟨hT, t4⟩ := TOK.app hT
      obtain ⟨hT, t3⟩ := TOK.app hT
      obtain ⟨t1, t2⟩ := TOK.app hT
      simp only [List.length_append, List.length_cons, List.length_nil] at t2 t3 t4 t5 ⊢
      have k1 : K i = 9 := t1.1
      have k2 : K (i + 1) = 37 := t2.1
      have k2w : Wd (i + 1) = nmw 112 j := t2.2.1
      have k3 : K (i + 1 + 1) = 10 := by rw [show i + 1 + 1 = i + (0 + 1 + (0 + 1)) by omega]; exact t3.1
      obtain ⟨m1, e1, f1⟩ := PV (Wd := Wd) hpn hN 1 y D W a7 4 (by decide) (i + 1 + 1 + 1) et (ac + 1) (nn + 1) (by rw [show i + 1 + 1 + 1 = i + (0 + 1 + (0 + 1) + (0 + 1)) by omega]; exact t4)
      have k5 : K (i + 1 + 1 + 1 + (lex W).length) = 29 := by rw [show i + 1 + 1 + 1 + (lex W).length = i + (0 + 1 + (0 + 1) + (0 + 1) + (lex W).length) by omega]; exact t5.1
      refine ⟨by rw [k1]; decide, m1, ?_, ?_⟩
      · rw [act_9 k1, ST_beg (by omega), ST_known (j := j) k2 (by omega) (by rw [k2w]; exact hN j a2), ST_take k3, e1, ST_take k5]
        rw [show i + 1 + 1 + 1 + (lex W).length + 1 = i + (0 + 1 + (0 + 1) + (0 + 1) + (lex W).length + (0 + 1)) by omega]
      · rw [actS_9 k1, ST_beg (by omega), ST_known (j := j) k2 (by omega) (by rw [k2w]; exact hN j a2), ST_take k3, f1]
        show k_boil pn (ix pN pn (Wd (i + 1))).toNatClampNeg D = _
        rw [k2w, hN j a2, nI_clamp (by omega)]
    · have e0 : x.2.2.2 = 0 := by rw [a9]
      have eV : x.2.2.1 = kt 20 ++ pT j ++ kt 12 := by rw [a9]
      have eS : x.2.1 = k_empty pn j := by rw [a9]
      rw [e0] at hac ⊢
      rw [eV, lex_empty (by omega)] at hT ⊢
      rw [eS]
      obtain ⟨k1, -, k2, k2w, k3, -, -⟩ := hT
      have k1 : K i = 11 := k1
      have k2 : K (i + 1) = 37 := k2
      have k2w : Wd (i + 1) = nmw 112 j := k2w
      have k3 : K (i + 1 + 1) = 29 := k3
      refine ⟨by rw [k1]; decide, nn + 1, ?_, ?_⟩
      · rw [act_11 k1, ST_beg (by omega), ST_known (j := j) k2 (by omega) (by rw [k2w]; exact hN j a2), ST_take k3]
        rfl
      · rw [actS_11 k1, ST_beg (by omega)]
        show k_empty pn (ix pN pn (Wd (i + 1))).toNatClampNeg = _
        rw [k2w, hN j a2, nI_clamp (by omega)]
    · have e0 : x.2.2.2 = 0 := by rw [a9]
      have eV : x.2.2.1 = kt 21 ++ W ++ kt 22 := by rw [a9]
      have eS : x.2.1 = k_rest pn D := by rw [a9]
      rw [e0] at hac ⊢
      rw [eV, lex_rest] at hT ⊢
      rw [eS]
      obtain ⟨hT, t3⟩ := TOK.app hT
      obtain ⟨t1, t2⟩ := TOK.app hT
      simp only [List.length_append, List.length_cons, List.length_nil] at t2 t3 ⊢
      have k1 : K i = 12 := t1.1
      obtain ⟨m1, e1, f1⟩ := PV (Wd := Wd) hpn hN 1 y D W a7 4 (by decide) (i + 1) et (ac + 1) (nn + 1) t2
      have k3 : K (i + 1 + (lex W).length) = 29 := by rw [show i + 1 + (lex W).length = i + (0 + 1 + (lex W).length) by omega]; exact t3.1
      refine ⟨by rw [k1]; decide, m1, ?_, ?_⟩
      · rw [act_12 k1, ST_beg (by omega), e1, ST_take k3]
        rw [show i + 1 + (lex W).length + 1 = i + (0 + 1 + (lex W).length + (0 + 1)) by omega]
      · rw [actS_12 k1, ST_beg (by omega), f1]
    · have e0 : x.2.2.2 = 0 := by rw [a9]
      have eV : x.2.2.1 = kt 23 ++ W ++ kt 12 := by rw [a9]
      have eS : x.2.1 = k_note D := by rw [a9]
      rw [e0] at hac ⊢
      rw [eV, lex_note] at hT ⊢
      rw [eS]
      obtain ⟨hT, t3⟩ := TOK.app hT
      obtain ⟨t1, t2⟩ := TOK.app hT
      simp only [List.length_append, List.length_cons, List.length_nil] at t2 t3 ⊢
      have k1 : K i = 13 := t1.1
      obtain ⟨m1, e1, f1⟩ := PV (Wd := Wd) hpn hN 1 y D W a7 4 (by decide) (i + 1) et (ac + 1) (nn + 1) t2
      have k3 : K (i + 1 + (lex W).length) = 29 := by rw [show i + 1 + (lex W).length = i + (0 + 1 + (lex W).length) by omega]; exact t3.1
      refine ⟨by rw [k1]; decide, m1, ?_, ?_⟩
      · rw [act_13 k1, ST_beg (by omega), e1, ST_take k3]
        rw [show i + 1 + (lex W).length + 1 = i + (0 + 1 + (lex W).length + (0 + 1)) by omega]
      · rw [actS_13 k1, ST_beg (by omega), f1]
    · have e0 : x.2.2.2 = 0 := by rw [a9]
      have eV : x.2.2.1 = kt 24 ++ [nI (97 + j)] ++ kt 12 := by rw [a9]
      have eS : x.2.1 = RS j := by rw [a9]
      rw [e0] at hac ⊢
      rw [eV, lex_cook j (by omega)] at hT ⊢
      rw [eS]
      obtain ⟨k1, -, k2, k2w, k3, -, -⟩ := hT
      have k1 : K i = 14 := k1
      have k2 : K (i + 1) = 37 := k2
      have k2w : Wd (i + 1) = nmw 114 j := k2w
      have k3 : K (i + 1 + 1) = 29 := k3
      refine ⟨by rw [k1]; decide, nn + 1, ?_, ?_⟩
      · rw [act_14 k1, ST_beg (by omega), ST_known (j := j) k2 (by omega) (by rw [k2w]; exact hM j a2), ST_take k3]
        rfl
      · rw [actS_14 k1, ST_beg (by omega)]
        show RS' (ix rN R (Wd (i + 1))).toNatClampNeg = _
        rw [k2w, hM j a2, nI_clamp (by omega), hRS j a2]
    · have e0 : x.2.2.2 = bC L := by rw [a9]
      have eV : x.2.2.1 = kt 25 ++ W ++ bT L := by rw [a9]
      have eS : x.2.1 = k_again D (bS L) := by rw [a9]
      rw [e0] at hac hc80 ⊢
      rw [eV, lex_again] at hT ⊢
      rw [eS]
      obtain ⟨hT, t3⟩ := TOK.app hT
      obtain ⟨t1, t2⟩ := TOK.app hT
      simp only [List.length_append, List.length_cons, List.length_nil] at t2 t3 ⊢
      have k1 : K i = 15 := t1.1
      obtain ⟨m1, e1, f1⟩ := PV (Wd := Wd) hpn hN 1 y D W a7 4 (by decide) (i + 1) et (ac + 1) (nn + 1) t2
      obtain ⟨hb1, hb2⟩ := hblk b L a8 hc80
      obtain ⟨m2, e2, f2⟩ := PBLK (i := i + 1 + (lex W).length) (et := et) (ac := ac + 1) (nn := m1) hb1 hb2 (by rw [show i + 1 + (lex W).length = i + (0 + 1 + (lex W).length) by omega]; exact t3) hac
      refine ⟨by rw [k1]; decide, m2, ?_, ?_⟩
      · rw [act_15 k1, ST_beg (by omega), e1, e2]
        rw [show i + 1 + (lex W).length + (lex (bT L)).length = i + (0 + 1 + (lex W).length + (lex (bT L)).length) by omega]
      · rw [actS_15 k1, ST_beg (by omega), e1, f1, f2]
    · have hcl := CMPS.all a8
      obtain ⟨c0, C9, hC9⟩ : ∃ c0 C9, C = c0 :: C9 := by
        cases C with
        | nil => exact absurd a6 (by decide)
        | cons c0 C9 => exact ⟨c0, C9, rfl⟩
      rcases a10 with ⟨-, a10⟩ | ⟨b2, L2, -, c2, c3⟩
      · have e0 : x.2.2.2 = bC L := by rw [a10]
        have eV : x.2.2.1 = cV C ++ bT L := by rw [a10]
        have eS : x.2.1 = k_if (cC C.reverse) (bS L) k_nil := by rw [a10]
        rw [e0] at hac hc80 ⊢
        rw [eV, lex_if1, hC9, lex_cV, List.append_assoc [(16, 294)]] at hT h18 ⊢
        rw [eS]
        obtain ⟨hT, t3⟩ := TOK.app hT
        obtain ⟨t1, t2⟩ := TOK.app hT
        have el : i + ([(16, (294 : Int64))] ++ (lex (cV1 c0) ++ lex (cVs C9))).length = i + 1 + (lex (cV1 c0) ++ lex (cVs C9)).length := by simp only [List.length_append, List.length_cons, List.length_nil]; omega
        rw [el] at t3
        have t3b := t3
        rw [lex_bT] at t3b
        have k1 : K i = 16 := t1.1
        have k3 : K (i + 1 + (lex (cV1 c0) ++ lex (cVs C9)).length) = 27 := t3b.1
        obtain ⟨m1, e1, f1⟩ := PCS (Wd := Wd) hpn hN C9 c0 400 (i + 1) et (ac + 1) (nn + 1) (fun _ _ => true) (by rw [← hC9]; exact hcl) (by have h9 : C.length = C9.length + 1 := congrArg List.length hC9; omega) t2 (by rw [k3]; decide)
        rw [← hC9, cCa_eq a6 a7] at f1
        obtain ⟨hb1, hb2⟩ := hblk b L a9 hc80
        obtain ⟨m2, e2, f2⟩ := PBLK (i := i + 1 + (lex (cV1 c0) ++ lex (cVs C9)).length) (et := et) (ac := ac + 1) (nn := m1) hb1 hb2 t3 hac
        have el2 : i + 1 + (lex (cV1 c0) ++ lex (cVs C9)).length + (lex (bT L)).length = i + ([(16, (294 : Int64))] ++ (lex (cV1 c0) ++ lex (cVs C9)) ++ lex (bT L)).length := by rw [← el, List.length_append (bs := lex (bT L)), Nat.add_assoc]
        rw [← el2] at h18 ⊢
        refine ⟨by rw [k1]; decide, m2, ?_, ?_⟩
        · rw [act_16 k1, ST_beg (by omega), e1, e2]
          exact if_neg h18
        · rw [actS_16 k1, ST_beg (by omega), e1, e2, f1, f2]
          rw [if_neg (show ¬ (ST K (i + 1 + (lex (cV1 c0) ++ lex (cVs C9)).length + (lex (bT L)).length) et (ac + 1 + bC L) m2).2.1 = 18 from h18), hC9]
      · have e0 : x.2.2.2 = bC L + bC L2 := by rw [c3]
        have eV : x.2.2.1 = cV C ++ bT L ++ kt 28 ++ bT L2 := by rw [c3]
        have eS : x.2.1 = k_if (cC C.reverse) (bS L) (bS L2) := by rw [c3]
        rw [e0] at hac hc80 ⊢
        rw [eV, lex_if2, hC9, lex_cV, List.append_assoc [(16, 294)]] at hT h18 ⊢
        rw [eS]
        obtain ⟨hT, t5⟩ := TOK.app hT
        obtain ⟨hT, t4⟩ := TOK.app hT
        obtain ⟨hT, t3⟩ := TOK.app hT
        obtain ⟨t1, t2⟩ := TOK.app hT
        have el : i + ([(16, (294 : Int64))] ++ (lex (cV1 c0) ++ lex (cVs C9))).length = i + 1 + (lex (cV1 c0) ++ lex (cVs C9)).length := by simp only [List.length_append, List.length_cons, List.length_nil]; omega
        rw [el] at t3
        have t3b := t3
        rw [lex_bT] at t3b
        have k1 : K i = 16 := t1.1
        have k3 : K (i + 1 + (lex (cV1 c0) ++ lex (cVs C9)).length) = 27 := t3b.1
        obtain ⟨m1, e1, f1⟩ := PCS (Wd := Wd) hpn hN C9 c0 400 (i + 1) et (ac + 1) (nn + 1) (fun _ _ => true) (by rw [← hC9]; exact hcl) (by have h9 : C.length = C9.length + 1 := congrArg List.length hC9; omega) t2 (by rw [k3]; decide)
        rw [← hC9, cCa_eq a6 a7] at f1
        obtain ⟨hb1, hb2⟩ := hblk b L a9 (by omega)
        obtain ⟨hb3, hb4⟩ := hblk b2 L2 c2 (by omega)
        obtain ⟨m2, e2, f2⟩ := PBLK (i := i + 1 + (lex (cV1 c0) ++ lex (cVs C9)).length) (et := et) (ac := ac + 1) (nn := m1) hb1 hb2 t3 (by omega)
        have el2 : i + 1 + (lex (cV1 c0) ++ lex (cVs C9)).length + (lex (bT L)).length = i + ([(16, (294 : Int64))] ++ (lex (cV1 c0) ++ lex (cVs C9)) ++ lex (bT L)).length := by rw [← el, List.length_append (bs := lex (bT L)), Nat.add_assoc]
        have k4 : K (i + 1 + (lex (cV1 c0) ++ lex (cVs C9)).length + (lex (bT L)).length) = 18 := by rw [el2]; exact t4.1
        have el3 : i + 1 + (lex (cV1 c0) ++ lex (cVs C9)).length + (lex (bT L)).length + 1 = i + ([(16, (294 : Int64))] ++ (lex (cV1 c0) ++ lex (cVs C9)) ++ lex (bT L) ++ [(18, (176741 : Int64))]).length := by rw [el2, List.length_append (bs := [(18, (176741 : Int64))]), ← Nat.add_assoc]; rfl
        obtain ⟨m3, e3, f3⟩ := PBLK (i := i + 1 + (lex (cV1 c0) ++ lex (cVs C9)).length + (lex (bT L)).length + 1) (et := et) (ac := ac + 1 + bC L) (nn := m2) hb3 hb4 (by rw [el3]; exact t5) (by omega)
        have el4 : i + 1 + (lex (cV1 c0) ++ lex (cVs C9)).length + (lex (bT L)).length + 1 + (lex (bT L2)).length = i + ([(16, (294 : Int64))] ++ (lex (cV1 c0) ++ lex (cVs C9)) ++ lex (bT L) ++ [(18, (176741 : Int64))] ++ lex (bT L2)).length := by rw [el3, List.length_append (bs := lex (bT L2)), ← Nat.add_assoc]
        rw [← el4]
        refine ⟨by rw [k1]; decide, m3, ?_, ?_⟩
        · rw [act_16 k1, ST_beg (by omega), e1, e2]
          refine (if_pos (show (ST K (i + 1 + (lex (cV1 c0) ++ lex (cVs C9)).length + (lex (bT L)).length) et (ac + 1 + bC L) m2).2.1 = 18 from k4)).trans ?_
          rw [ST_take k4, e3, show ac + 1 + bC L + bC L2 = ac + 1 + (bC L + bC L2) by omega]
        · rw [actS_16 k1, ST_beg (by omega), e1, e2, f1, f2]
          rw [if_pos (show (ST K (i + 1 + (lex (cV1 c0) ++ lex (cVs C9)).length + (lex (bT L)).length) et (ac + 1 + bC L) m2).2.1 = 18 from k4), ST_take k4, f3, hC9]
end TA

