/-! what is told, read -/
abbrev ST (K : Nat → Nat) (i et ac nn : Nat) : p_S := (i, K i, 0, et, ac, nn)
def nmw (x j : Nat) : Int64 := l_wor [nI x, nI (97 + j)]
def NMS (nm : Nat → Int64) (cnt x : Nat) : Prop := ∀ j, j < cnt → ix nm cnt (nmw x j) = nI j
section TS
variable {K : Nat → Nat} {Wd pN rN : Nat → Int64} {i et ac nn : Nat}
theorem ST_take {w : Nat} (h : K i = w) : p_take K w (ST K i et ac nn) = ST K (i + 1) et ac nn := by
  show p_step K (decide (K i = w)) (ST K i et ac nn) = _
  rw [decide_eq_true h]
  rfl
theorem ST_step : p_step K true (ST K i et ac nn) = ST K (i + 1) et ac nn := rfl
theorem ST_new : p_new (ST K i et ac nn) = ST K i et ac (nn + 1) := rfl
theorem ST_cnt (h : ac + 1 ≤ 80) : p_cnt (ST K i et ac nn) = ST K i et (ac + 1) nn := by
  show p_ci (decide (80 < ac + 1)) 4 (ST K i et (ac + 1) nn) = _
  rw [decide_eq_false (by omega)]
  rfl
theorem ST_known {nm : Nat → Int64} {cnt j : Nat} (h : K i = 37) (hj : j < 2 ^ 31) (hx : ix nm cnt (Wd i) = nI j) : p_known K Wd nm cnt (ST K i et ac nn) = ST K (i + 1) et ac nn := by
  show p_step K (decide (K i = 37)) (p_ci (decide (K i = 37) && decide (ix nm cnt (Wd i) < 0)) 3 (ST K i et ac nn)) = _
  rw [hx, decide_eq_true h, decide_eq_false (nI_pos hj)]
  rfl
theorem ST_beg (h : ac + 1 ≤ 80) : p_beg K (ST K i et ac nn) = ST K (i + 1) et (ac + 1) (nn + 1) := by
  show p_step K true (p_cnt (ST K i et ac (nn + 1))) = _
  rw [ST_cnt h]
  rfl
theorem lex_num : ∀ n, n < 1000 → lex (dg n) = [(38, Int64.ofNat n)] := by decide +kernel
theorem num_int : ∀ n, n < 1000 → (Int64.ofNat n).toInt32 = nI n := by decide +kernel
theorem lex_pT : ∀ j, j < 8 → lex (pT j) = [(37, nmw 112 j)] := by decide +kernel
theorem lex_meas : ∀ s, s < 6 → 1 ≤ s → lex (kt (32 + s)) = [(18 + s, q_wrd.getD (18 + s) 0)] ∧ b_cont (18 + s) = false ∧ b_meas (18 + s) = true := by decide +kernel
theorem lex_cont : ∀ s, s < 11 → 6 ≤ s → lex (kt (32 + s)) = [(ckd s, q_wrd.getD (ckd s) 0)] ∧ b_cont (ckd s) = true ∧ ckd s ≠ 38 := by decide +kernel
theorem lex_sign : ∀ s, s < 15 → 11 ≤ s → (∃ w, lex (kt (32 + s)) = [(22 + s, w)]) ∧ b_vsign (22 + s) = true ∧ sl (kt (32 + s)) = true ∧ sr (kt (32 + s)) = true ∧ kt (32 + s) ≠ [] := by
  intro s h1 h2
  rcases (show s = 11 ∨ s = 12 ∨ s = 13 ∨ s = 14 by omega) with rfl | rfl | rfl | rfl
  · exact ⟨⟨-53, by decide +kernel⟩, by decide +kernel, by decide +kernel, by decide +kernel, by decide +kernel⟩
  · exact ⟨⟨-51, by decide +kernel⟩, by decide +kernel, by decide +kernel, by decide +kernel, by decide +kernel⟩
  · exact ⟨⟨-54, by decide +kernel⟩, by decide +kernel, by decide +kernel, by decide +kernel, by decide +kernel⟩
  · exact ⟨⟨-49, by decide +kernel⟩, by decide +kernel, by decide +kernel, by decide +kernel, by decide +kernel⟩
/-- a value without others -/
theorem PVL {pn s k : Nat} {D : q_D} {V : List Int32} (h : LF pn s k D V) (hpn : pn ≤ 8) (hN : NMS pN pn 112) (hT : TOK K Wd i (lex V)) (F : p_S → p_S) (M : p_S → q_D) (b : Bool) : ∃ nn', p_val1 K Wd pN pn F b (ST K i et ac nn) = ST K (i + (lex V).length) et ac nn' ∧ p_valD1 K Wd pN pn F M b (ST K i et ac nn) = D := by
  rcases h with ⟨-, hk, hD, hV⟩ | ⟨h1, h2, hD, hV⟩ | ⟨h1, h2, hk, hD, hV⟩
  · rw [hV, lex_num k hk] at hT ⊢
    obtain ⟨t1, t2, -⟩ := hT
    have t1 : K i = 38 := t1
    have t2 : Wd i = Int64.ofNat k := t2
    refine ⟨nn + 1, ?_, ?_⟩
    · unfold p_val1
      rw [if_pos (show (ST K i et ac nn).2.1 = 38 from t1), ST_new, ST_take t1]
      rfl
    · unfold p_valD1
      rw [if_pos (show (ST K i et ac nn).2.1 = 38 from t1), hD]
      funext hd v
      show (Wd i).toInt32 = nI k
      rw [t2, num_int k hk]
  · obtain ⟨e1, e2, e3⟩ := lex_meas s (by omega) h1
    rw [hV, e1] at hT ⊢
    obtain ⟨t1, -, -⟩ := hT
    have t1 : K i = 18 + s := t1
    refine ⟨nn + 1, ?_, ?_⟩
    · unfold p_val1
      rw [if_neg (show ¬ (ST K i et ac nn).2.1 = 38 from by show ¬ K i = 38; omega), if_neg (show ¬ b_cont (ST K i et ac nn).2.1 = true from by show ¬ b_cont (K i) = true; rw [t1, e2]; decide), if_neg (show ¬ ((ST K i et ac nn).2.1 = 27 ∧ b = true) from fun e => by have e : K i = 27 := e.1; omega)]
      rw [show b_meas (ST K i et ac nn).2.1 = true from by show b_meas (K i) = true; rw [t1]; exact e3, ST_new, ST_step]
      rfl
    · unfold p_valD1
      rw [if_neg (show ¬ (ST K i et ac nn).2.1 = 38 from by show ¬ K i = 38; omega), if_neg (show ¬ b_cont (ST K i et ac nn).2.1 = true from by show ¬ b_cont (K i) = true; rw [t1, e2]; decide), if_neg (show ¬ ((ST K i et ac nn).2.1 = 27 ∧ b = true) from fun e => by have e : K i = 27 := e.1; omega), hD]
      show d_meas (K i) = _
      rw [t1]
  · obtain ⟨e1, e2, e3⟩ := lex_cont s (by omega) h1
    have e4 : lex (kt (32 + s) ++ kt 8 ++ pT k) = [(ckd s, q_wrd.getD (ckd s) 0)] ++ [(24, 486)] ++ [(37, nmw 112 k)] := by
      rw [lex_app (sr_jn (sr_app (by decide +kernel) (by decide +kernel))), lex_app (sl_jn (by decide +kernel)), e1, lex_pT k (by omega), show lex (kt 8) = [(24, 486)] from by decide +kernel]
    rw [hV, e4] at hT ⊢
    obtain ⟨t1, -, t2, -, t3, t4, -⟩ := hT
    have t1 : K i = ckd s := t1
    have t2 : K (i + 1) = 24 := t2
    have t3 : K (i + 1 + 1) = 37 := t3
    have t4 : Wd (i + 1 + 1) = nmw 112 k := t4
    have c1 : ¬ (ST K i et ac nn).2.1 = 38 := by show ¬ K i = 38; rw [t1]; exact e3
    have c2 : b_cont (ST K i et ac nn).2.1 = true := by show b_cont (K i) = true; rw [t1]; exact e2
    refine ⟨nn + 1, ?_, ?_⟩
    · unfold p_val1
      rw [if_neg c1, if_pos c2, ST_new, ST_step, ST_take t2, ST_known (j := k) t3 (by omega) (by rw [t4]; exact hN k hk)]
      rfl
    · unfold p_valD1
      rw [if_neg c1, if_pos c2, ST_new, ST_step, ST_take t2, hD]
      show d_cont (K i) (ix pN pn (Wd (i + 1 + 1))).toNatClampNeg = _
      rw [t1, t4, hN k hk, nI_clamp (by omega)]
theorem lex_bin {s : Nat} {V1 V2 : List Int32} {w : Int64} (h1 : 11 ≤ s) (h2 : s ≤ 14) (hw : lex (kt (32 + s)) = [(22 + s, w)]) : lex (kt 9 ++ V1 ++ kt (32 + s) ++ V2 ++ kt 10) = [(27, -56)] ++ lex V1 ++ [(22 + s, w)] ++ lex V2 ++ [(28, -55)] := by
  obtain ⟨-, -, e3, e4, e5⟩ := lex_sign s (by omega) h1
  rw [lex_app (sl_jn (by decide +kernel)), lex_app (sr_jn (sr_app e4 e5)), lex_app (sl_jn e3), lex_app (sr_jn (by decide +kernel)), hw, show lex (kt 9) = [(27, -56)] from by decide +kernel, show lex (kt 10) = [(28, -55)] from by decide +kernel]
/-- a value -/
theorem PV {pn : Nat} {P : Nat → Prop} {f : q_H} (hpn : pn ≤ 8) (hN : NMS pN pn 112) : ∀ (e a : Nat) (D : q_D) (V : List Int32), NODE pn P f e a D V → ∀ (d : Nat), e ≤ d → ∀ (i et ac nn : Nat), TOK K Wd i (lex V) → ∃ nn', p_val K Wd pN pn d (ST K i et ac nn) = ST K (i + (lex V).length) et ac nn' ∧ p_valD K Wd pN pn d (ST K i et ac nn) = D
  | 0, _, _, _, ⟨_, s, k, x, y, _, h⟩, d, _, i, et, ac, nn, hT => by
    cases d with
    | zero => exact PVL h hpn hN hT id (fun _ _ _ => 0) false
    | succ d => exact PVL h hpn hN hT (p_val K Wd pN pn d) (p_valD K Wd pN pn d) true
  | e + 1, _, _, _, Or.inl ⟨_, s, k, x, y, _, h⟩, d, _, i, et, ac, nn, hT => by
    cases d with
    | zero => exact PVL h hpn hN hT id (fun _ _ _ => 0) false
    | succ d => exact PVL h hpn hN hT (p_val K Wd pN pn d) (p_valD K Wd pN pn d) true
  | e + 1, _, D, V, Or.inr ⟨_, s, x, y, D1, D2, V1, V2, h1, h2, _, n1, n2, hD, hV⟩, d, hd, i, et, ac, nn, hT => by
    obtain ⟨d, rfl⟩ : ∃ d', d = d' + 1 := ⟨d - 1, by omega⟩
    obtain ⟨⟨w, hw⟩, hvs, -, -, -⟩ := lex_sign s (by omega) h1
    have hL := lex_bin (V1 := V1) (V2 := V2) h1 h2 hw
    rw [hV, hL] at hT ⊢
    obtain ⟨hT, t5⟩ := TOK.app hT
    obtain ⟨hT, t4⟩ := TOK.app hT
    obtain ⟨hT, t3⟩ := TOK.app hT
    obtain ⟨t1, t2⟩ := TOK.app hT
    simp only [List.length_append, List.length_cons, List.length_nil] at t2 t3 t4 t5 ⊢
    have k1 : K i = 27 := t1.1
    obtain ⟨m1, e1, f1⟩ := PV hpn hN e x D1 V1 n1 d (by omega) (i + (0 + 1)) et ac (nn + 1) t2
    have k3 : K (i + (0 + 1) + (lex V1).length) = 22 + s := by rw [Nat.add_assoc]; exact t3.1
    obtain ⟨m2, e2, f2⟩ := PV hpn hN e y D2 V2 n2 d (by omega) (i + (0 + 1) + (lex V1).length + 1) et ac m1 (by rw [show i + (0 + 1) + (lex V1).length + 1 = i + (0 + 1 + (lex V1).length + (0 + 1)) by omega]; exact t4)
    have k5 : K (i + (0 + 1) + (lex V1).length + 1 + (lex V2).length) = 28 := by rw [show i + (0 + 1) + (lex V1).length + 1 + (lex V2).length = i + (0 + 1 + (lex V1).length + (0 + 1) + (lex V2).length) by omega]; exact t5.1
    have c1 : ¬ (ST K i et ac nn).2.1 = 38 := by show ¬ K i = 38; omega
    have c2 : ¬ b_cont (ST K i et ac nn).2.1 = true := by show ¬ b_cont (K i) = true; rw [k1]; decide
    have c3 : (ST K i et ac nn).2.1 = 27 ∧ true = true := ⟨k1, rfl⟩
    have hm : p_mid K (ST K (i + (0 + 1) + (lex V1).length) et ac m1) = ST K (i + (0 + 1) + (lex V1).length + 1) et ac m1 := by
      show p_step K (b_vsign (K (i + (0 + 1) + (lex V1).length))) (ST K (i + (0 + 1) + (lex V1).length) et ac m1) = _
      rw [show b_vsign (K (i + (0 + 1) + (lex V1).length)) = true from by rw [k3]; exact hvs]
      rfl
    refine ⟨m2, ?_, ?_⟩
    · show p_val1 K Wd pN pn (p_val K Wd pN pn d) true (ST K i et ac nn) = _
      unfold p_val1
      rw [if_neg c1, if_neg c2, if_pos c3, ST_new, ST_take k1, e1, hm, e2, ST_take k5]
      rw [show i + (0 + 1) + (lex V1).length + 1 + (lex V2).length + 1 = i + (0 + 1 + (lex V1).length + (0 + 1) + (lex V2).length + (0 + 1)) by omega]
    · show p_valD1 K Wd pN pn (p_val K Wd pN pn d) (p_valD K Wd pN pn d) true (ST K i et ac nn) = _
      unfold p_valD1
      rw [if_neg c1, if_neg c2, if_pos c3, ST_new, ST_take k1, e1, hm, f1, f2, hD]
      show (fun hd v => d_bin (K (i + (0 + 1) + (lex V1).length)) (D1 hd v) (D2 hd v)) = _
      rw [k3]
/-- a compare -/
theorem lex_cmp : ∀ s, s < 3 → (∃ w, lex (kt (47 + s)) = [(30 + s, w)]) ∧ b_csign (30 + s) = true ∧ sl (kt (47 + s)) = true ∧ sr (kt (47 + s)) = true ∧ kt (47 + s) ≠ [] := by
  intro s h
  rcases (show s = 0 ∨ s = 1 ∨ s = 2 by omega) with rfl | rfl | rfl
  · exact ⟨⟨-36, by decide +kernel⟩, by decide +kernel, by decide +kernel, by decide +kernel, by decide +kernel⟩
  · exact ⟨⟨-34, by decide +kernel⟩, by decide +kernel, by decide +kernel, by decide +kernel, by decide +kernel⟩
  · exact ⟨⟨-35, by decide +kernel⟩, by decide +kernel, by decide +kernel, by decide +kernel, by decide +kernel⟩
theorem lex_cV1 {x : CT} {w : Int64} (h : x.1 < 3) (hw : lex (kt (47 + x.1)) = [(30 + x.1, w)]) : lex (cV1 x) = lex x.2.1.2.2 ++ [(30 + x.1, w)] ++ lex x.2.2.2.2 := by
  obtain ⟨-, -, e3, e4, e5⟩ := lex_cmp x.1 h
  unfold cV1
  rw [lex_app (sr_jn (sr_app e4 e5)), lex_app (sl_jn e3), hw]
theorem PC1 {pn : Nat} {P : Nat → Prop} {f : q_H} (hpn : pn ≤ 8) (hN : NMS pN pn 112) {x : CT} (hx : x.1 < 3) (n1 : NODE pn P f 0 x.2.1.1 x.2.1.2.1 x.2.1.2.2) (n2 : NODE pn P f 0 x.2.2.1 x.2.2.2.1 x.2.2.2.2) (hT : TOK K Wd i (lex (cV1 x))) : ∃ nn', p_cmp K Wd pN pn (ST K i et ac nn) = ST K (i + (lex (cV1 x)).length) et ac nn' ∧ ∀ C, p_cmpC K Wd pN pn (ST K i et ac nn) C = fun hd v => c_cmp (30 + x.1) (x.2.1.2.1 hd v) (x.2.2.2.1 hd v) && C hd v := by
  obtain ⟨⟨w, hw⟩, hcs, -, -, -⟩ := lex_cmp x.1 hx
  rw [lex_cV1 hx hw] at hT ⊢
  obtain ⟨hT, t3⟩ := TOK.app hT
  obtain ⟨t1, t2⟩ := TOK.app hT
  simp only [List.length_append, List.length_cons, List.length_nil] at t3 ⊢
  obtain ⟨m1, e1, f1⟩ := PV hpn hN 0 _ _ _ n1 4 (Nat.zero_le _) i et ac nn t1
  have k2 : K (i + (lex x.2.1.2.2).length) = 30 + x.1 := t2.1
  have hs : p_cs K (ST K (i + (lex x.2.1.2.2).length) et ac m1) = ST K (i + (lex x.2.1.2.2).length + 1) et ac (m1 + 1) := by
    show p_step K (b_csign (K (i + (lex x.2.1.2.2).length))) (ST K (i + (lex x.2.1.2.2).length) et ac (m1 + 1)) = _
    rw [show b_csign (K (i + (lex x.2.1.2.2).length)) = true from by rw [k2]; exact hcs]
    rfl
  obtain ⟨m2, e2, f2⟩ := PV hpn hN 0 _ _ _ n2 4 (Nat.zero_le _) (i + (lex x.2.1.2.2).length + 1) et ac (m1 + 1) (by rw [Nat.add_assoc]; exact t3)
  refine ⟨m2, ?_, fun C => ?_⟩
  · unfold p_cmp
    rw [e1, hs, e2]
    rw [show i + (lex x.2.1.2.2).length + 1 + (lex x.2.2.2.2).length = i + ((lex x.2.1.2.2).length + (0 + 1) + (lex x.2.2.2.2).length) by omega]
  · unfold p_cmpC
    rw [e1, hs, f1, f2]
    show (fun hd v => c_cmp (K (i + (lex x.2.1.2.2).length)) (x.2.1.2.1 hd v) (x.2.2.2.1 hd v) && C hd v) = _
    rw [k2]
theorem sl_cVs : ∀ L : List CT, sl (cVs L) = true
  | [] => by decide +kernel
  | x :: L => sl_app (W := kt 27 ++ cV1 x) (sl_app (by decide +kernel) (by decide +kernel)) (by rw [show kt 27 = 32 :: (kt 27).tail from by decide +kernel]; exact List.cons_ne_nil _ _)
theorem lex_cVs {x : CT} {L : List CT} : lex (cVs (x :: L)) = [(17, 1476)] ++ lex (cV1 x) ++ lex (cVs L) := by
  show lex (kt 27 ++ cV1 x ++ cVs L) = _
  rw [lex_app (sl_jn (sl_cVs L)), lex_app (sr_jn (by decide +kernel)), show lex (kt 27) = [(17, 1476)] from by decide +kernel]
theorem lex_cV {x : CT} {L : List CT} : lex (cV (x :: L)) = [(16, 294)] ++ lex (cV1 x) ++ lex (cVs L) := by
  show lex (kt 26 ++ cV1 x ++ cVs L) = _
  rw [lex_app (sl_jn (sl_cVs L)), lex_app (sr_jn (by decide +kernel)), show lex (kt 26) = [(16, 294)] from by decide +kernel]
def cCa : List CT → (q_V → q_V → Bool) → q_V → q_V → Bool
  | [], C => C
  | x :: L, C => cCa L (fun hd v => c_cmp (30 + x.1) (x.2.1.2.1 hd v) (x.2.2.2.1 hd v) && C hd v)
/-- compares, one behind the other -/
theorem PCS {pn : Nat} {P : Nat → Prop} {f : q_H} (hpn : pn ≤ 8) (hN : NMS pN pn 112) : ∀ (L : List CT) (x : CT) (m i et ac nn : Nat) (C : q_V → q_V → Bool), (∀ y ∈ x :: L, y.1 < 3 ∧ NODE pn P f 0 y.2.1.1 y.2.1.2.1 y.2.1.2.2 ∧ NODE pn P f 0 y.2.2.1 y.2.2.2.1 y.2.2.2.2) → L.length < m → TOK K Wd i (lex (cV1 x) ++ lex (cVs L)) → K (i + (lex (cV1 x) ++ lex (cVs L)).length) ≠ 17 →
    ∃ nn', p_cmps K Wd pN pn m (ST K i et ac nn) = ST K (i + (lex (cV1 x) ++ lex (cVs L)).length) et ac nn' ∧ p_cmpsC K Wd pN pn m (ST K i et ac nn) C = cCa (x :: L) C
  | L, x, 0, _, _, _, _, _, _, h, _, _ => absurd h (Nat.not_lt_zero _)
  | [], x, m + 1, i, et, ac, nn, C, hy, _, hT, hK => by
    rw [show lex (cVs ([] : List CT)) = [] from rfl, List.append_nil] at hT hK ⊢
    obtain ⟨h1, h2, h3⟩ := hy x (List.mem_cons_self ..)
    obtain ⟨m1, e1, f1⟩ := PC1 (et := et) (ac := ac) (nn := nn) hpn hN h1 h2 h3 hT
    refine ⟨m1, ?_, ?_⟩
    · show (if (p_cmp K Wd pN pn (ST K i et ac nn)).2.1 = 17 then _ else p_cmp K Wd pN pn (ST K i et ac nn)) = _
      rw [if_neg (by rw [e1]; exact hK), e1]
    · show (if (p_cmp K Wd pN pn (ST K i et ac nn)).2.1 = 17 then _ else p_cmpC K Wd pN pn (ST K i et ac nn) C) = _
      rw [if_neg (by rw [e1]; exact hK), f1]
      rfl
  | y :: L, x, m + 1, i, et, ac, nn, C, hy, hm, hT, hK => by
    obtain ⟨h1, h2, h3⟩ := hy x (List.mem_cons_self ..)
    obtain ⟨t1, t2⟩ := TOK.app hT
    obtain ⟨m1, e1, f1⟩ := PC1 (et := et) (ac := ac) (nn := nn) hpn hN h1 h2 h3 t1
    rw [lex_cVs, List.append_assoc] at t2 hK ⊢
    obtain ⟨t3, t4⟩ := TOK.app t2
    have k1 : K (i + (lex (cV1 x)).length) = 17 := t3.1
    have el : i + (lex (cV1 x)).length + 1 + (lex (cV1 y) ++ lex (cVs L)).length = i + (lex (cV1 x) ++ ([(17, 1476)] ++ (lex (cV1 y) ++ lex (cVs L)))).length := by
      simp only [List.length_append, List.length_cons, List.length_nil]
      omega
    obtain ⟨m2, e2, f2⟩ := PCS hpn hN L y m (i + (lex (cV1 x)).length + 1) et ac m1 (fun hd v => c_cmp (30 + x.1) (x.2.1.2.1 hd v) (x.2.2.2.1 hd v) && C hd v) (fun z hz => hy z (List.mem_cons_of_mem _ hz)) (Nat.lt_of_succ_lt_succ hm) t4 (by rw [el]; exact hK)
    rw [el] at e2
    refine ⟨m2, ?_, ?_⟩
    · show (if (p_cmp K Wd pN pn (ST K i et ac nn)).2.1 = 17 then p_cmps K Wd pN pn m (p_take K 17 (p_cmp K Wd pN pn (ST K i et ac nn))) else _) = _
      rw [if_pos (by rw [e1]; exact k1), e1, ST_take k1, e2]
    · show (if (p_cmp K Wd pN pn (ST K i et ac nn)).2.1 = 17 then p_cmpsC K Wd pN pn m (p_take K 17 (p_cmp K Wd pN pn (ST K i et ac nn))) (p_cmpC K Wd pN pn (ST K i et ac nn) C) else _) = _
      rw [if_pos (by rw [e1]; exact k1), e1, ST_take k1, f1, f2]
      rfl
theorem cCa_eq {C : List CT} (h1 : 1 ≤ C.length) (h2 : C.length ≤ 2) : cCa C (fun _ _ => true) = cC C.reverse := by
  rcases C with _ | ⟨x0, _ | ⟨x1, _ | ⟨x2, C⟩⟩⟩
  · exact absurd h1 (by decide)
  · rfl
  · rfl
  · exact absurd h2 (by show ¬ C.length + 1 + 1 + 1 ≤ 2; omega)
theorem CMPS.all {pn : Nat} {P : Nat → Prop} {E : q_E} {f : q_H} {sg on ot : Nat} {L : List CT} (h : CMPS pn P E f sg on ot L) : ∀ y ∈ L, y.1 < 3 ∧ NODE pn P f 0 y.2.1.1 y.2.1.2.1 y.2.1.2.2 ∧ NODE pn P f 0 y.2.2.1 y.2.2.2.1 y.2.2.2.2 := by
  obtain ⟨gs, go, gt, -, -, -, -, -, -, r⟩ := h
  intro y hy
  obtain ⟨j, hj⟩ := List.mem_iff_getElem?.mp hy
  obtain ⟨-, a, -, -, b, c⟩ := r j y hj
  exact ⟨a, b, c⟩
end TS
