/-! a book that is told, read -/
def pnR (h p : Nat) : List Int32 := kt 0 ++ pT p ++ kt 2 ++ dg h ++ kt 3
def pnT : List Nat → Nat → List Int32
  | [], _ => []
  | h :: H, p => pnR h p ++ pnT H (p + 1)
def rcR (L : List LT) (c : Nat) : List Int32 := kt 4 ++ [nI (97 + c)] ++ bT L ++ kt 30
def rcT : List (List LT) → Nat → List Int32
  | [], _ => []
  | L :: C, c => rcR L c ++ rcT C (c + 1)
def rcC : List (List LT) → Nat
  | [] => 0
  | L :: C => bC L + rcC C
theorem pnT_app : ∀ (H : List Nat) (h p : Nat), pnT (H ++ [h]) p = pnT H p ++ pnR h (p + H.length)
  | [], h, p => by show pnR h p ++ [] = [] ++ pnR h (p + 0); rw [List.append_nil]; rfl
  | x :: H, h, p => by
    show pnR x p ++ pnT (H ++ [h]) (p + 1) = pnR x p ++ pnT H (p + 1) ++ pnR h (p + (H.length + 1))
    rw [pnT_app H h (p + 1), List.append_assoc, show p + 1 + H.length = p + (H.length + 1) by omega]
theorem rcT_app : ∀ (C : List (List LT)) (L : List LT) (c : Nat), rcT (C ++ [L]) c = rcT C c ++ rcR L (c + C.length)
  | [], L, c => by show rcR L c ++ [] = [] ++ rcR L (c + 0); rw [List.append_nil]; rfl
  | x :: C, L, c => by
    show rcR x c ++ rcT (C ++ [L]) (c + 1) = rcR x c ++ rcT C (c + 1) ++ rcR L (c + (C.length + 1))
    rw [rcT_app C L (c + 1), List.append_assoc, show c + 1 + C.length = c + (C.length + 1) by omega]
theorem rcC_app : ∀ (C : List (List LT)) (L : List LT), rcC (C ++ [L]) = rcC C + bC L
  | [], L => by show bC L + 0 = 0 + bC L; omega
  | x :: C, L => by
    show bC x + rcC (C ++ [L]) = bC x + rcC C + bC L
    rw [rcC_app C L, Nat.add_assoc]
theorem ixF_eq {nm nm' : Nat → Int64} {w : Int64} : ∀ (m j : Nat), (∀ q, j ≤ q → q < j + m → nm q = nm' q) → ixF nm w m j = ixF nm' w m j
  | 0, _, _ => rfl
  | m + 1, j, h => by
    show (if nm j = w then nI j else ixF nm w m (j + 1)) = (if nm' j = w then nI j else ixF nm' w m (j + 1))
    rw [h j (Nat.le_refl _) (by omega), ixF_eq m (j + 1) (fun q h1 h2 => h q (by omega) (by omega))]
theorem ix_eq {nm nm' : Nat → Int64} {cnt : Nat} {w : Int64} (h : ∀ j, j < cnt → nm j = nm' j) : ix nm cnt w = ix nm' cnt w := ixF_eq cnt 0 (fun q _ h2 => h q (by omega))
theorem ix_nm : ∀ cnt, cnt < 9 → ∀ k, k < 9 → (ix (nmw 112) cnt (nmw 112 k) = (if k < cnt then nI k else -1)) ∧ (ix (nmw 114) cnt (nmw 114 k) = (if k < cnt then nI k else -1)) ∧ ix (nmw 112) cnt (nmw 114 k) = -1 := by decide +kernel
section TB
variable {K : Nat → Nat} {Wd : Nat → Int64}
theorem NMS_112 {pN : Nat → Int64} {pn : Nat} (h : ∀ j, j < pn → pN j = nmw 112 j) (hp : pn ≤ 8) : NMS pN pn 112 := fun j hj => by
  rw [ix_eq h, (ix_nm pn (by omega) j (by omega)).1, if_pos hj]
theorem NMS_114 {rN : Nat → Int64} {rc : Nat} (h : ∀ j, j < rc → rN j = nmw 114 j) (hp : rc ≤ 6) : NMS rN rc 114 := fun j hj => by
  rw [ix_eq h, (ix_nm rc (by omega) j (by omega)).2.1, if_pos hj]
theorem ST_newn {pN rN : Nat → Int64} {pn rc i et ac nn : Nat} (h : K i = 37) (h1 : ix pN pn (Wd i) = -1) (h2 : ix rN rc (Wd i) = -1) : p_newn K Wd pN pn rN rc false (ST K i et ac nn) = ST K (i + 1) et ac nn := by
  have ht : p_tak pN pn rN rc (Wd i) = false := by
    unfold p_tak
    rw [h1, h2]
    decide
  show p_take K 37 (if K i = 37 then (if p_tak pN pn rN rc (Wd i) = true then p_ci true 2 (ST K i et ac nn) else p_ci false 4 (ST K i et ac nn)) else ST K i et ac nn) = _
  rw [if_pos h, ht, if_neg (by decide)]
  exact ST_take h
theorem sl_kt0 {H : List Nat} {p : Nat} (W : List Int32) : jn (W ++ kt 3) (pnT H p) := sr_jn (sr_app (by decide +kernel) (by decide +kernel))
theorem lex_pnR {h p : Nat} (hh : h < 1000) (hp : p < 8) : lex (pnR h p) = [(0, 16430)] ++ [(37, nmw 112 p)] ++ [(1, 8892563)] ++ [(38, Int64.ofNat h)] ++ [(29, -37)] := by
  unfold pnR
  rw [lex_app (sl_jn (by decide +kernel)), lex_app (sr_jn (sr_app (by decide +kernel) (by decide +kernel))), lex_app (sl_jn (by decide +kernel)), lex_app (sr_jn (by decide +kernel)), lex_pT p hp, lex_num h hh, show lex (kt 0) = [(0, 16430)] from by decide +kernel, show lex (kt 2) = [(1, 8892563)] from by decide +kernel, show lex (kt 3) = [(29, -37)] from by decide +kernel]
theorem lex_pnT {h p : Nat} {H : List Nat} : lex (pnT (h :: H) p) = lex (pnR h p) ++ lex (pnT H (p + 1)) := lex_app (sr_jn (sr_app (by decide +kernel) (by decide +kernel)))
theorem PPAN {pN : Nat → Int64} {p h i et ac nn : Nat} (hh : 1 ≤ h) (hh2 : h ≤ 200) (hp : p < 8) (hN : ∀ j, j < p → pN j = nmw 112 j) (hT : TOK K Wd i (lex (pnR h p))) : K i = 0 ∧ Wd (p_take K 0 (ST K i et ac nn)).1 = nmw 112 p ∧ p_panX K Wd p pN (ST K i et ac nn) = nI h ∧ p_panS K Wd p pN (ST K i et ac nn) = ST K (i + 5) et ac nn := by
  rw [lex_pnR (by omega) hp] at hT
  obtain ⟨k0, -, k1, w1, k2, -, k3, w3, k4, -, -⟩ := hT
  have k0 : K i = 0 := k0
  have k1 : K (i + 1) = 37 := k1
  have w1 : Wd (i + 1) = nmw 112 p := w1
  have k2 : K (i + 1 + 1) = 1 := k2
  have k3 : K (i + 1 + 1 + 1) = 38 := k3
  have w3 : Wd (i + 1 + 1 + 1) = Int64.ofNat h := w3
  have k4 : K (i + 1 + 1 + 1 + 1) = 29 := k4
  have hho : p_hold K Wd p pN (ST K i et ac nn) = ST K (i + 1 + 1 + 1) et ac nn := by
    unfold p_hold
    rw [show decide (8 ≤ p) = false from decide_eq_false (by omega), ST_take k0, ST_newn k1 (by rw [w1, ix_eq hN, (ix_nm p (by omega) p (by omega)).1, if_neg (Nat.lt_irrefl _)]) rfl, ST_take k2]
  have hX : p_panX K Wd p pN (ST K i et ac nn) = nI h := by
    unfold p_panX
    rw [hho]
    show (Wd (i + 1 + 1 + 1)).toInt32 = _
    rw [w3, num_int h (by omega)]
  refine ⟨k0, by rw [ST_take k0]; exact w1, hX, ?_⟩
  unfold p_panS
  rw [hX, hho, decide_eq_false (show ¬ nI h < 1 from nI_nlt (a := h) (b := 1) hh (by omega)), decide_eq_false (show ¬ (200 : Int32) < nI h from nI_nlt (a := 200) (b := h) hh2 (by decide)), Bool.or_false, Bool.and_false]
  show p_take K 29 (p_take K 38 (ST K (i + 1 + 1 + 1) et ac nn)) = _
  rw [ST_take k3, ST_take k4]
theorem PPANS {et ac nn : Nat} : ∀ (H : List Nat) (m p i : Nat) (pN : Nat → Int64) (hd : Nat → Int32), (∀ h ∈ H, 1 ≤ h ∧ h ≤ 200) → p + H.length ≤ 8 → H.length < m → TOK K Wd i (lex (pnT H p)) → K (i + (lex (pnT H p)).length) ≠ 0 → (∀ j, j < p → pN j = nmw 112 j) →
    ∃ pN' hd', b_pans K Wd m (ST K i et ac nn) p pN hd = (ST K (i + (lex (pnT H p)).length) et ac nn, p + H.length, pN', hd') ∧ (∀ j, j < p + H.length → pN' j = nmw 112 j) ∧ (∀ j, j < p → hd' j = hd j) ∧ ∀ j, j < H.length → hd' (p + j) = nI (H.getD j 0)
  | _, 0, _, _, _, _, _, _, h, _, _, _ => absurd h (Nat.not_lt_zero _)
  | [], m + 1, p, i, pN, hd, _, _, _, _, hK, hN => ⟨pN, hd, if_neg (show ¬ K i = 0 from hK), hN, fun _ _ => rfl, fun _ h => absurd h (Nat.not_lt_zero _)⟩
  | h :: H, m + 1, p, i, pN, hd, hH, hp, hm, hT, hK, hN => by
    have hp : p + (H.length + 1) ≤ 8 := hp
    obtain ⟨h1, h2⟩ := hH h (List.mem_cons_self ..)
    rw [lex_pnT] at hT hK ⊢
    obtain ⟨t1, t2⟩ := TOK.app hT
    obtain ⟨k0, w1, hX, hS⟩ := PPAN (et := et) (ac := ac) (nn := nn) h1 h2 (by omega) hN t1
    have hl : (lex (pnR h p)).length = 5 := by rw [lex_pnR (by omega) (by omega)]; rfl
    rw [List.length_append, hl, ← Nat.add_assoc] at hK ⊢
    rw [hl] at t2
    obtain ⟨pN', hd', e1, e2, e3, e4⟩ := PPANS H m (p + 1) (i + 5) (vp_updL pN p (nmw 112 p)) (upd hd p (nI h)) (fun x hx => hH x (List.mem_cons_of_mem _ hx)) (by omega) (Nat.lt_of_succ_lt_succ hm) t2 hK (fun j hj => by
      by_cases e : j = p
      · rw [e]; exact if_pos rfl
      · exact (if_neg e).trans (hN j (by omega)))
    refine ⟨pN', hd', ?_, ?_, fun j hj => ?_, fun j hj => ?_⟩
    · refine (if_pos (show (ST K i et ac nn).2.1 = 0 from k0)).trans ((if_pos (by omega)).trans ?_)
      rw [w1, hX, hS, e1]
      show (_, p + 1 + H.length, _, _) = (_, p + (H.length + 1), _, _)
      rw [show p + 1 + H.length = p + (H.length + 1) by omega]
    · intro j hj
      have hj : j < p + (H.length + 1) := hj
      exact e2 j (by omega)
    · rw [e3 j (by omega)]
      exact if_neg (by omega)
    · have hj : j < H.length + 1 := hj
      cases j with
      | zero =>
        show hd' p = nI h
        rw [e3 p (by omega)]
        exact if_pos rfl
      | succ j =>
        show hd' (p + (j + 1)) = nI (H.getD j 0)
        rw [show p + (j + 1) = p + 1 + j by omega]
        exact e4 j (by omega)
theorem lex_rname : ∀ c, c < 6 → lex (kt 4 ++ [nI (97 + c)]) = [(2, 609330693), (37, nmw 114 c)] := by decide +kernel
theorem lex_rcR {L : List LT} {c : Nat} (hc : c < 6) : lex (rcR L c) = [(2, 609330693), (37, nmw 114 c)] ++ lex (bT L) := by
  unfold rcR
  rw [lex_app (sl_jn (by decide +kernel)), lex_app (sl_jn sl_bT), lex_rname c hc, show lex (kt 30) = [] from by decide +kernel, List.append_nil]
theorem lex_rcT {L : List LT} {C : List (List LT)} {c : Nat} : lex (rcT (L :: C) c) = lex (rcR L c) ++ lex (rcT C (c + 1)) := lex_app (sr_jn (sr_app (by decide +kernel) (by decide +kernel)))
theorem PRECS {E : q_E} {P : Nat → Prop} {f : q_H} {pn et : Nat} {pN : Nat → Int64} {RS : Nat → q_S} (hpn : pn ≤ 8) (hN : ∀ j, j < pn → pN j = nmw 112 j) : ∀ (C : List (List LT)) (m c i ac nn : Nat) (rN : Nat → Int64) (RS' : Nat → q_S), (∀ j L, C[j]? = some L → (∀ x ∈ L, LACT E pn (c + j) RS P f 4 x) ∧ RS (c + j) = bS L) → c + C.length ≤ 6 → C.length < m → TOK K Wd i (lex (rcT C c)) → K (i + (lex (rcT C c)).length) ≠ 2 → (∀ j, j < c → rN j = nmw 114 j) → (∀ r, r < c → RS' r = RS r) → ac + rcC C ≤ 80 →
    ∃ nn' rN' RS2, b_recs K Wd pn pN m (ST K i et ac nn) c rN RS' = (ST K (i + (lex (rcT C c)).length) et (ac + rcC C) nn', c + C.length, rN', RS2) ∧ ∀ r, r < c + C.length → RS2 r = RS r
  | _, 0, _, _, _, _, _, _, _, _, h, _, _, _, _, _ => absurd h (Nat.not_lt_zero _)
  | [], m + 1, c, i, ac, nn, rN, RS', _, _, _, _, hK, _, hR, _ => ⟨nn, rN, RS', if_neg (show ¬ K i = 2 from hK), hR⟩
  | L :: C, m + 1, c, i, ac, nn, rN, RS', hC, hc, hm, hT, hK, hM, hR, hac => by
    have hc : c + (C.length + 1) ≤ 6 := hc
    have hac : ac + (bC L + rcC C) ≤ 80 := hac
    obtain ⟨hA, hS⟩ := hC 0 L rfl
    rw [lex_rcT] at hT hK ⊢
    rw [List.length_append, ← Nat.add_assoc] at hK ⊢
    obtain ⟨t1, t2⟩ := TOK.app hT
    have hl : (lex (rcR L c)).length = 2 + (lex (bT L)).length := by rw [lex_rcR (by omega), List.length_append]; rfl
    rw [hl] at t2 hK ⊢
    rw [lex_rcR (by omega)] at t1
    obtain ⟨t1, t3⟩ := TOK.app t1
    obtain ⟨k0, -, k1, w1, -⟩ := t1
    have k0 : K i = 2 := k0
    have k1 : K (i + 1) = 37 := k1
    have w1 : Wd (i + 1) = nmw 114 c := w1
    have hM' : NMS rN c 114 := NMS_114 hM (by omega)
    have hr : p_recS K Wd pn pN c rN (ST K i et ac nn) = ST K (i + 2) et ac nn := by
      unfold p_recS
      rw [show decide (6 ≤ c) = false from decide_eq_false (by omega), ST_take k0, ST_newn k1 (by rw [w1, ix_eq hN]; exact (ix_nm pn (by omega) c (by omega)).2.2) (by rw [w1, ix_eq hM, (ix_nm c (by omega) c (by omega)).2.1, if_neg (Nat.lt_irrefl _)])]
    have hbl := bC_len L
    obtain ⟨m1, e1, f1⟩ := PBLK (RS' := RS') (F := 5) (i := i + 2) (et := et) (ac := ac) (nn := nn) (fun x hx => ⟨PACT (RS' := RS') hpn (by omega) (NMS_112 hN hpn) hM' hR 4 5 x (hA x hx) (by decide) (Nat.le_trans (bC_mem hx) (by omega)), (hA x hx).sr⟩) (by omega) t3 (by omega)
    obtain ⟨m2, rN2, RS2, e2, f2⟩ := PRECS hpn hN C m (c + 1) (i + (2 + (lex (bT L)).length)) (ac + bC L) m1 (vp_updL rN c (nmw 114 c)) (fun r => if r = c then bS L else RS' r) (fun j L' h => by rw [Nat.add_right_comm]; exact hC (j + 1) L' h) (by omega) (Nat.lt_of_succ_lt_succ hm) t2 hK (fun j hj => by
      by_cases e : j = c
      · rw [e]; exact if_pos rfl
      · exact (if_neg e).trans (hM j (by omega))) (fun r hr => by
      show (if r = c then bS L else RS' r) = _
      by_cases e : r = c
      · rw [if_pos e, e]; exact hS.symm
      · rw [if_neg e]; exact hR r (by omega)) (by omega)
    refine ⟨m2, rN2, RS2, ?_, fun r hr => f2 r (by have hr : r < c + (C.length + 1) := hr; omega)⟩
    refine (if_pos (show (ST K i et ac nn).2.1 = 2 from k0)).trans ((if_pos (by omega)).trans ?_)
    rw [hr, e1, f1, show (p_take K 2 (ST K i et ac nn)).1 = i + 1 from by rw [ST_take k0], w1, Nat.add_assoc i 2, e2]
    show (ST K _ et (ac + bC L + rcC C) m2, c + 1 + C.length, rN2, RS2) = (ST K _ et (ac + (bC L + rcC C)) m2, c + (C.length + 1), rN2, RS2)
    rw [show ac + bC L + rcC C = ac + (bC L + rcC C) by omega, show c + 1 + C.length = c + (C.length + 1) by omega]
/-- the whole book: no error, its pans, its recipes -/
theorem PBOOK {E : q_E} {P : Nat → Prop} {f : q_H} {et n : Nat} {RS : Nat → q_S} {H : List Nat} {C : List (List LT)} (hH : ∀ h ∈ H, 1 ≤ h ∧ h ≤ 200) (hH8 : H.length ≤ 8) (hC6 : C.length ≤ 6) (hC1 : 1 ≤ C.length) (hC : ∀ j L, C[j]? = some L → (∀ x ∈ L, LACT E H.length j RS P f 4 x) ∧ RS j = bS L) (hac : rcC C ≤ 80) (hT : TOK K Wd 0 (lex (pnT H 0 ++ rcT C 0))) (hK : K (lex (pnT H 0 ++ rcT C 0)).length = 39) (hj : jn (pnT H 0) (rcT C 0)) :
    (b_P K Wd et n).2.1 = H.length ∧ (∀ j, j < H.length → (b_P K Wd et n).2.2.2 j = nI (H.getD j 0)) ∧ (b_R K Wd et n).2.1 = C.length ∧ (∀ r, r < C.length → (b_R K Wd et n).2.2.2 r = RS r) ∧ (BKp K Wd et n).2.2.1 = 0 ∧ (BKp K Wd et n).2.2.2.2.1 = rcC C := by
  rw [lex_app hj] at hT hK
  obtain ⟨t1, t2⟩ := TOK.app hT
  rw [Nat.zero_add] at t2
  have k2 : K (lex (pnT H 0)).length = 2 := by
    cases C with
    | nil => exact absurd hC1 (by decide)
    | cons L C =>
      rw [lex_rcT, lex_rcR (by decide)] at t2
      exact t2.1
  obtain ⟨pN, hd, e1, e2, -, e4⟩ := PPANS (et := et) (ac := 0) (nn := n) H 400 0 0 (fun _ => 0) (fun _ => 0) hH (by omega) (by omega) t1 (by rw [Nat.zero_add, k2]; decide) (fun j hj => absurd hj (Nat.not_lt_zero _))
  rw [Nat.zero_add, Nat.zero_add] at e1
  have eP : b_P K Wd et n = (ST K (lex (pnT H 0)).length et 0 n, H.length, pN, hd) := e1
  obtain ⟨nn', rN, RS2, e5, e6⟩ := PRECS (et := et) (RS := RS) hH8 (fun j hj => e2 j (by omega)) C 400 0 (lex (pnT H 0)).length 0 n (fun _ => 0) (fun _ => k_nil) (fun j L h => by rw [Nat.zero_add]; exact hC j L h) (by omega) (by omega) t2 (by rw [← List.length_append, hK]; decide) (fun j hj => absurd hj (Nat.not_lt_zero _)) (fun j hj => absurd hj (Nat.not_lt_zero _)) (by omega)
  rw [← List.length_append, Nat.zero_add, Nat.zero_add] at e5
  have eR : b_R K Wd et n = (ST K (lex (pnT H 0) ++ lex (rcT C 0)).length et (rcC C) nn', C.length, rN, RS2) := by
    unfold b_R
    rw [eP]
    exact e5
  have eB : BKp K Wd et n = ST K (lex (pnT H 0) ++ lex (rcT C 0)).length et (rcC C) nn' := by
    unfold BKp
    rw [eR]
    exact if_pos hK
  rw [eP, eR, eB]
  exact ⟨rfl, fun j hj => by have h9 := e4 j hj; rw [Nat.zero_add] at h9; exact h9, rfl, fun r hr => e6 r (by omega), rfl, rfl⟩
end TB
