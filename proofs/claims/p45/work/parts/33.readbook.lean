/-! reading a whole book -/
theorem pS_pS2 {E : q_E} {f : q_H} {px bk T T' pn pn' rc rc' : Nat} {s s2 : p_S} : pS E (pS E f px bk T pn rc s) px bk T' pn' rc' s2 = pS E f px bk T' pn' rc' s2 := by
  funext z
  simp only [pS]
  by_cases e : z = px
  · simp [e]
  · by_cases e1 : z = px + 1
    · simp [e1]
    · by_cases e2 : z = bk
      · simp [e2]
      · simp [e, e1, e2]
theorem pS_in {E : q_E} {f g : q_H} {px bk T pn rc : Nat} {s : p_S} (h : ∀ z, z ≠ px → z ≠ px + 1 → z ≠ bk → f z = g z) : pS E f px bk T pn rc s = pS E g px bk T pn rc s := by
  funext z
  unfold pS
  split
  · rfl
  · split
    · rfl
    · split
      · rfl
      · next h1 h2 h3 => exact h z h1 h2 h3
/-- the meaning of one recipe more -/
def rs_up (RS : Nat → q_S) (rc : Nat) (S : q_S) : Nat → q_S := fun r => if r = rc then S else RS r
theorem rRS_up {E : q_E} {pn lo mid hi rc m : Nat} {g G : q_H} {RS : Nat → q_S} {gb : Nat → Option Nat} {o : Option Nat} {S : q_S} (hrc : rc < 6) (h : rRS E pn lo mid g RS gb rc) (hg : ∀ q, lo ≤ q → q < mid → G q = g q) (hm : mid ≤ hi) (h2 : rL E mid hi G (rA E pn mid hi G RS rc 6) m o S) (hlm : lo ≤ mid) : rRS E pn lo hi G (rs_up RS rc S) (va_up gb rc o) (rc + 1) := by
  intro r hr
  have hRS : ∀ r', r' < rc → rs_up RS rc S r' = RS r' := fun r' hr' => if_neg (by omega)
  by_cases e : r = rc
  · subst e
    refine ⟨hrc, m, ?_⟩
    rw [va_up_self, show rs_up RS r S r = S from if_pos rfl]
    exact rL_frame (fun _ _ _ => rfl) hlm (Nat.le_refl _) (fun a S0 h0 => rA_frame (fun _ _ _ => rfl) hlm (Nat.le_refl _) (Nat.le_refl _) hRS 6 a S0 h0) m o S h2
  · obtain ⟨h6, m1, h3⟩ := h r (by omega)
    refine ⟨h6, m1, ?_⟩
    rw [va_up_ne _ _ e, hRS r (by omega)]
    exact rL_frame hg (Nat.le_refl _) hm (fun a S0 h0 => rA_frame hg (Nat.le_refl _) hm (Nat.le_refl _) (fun r' hr' => hRS r' (by omega)) 6 a S0 h0) m1 _ _ h3
/-- what readBook leaves -/
def BKp (K : Nat → Nat) (Wd : Nat → Int64) (et n : Nat) : p_S := p_fin (b_R K Wd et n).1
def BOOKq (E : q_E) (f : q_H) (px bk L : Nat) (g : Nat → Int32) (et : Nat) (K : Nat → Nat) (Wd : Nat → Int64) : Int32 → q_H → Nat → Prop := fun r f1 n1 => ∃ (G : q_H) (T : Nat) (kk : Nat → Option Nat) (po : Nat → Int32) (wo : Nat → Int64) (gb : Nat → Option Nat),
  nI (BKp K Wd et (bk + 5)).2.2.1 = r ∧ pS E G px bk T (b_P K Wd et (bk + 5)).2.1 (b_R K Wd et (bk + 5)).2.1 (BKp K Wd et (bk + 5)) = f1 ∧ (BKp K Wd et (bk + 5)).2.2.2.2.2 = n1 ∧ t_ok E g L T kk po wo ∧
  G (px + 2) = some (aQ E 5 401 kk) ∧ G (px + 3) = some (aI E 401 po) ∧ G (px + 4) = some (aJ E 401 wo) ∧ G (bk + 2) = some (aI E 8 (b_P K Wd et (bk + 5)).2.2.2) ∧ G (bk + 4) = some (aQ E 3 6 gb) ∧
  (∀ q, q < bk → (q < px ∨ px + 4 < q) → G q = f q) ∧ p_ok K T (BKp K Wd et (bk + 5)) ∧ (b_P K Wd et (bk + 5)).2.1 ≤ 8 ∧ (b_R K Wd et (bk + 5)).2.1 ≤ 6 ∧
  ((BKp K Wd et (bk + 5)).2.2.1 = 0 → rRS E (b_P K Wd et (bk + 5)).2.1 (bk + 5) (BKp K Wd et (bk + 5)).2.2.2.2.2 G (b_R K Wd et (bk + 5)).2.2.2 gb (b_R K Wd et (bk + 5)).2.1)
theorem p_ok.fin {K : Nat → Nat} {T : Nat} {s : p_S} (h : p_ok K T s) : p_ok K T (p_fin s) := by
  unfold p_fin
  split
  · exact h
  · exact ⟨h.1, h.2.1, (by show 1 ≤ 5; decide), fun _ => h.1, h.2.2.2.2⟩

theorem newn_n {K : Nat → Nat} {Wd : Nat → Int64} {pn rc : Nat} {pN rN : Nat → Int64} {full : Bool} {s : p_S} : (p_newn K Wd pN pn rN rc full s).2.2.2.2.2 = s.2.2.2.2.2 := by
  unfold p_newn
  show (if s.2.1 = 37 then (if p_tak pN pn rN rc (Wd s.1) = true then p_ci true 2 s else p_ci full 4 s) else s).2.2.2.2.2 = _
  split
  · split <;> rfl
  · rfl
theorem panS_n {K : Nat → Nat} {Wd : Nat → Int64} {pn : Nat} {pN : Nat → Int64} {s : p_S} : (p_panS K Wd pn pN s).2.2.2.2.2 = s.2.2.2.2.2 := by
  show (p_newn K Wd pN pn (fun _ => 0) 0 (decide (8 ≤ pn)) (p_take K 0 s)).2.2.2.2.2 = _
  exact newn_n

set_option maxHeartbeats 4000000 in
set_option maxRecDepth 100000 in
theorem kX8_readBook (l : Launch) (E : q_E) (f : q_H) (n : Nat) (px bk x L : Nat) (g : Nat → Int32) (et : Nat) (bk0 : Nat) (er0 c0 here0 : Int32) (k0 : Nat) (kk0 : Nat → Option Nat) (po0 : Nat → Int32) (wo0 : Nat → Int64) (K : Nat → Nat) (Wd : Nat → Int64) (p0 : f px = some (cPar px bk0 er0 (nI et))) (p1 : f (px + 1) = some (cTok E (px + 1) c0 here0 k0)) (p2 : f (px + 2) = some (aQ E 5 401 kk0)) (p3 : f (px + 3) = some (aI E 401 po0)) (p4 : f (px + 4) = some (aJ E 401 wo0)) (x0 : f x = some (cTape x (nI L))) (x1 : f (x + 1) = some (aB E 1600 g)) (hbn : bk = n) (hL : L ≤ 1600) (hx0 : x + 1 < px ∨ px + 4 < x) (hpb : px + 5 ≤ bk) (hxb : x + 1 < bk) (hKe : K = t_K g L) (hWe : Wd = t_W g L) : Met l yX8_readBook wsX8_readBook ({ frames := 110, cells := (b_R K Wd et (bk + 5)).1.2.2.2.2.2 - bk, slots := 9 * ((b_R K Wd et (bk + 5)).1.2.2.2.2.2 - bk), locals := 1700 }) (q_P E [.ref px, .ref x] f n) (q_Qi E (BOOKq E f px bk L g et K Wd)) ((b_R K Wd et (bk + 5)).1.2.2.2.2.2 - bk) (9 * ((b_R K Wd et (bk + 5)).1.2.2.2.2.2 - bk)) (q_ge E) := by
  refine Met.ofW (cc := cX8_readBook) (maxL := 5) (ret := (some .int)) (by decide) rfl ?_
  intro p e s m args below meth c s₁ B hml hv
  obtain ⟨rfl, hA, hW⟩ := hv
  have hx := B.exec
  have hb := B.bytes
  have hr := B.returns
  have hts := atoms_spec (ws := wsX8_readBook) B.pre
  have hown : s.vm.findClass RX8 = some m.cls := findClass_of_methodNamed B.named
  have hlocks := B.notSynchronized
  have hS : va_S (q_ge E) s.heap s.heap [] := va_S.rf
  have iX10 : ∀ w ∈ wsX100, w ∈ wsX8_readBook := by decide +kernel
  have iX2 : ∀ w ∈ wsX20, w ∈ wsX8_readBook := by decide +kernel
  have iX8 : ∀ w ∈ wsX80, w ∈ wsX8_readBook := by decide +kernel
  have hl := lv_entry ([.ref px, .ref x]) (n := 5) (Nat.le_of_ble_eq_true rfl)
  rw [lg_entry_eq]
  generalize (lg_sl ([.ref px, .ref x]) ++ List.replicate (5 - (lg_sl ([.ref px, .ref x])).length) Slot.unset).toArray = ls at hl ⊢
  have hl : lv_has ls 5 [(0, .ref px), (1, .ref x)] := hl
  subst hbn
  have hK400 : 39 ≤ K 400 := by rw [hKe]; unfold t_K; split; (rw [if_neg (by decide)]; decide); decide
  have ok00 : p_ok K 400 (0, K 0, 0, et, 0, bk + 5) := ⟨Nat.zero_le _, Or.inr rfl, Nat.zero_le _, fun h9 => absurd rfl h9, Nat.zero_le _⟩
  have hNF : bk + 5 ≤ (b_R K Wd et (bk + 5)).1.2.2.2.2.2 := by
    have h1 := go_pans (Wd := Wd) hK400 400 _ 0 (fun _ => 0) (fun _ => 0) ok00
    have h2 := go_recs (Wd := Wd) (pn := (b_P K Wd et (bk + 5)).2.1) (pN := (b_P K Wd et (bk + 5)).2.2.1) hK400 400 _ 0 (fun _ => 0) (fun _ => k_nil) h1.1
    exact Nat.le_trans h1.2.2.1 h2.2.2.1
  refine lv_aload_n hx hb dX8_readBook_0 rfl (lv_at hl 0 rfl) ?_
  refine q_new (ci := 3) hx hb hts hown hA hW hS iX2 tyX2 tyX2_ok (hts (.classLink RX8 16 RX2) (by decide +kernel)) (hts (.instantiable RX2 7) (by decide +kernel)) (hts (.initialized RX2) (by decide +kernel)) rfl (fs := [.null, .null, .null, .null, .int 0, .int 0, .int 0]) (by decide) (by show 0 + 1 ≤ (b_R K Wd et (bk + 5)).1.2.2.2.2.2 - bk; omega) (by show 0 + 7 ≤ 9 * ((b_R K Wd et (bk + 5)).1.2.2.2.2.2 - bk); omega) dX8_readBook_1 (fun H hW hS => ?_)
  have hW : q_W E (va_up f bk (some (rX2 none none none none 0 0 0))) (bk + 1) H := hW
  refine lv_dup hx hb dX8_readBook_4 rfl ?_
  refine q_cv (va_runIN (As := []) (rest := [.ref bk, .ref px]) ⟨hx, hb, hml, hown, hts⟩ (kX2_init l E (va_up f bk (some (rX2 none none none none 0 0 0))) (bk + 1) bk q_eq rfl) ⟨va_cnB 0 hts gX8_readBook_X2_init_n18 rfl rfl rfl (hA.2.2.2.2.1 ("HighRecipes$Parser", 18, ⟨"HighRecipes$Book", "<init>", "()V"⟩, "HighRecipes") (by decide +kernel)) (hts (.initialized RX2) (by decide +kernel)) (by decide +kernel) ⟨(Nat.le_of_ble_eq_true rfl), (Nat.le_of_ble_eq_true rfl)⟩, rfl, hts (.instanceMethod yX2_init) (by decide +kernel)⟩ (q_pS hA hW hS) rfl rfl hl.1 rfl (lv_room (Nat.le_of_ble_eq_true rfl)) dX8_readBook_5 ⟨(by show 1 + 4 ≤ (b_R K Wd et (bk + 5)).1.2.2.2.2.2 - bk; omega), (by show 7 + 28 ≤ 9 * ((b_R K Wd et (bk + 5)).1.2.2.2.2.2 - bk); omega)⟩) hS (fun f_5 n_5 H locs hp hW hS => ?_)
  obtain ⟨rfl, rfl⟩ := hp
  have hW : q_W E (va_up (va_up (va_up (va_up (va_up (va_up f bk (some (rX2 none none none none 0 0 0))) (bk + 1) (some (aJ E 8 (fun _ => 0)))) (bk + 2) (some (aI E 8 (fun _ => 0)))) (bk + 3) (some (aJ E 6 (fun _ => 0)))) (bk + 4) (some (aQ E 3 6 (fun _ => none)))) bk (some (rX2 (some (bk + 1)) (some (bk + 2)) (some (bk + 3)) (some (bk + 4)) 0 0 0))) (bk + 5) H := hW
  refine q_put hx hb hts hown hA hW hS iX8 tyX8 tyX8_ok nmX8 (q_ne (by omega) (q_ne (by omega) (q_ne (by omega) (q_ne (by omega) (q_ne (by omega) (q_ne (by omega) p0)))))) rfl 1 (by decide) (hts (.fieldLink RX8 19 "HighRecipes$Parser" "book" "LHighRecipes$Book;") (by decide +kernel)) (fun _ h9 => h9) rfl rfl rfl (Nat.le_of_ble_eq_true rfl) dX8_readBook_8 (fun H locs hW hS => ?_)
  have hW : q_W E (va_up (va_up (va_up (va_up (va_up (va_up (va_up f bk (some (rX2 none none none none 0 0 0))) (bk + 1) (some (aJ E 8 (fun _ => 0)))) (bk + 2) (some (aI E 8 (fun _ => 0)))) (bk + 3) (some (aJ E 6 (fun _ => 0)))) (bk + 4) (some (aQ E 3 6 (fun _ => none)))) bk (some (rX2 (some (bk + 1)) (some (bk + 2)) (some (bk + 3)) (some (bk + 4)) 0 0 0))) px (some (cPar px bk er0 (nI et)))) (bk + 5) H := hW
  refine lv_aload_n hx hb dX8_readBook_11 rfl (lv_at hl 0 rfl) ?_
  refine lv_iconst (v := 0) hx hb dX8_readBook_12 (by decide) ?_
  refine q_put hx hb hts hown hA hW hS iX8 tyX8 tyX8_ok nmX8 q_eq rfl 2 (by decide) (hts (.fieldLink RX8 23 "HighRecipes$Parser" "error" "I") (by decide +kernel)) (fun _ h9 => h9) rfl rfl rfl (Nat.le_of_ble_eq_true rfl) dX8_readBook_13 (fun H locs hW hS => ?_)
  rw [q_upup] at hW
  have hW : q_W E (va_up (va_up (va_up (va_up (va_up (va_up (va_up f bk (some (rX2 none none none none 0 0 0))) (bk + 1) (some (aJ E 8 (fun _ => 0)))) (bk + 2) (some (aI E 8 (fun _ => 0)))) (bk + 3) (some (aJ E 6 (fun _ => 0)))) (bk + 4) (some (aQ E 3 6 (fun _ => none)))) bk (some (rX2 (some (bk + 1)) (some (bk + 2)) (some (bk + 3)) (some (bk + 4)) 0 0 0))) px (some (cPar px bk 0 (nI et)))) (bk + 5) H := hW
  refine lv_aload_n hx hb dX8_readBook_16 rfl (lv_at hl 0 rfl) ?_
  refine q_get hx hb hts hown hA hW iX8 q_eq rfl 0 (by decide) (hts (.fieldLink RX8 10 "HighRecipes$Parser" "tokens" "LHighRecipes$Tokens;") (by decide +kernel)) (fun _ h9 => h9) (v := .ref (px + 1)) rfl dX8_readBook_17 ?_
  refine lv_aload_n hx hb dX8_readBook_20 rfl (lv_at hl 1 rfl) ?_
  refine q_cv (va_runV (As := [.ref x]) (rest := []) ⟨hx, hb, hml, hown, hts⟩ (kX10_split l E (va_up (va_up (va_up (va_up (va_up (va_up (va_up f bk (some (rX2 none none none none 0 0 0))) (bk + 1) (some (aJ E 8 (fun _ => 0)))) (bk + 2) (some (aI E 8 (fun _ => 0)))) (bk + 3) (some (aJ E 6 (fun _ => 0)))) (bk + 4) (some (aQ E 3 6 (fun _ => none)))) bk (some (rX2 (some (bk + 1)) (some (bk + 2)) (some (bk + 3)) (some (bk + 4)) 0 0 0))) px (some (cPar px bk 0 (nI et)))) (bk + 5) x L g (px + 1) kk0 po0 wo0 c0 here0 k0 (q_ne (by omega) (q_ne (by omega) (q_ne (by omega) (q_ne (by omega) (q_ne (by omega) (q_ne (by omega) (q_ne (by omega) x0))))))) (q_ne (by omega) (q_ne (by omega) (q_ne (by omega) (q_ne (by omega) (q_ne (by omega) (q_ne (by omega) (q_ne (by omega) x1))))))) (q_ne (by omega) (q_ne (by omega) (q_ne (by omega) (q_ne (by omega) (q_ne (by omega) (q_ne (by omega) (q_ne (by omega) p1))))))) (q_ne (by omega) (q_ne (by omega) (q_ne (by omega) (q_ne (by omega) (q_ne (by omega) (q_ne (by omega) (q_ne (by omega) p2))))))) (q_ne (by omega) (q_ne (by omega) (q_ne (by omega) (q_ne (by omega) (q_ne (by omega) (q_ne (by omega) (q_ne (by omega) p3))))))) (q_ne (by omega) (q_ne (by omega) (q_ne (by omega) (q_ne (by omega) (q_ne (by omega) (q_ne (by omega) (q_ne (by omega) p4))))))) (by assumption) (by omega) (by omega)) (cwV 1 hts gX8_readBook_X10_split rfl rfl rfl (by decide +kernel) ⟨(Nat.le_of_ble_eq_true rfl), (Nat.le_of_ble_eq_true rfl)⟩) (q_pV hA hW hS (ci := 10) rfl (q_ne (by omega) (q_ne (by omega) (q_ne (by omega) (q_ne (by omega) (q_ne (by omega) (q_ne (by omega) (q_ne (by omega) p1)))))))) rfl rfl hl.1 rfl (lv_room (Nat.le_of_ble_eq_true rfl)) dX8_readBook_21 ⟨(by show 5 + 0 ≤ (b_R K Wd et (bk + 5)).1.2.2.2.2.2 - bk; omega), (by show 35 + 0 ≤ 9 * ((b_R K Wd et (bk + 5)).1.2.2.2.2.2 - bk); omega)⟩) hS (fun f_21 n_21 H locs hp hW hS => ?_)
  obtain ⟨T, kk, po, wo, htk, rfl, rfl⟩ := hp
  obtain ⟨G0, hG0⟩ : ∃ z, z = tkO E (va_up (va_up (va_up (va_up (va_up (va_up (va_up f bk (some (rX2 none none none none 0 0 0))) (bk + 1) (some (aJ E 8 (fun _ => 0)))) (bk + 2) (some (aI E 8 (fun _ => 0)))) (bk + 3) (some (aJ E 6 (fun _ => 0)))) (bk + 4) (some (aQ E 3 6 (fun _ => none)))) bk (some (rX2 (some (bk + 1)) (some (bk + 2)) (some (bk + 3)) (some (bk + 4)) 0 0 0))) px (some (cPar px bk 0 (nI et)))) (px + 1) kk po wo (cTok E (px + 1) (nI (T + 1)) (nI 0) (t_K g L 0)) := ⟨_, rfl⟩
  rw [← hG0] at hW
  have P0 : G0 px = some (cPar px bk 0 (nI et)) := by rw [hG0]; exact (tkO_out (by omega)).trans q_eq
  have P1 : G0 (px + 1) = some (cTok E (px + 1) (nI (T + 1)) (nI 0) (t_K g L 0)) := by rw [hG0]; exact tkO_0
  have P2 : G0 (px + 2) = some (aQ E 5 401 kk) := by rw [hG0]; exact tkO_1 (t := px + 1)
  have P3 : G0 (px + 3) = some (aI E 401 po) := by rw [hG0]; exact tkO_2 (t := px + 1)
  have P4 : G0 (px + 4) = some (aJ E 401 wo) := by rw [hG0]; exact tkO_3 (t := px + 1)
  have B0 : G0 bk = some (cBook bk (nI 0) (nI 0) (nI 0)) := by rw [hG0]; exact (tkO_out (by omega)).trans (q_ne (by omega) q_eq)
  have B1 : G0 (bk + 1) = some (aJ E 8 (fun _ => 0)) := by rw [hG0]; exact (tkO_out (by omega)).trans (q_ne (by omega) (q_ne (by omega) (q_ne (by omega) (q_ne (by omega) (q_ne (by omega) q_eq)))))
  have B2 : G0 (bk + 2) = some (aI E 8 (fun _ => 0)) := by rw [hG0]; exact (tkO_out (by omega)).trans (q_ne (by omega) (q_ne (by omega) (q_ne (by omega) (q_ne (by omega) q_eq))))
  have B3 : G0 (bk + 3) = some (aJ E 6 (fun _ => 0)) := by rw [hG0]; exact (tkO_out (by omega)).trans (q_ne (by omega) (q_ne (by omega) (q_ne (by omega) q_eq)))
  have B4 : G0 (bk + 4) = some (aQ E 3 6 (fun _ => none)) := by rw [hG0]; exact (tkO_out (by omega)).trans (q_ne (by omega) (q_ne (by omega) q_eq))
  have hF0 : ∀ q, q < bk → (q < px ∨ px + 4 < q) → G0 q = f q := by
    intro q h1 h2
    rw [hG0]
    refine (tkO_out (by omega)).trans ?_
    exact (va_up_ne _ _ (by omega)).trans ((va_up_ne _ _ (by omega)).trans ((va_up_ne _ _ (by omega)).trans ((va_up_ne _ _ (by omega)).trans ((va_up_ne _ _ (by omega)).trans ((va_up_ne _ _ (by omega)).trans (va_up_ne _ _ (by omega)))))))
  obtain ⟨hT, hKT0, hKn, hall⟩ := htk
  have htk : t_ok E g L T kk po wo := ⟨hT, hKT0, hKn, hall⟩
  have hKT : 39 ≤ K T := by rw [hKe]; omega
  have hK41 : ∀ j, K j < 41 := by rw [hKe]; exact fun j => t_K_lt
  have hkk : ∀ j, j ≤ T → kk j = some (E.2.2.2 (K j)) := by rw [hKe]; exact fun j hj => (hall j hj).1
  have hWd : ∀ j, j ≤ T → wo j = Wd j := by rw [hWe]; exact fun j hj => (hall j hj).2.2
  have hbk : px + 5 ≤ bk := hpb
  have ok0 : p_ok K T (0, K 0, 0, et, 0, bk + 5) := ⟨Nat.zero_le _, Or.inr rfl, Nat.zero_le _, fun h9 => absurd rfl h9, Nat.zero_le _⟩
  have hK0 : t_K g L 0 = K 0 := by rw [hKe]
  rw [hK0] at P1
  have hPar : PAR E G0 px bk T 0 0 (0, K 0, 0, et, 0, bk + 5) := ⟨P0, P1, B0⟩
  rw [hPar.eq] at hW
  have K58 : ∀ (pn9 : Nat) (pN9 : Nat → Int64) (hd9 : Nat → Int32) (m9 i9 : Nat) (s9 : p_S) (g9 : q_H) (rc9 : Nat) (rN9 : Nat → Int64) (RS9 : Nat → q_S) (gb9 : Nat → Option Nat), i9 + m9 = 400 → p_ok K T s9 → bk + 5 ≤ s9.2.2.2.2.2 → pn9 ≤ 8 → rc9 ≤ 6 → g9 (px + 2) = some (aQ E 5 401 kk) → g9 (px + 3) = some (aI E 401 po) → g9 (px + 4) = some (aJ E 401 wo) → g9 (bk + 1) = some (aJ E 8 pN9) → g9 (bk + 2) = some (aI E 8 hd9) → g9 (bk + 3) = some (aJ E 6 rN9) → g9 (bk + 4) = some (aQ E 3 6 gb9) → (∀ q, q < bk → (q < px ∨ px + 4 < q) → g9 q = f q) → (b_P K Wd et (bk + 5)).2.1 = pn9 → (b_P K Wd et (bk + 5)).2.2.2 = hd9 → b_R K Wd et (bk + 5) = b_recs K Wd pn9 pN9 m9 s9 rc9 rN9 RS9 → (s9.2.1 ≠ 40 → s9.2.2.1 = 0 → rRS E pn9 (bk + 5) s9.2.2.2.2.2 g9 RS9 gb9 rc9) → ∀ (H : Heap) (locs : List Loc) (ls : Array Slot), q_W E (pS E g9 px bk T pn9 rc9 s9) s9.2.2.2.2.2 H → va_S (q_ge E) s.heap H locs → lv_has ls 5 [(0, .ref px), (1, .ref x), (2, .int (nI i9))] → W p l e (headSpec wsX8_readBook ({ frames := 110, cells := (b_R K Wd et (bk + 5)).1.2.2.2.2.2 - bk, slots := 9 * ((b_R K Wd et (bk + 5)).1.2.2.2.2.2 - bk), locals := 1700 })).room s m ([.ref px, .ref x] : List Value).toArray below meth c H locs (s9.2.2.2.2.2 - bk) (9 * (s9.2.2.2.2.2 - bk)) (MQ below (q_Qi E (BOOKq E f px bk L g et K Wd)) ([.ref px, .ref x] : List Value).toArray s ((b_R K Wd et (bk + 5)).1.2.2.2.2.2 - bk) (9 * ((b_R K Wd et (bk + 5)).1.2.2.2.2.2 - bk)) (q_ge E)) (F0 m 58 ls []) := by
    intro pn9 pN9 hd9 m9
    induction m9 with
    | zero =>
      intro i9 s9 g9 rc9 rN9 RS9 gb9 hi9 ok9 hn9 hpn hrc e2 e3 e4 c1 c2 c3 c4 hfr9 hPn hPh hR hrep H locs ls hW hS hl
      have hk9 : s9.2.1 < 41 := by rcases ok9.2.1 with h9 | h9 <;> rw [h9]; decide; exact hK41 _
      have eR : b_R K Wd et (bk + 5) = (s9, rc9, rN9, RS9) := by rw [hR]; rfl
      have eNN : (b_R K Wd et (bk + 5)).1.2.2.2.2.2 = s9.2.2.2.2.2 := by rw [eR]
      refine lv_iload_n hx hb dX8_readBook_58 rfl (lv_at hl 2 rfl) ?_
      refine lv_sipush (v := 400) hx hb dX8_readBook_59 (by decide) ?_
      refine lv_icmp_ge (tgt := 129) hx hb dX8_readBook_62 (by decide) (fun c_62 => ?_) (fun c_62 => False.elim ((fun h9 => h9 (by rw [show i9 = 400 by omega]; decide)) c_62))
      refine lv_aload_n hx hb dX8_readBook_129 rfl (lv_at hl 0 rfl) ?_
      refine q_get hx hb hts hown hA hW iX8 pS_p rfl 0 (by decide) (hts (.fieldLink RX8 10 "HighRecipes$Parser" "tokens" "LHighRecipes$Tokens;") (by decide +kernel)) (fun _ h9 => h9) (v := .ref (px + 1)) rfl dX8_readBook_130 ?_
      refine q_getN hx hb hts hown hA hW iX10 pS_t rfl 5 (by decide) (va_Nw.use rfl (hA.2.2.2.1 ("HighRecipes$Parser", 31, "HighRecipes$Tokens", "kind", "LHighRecipes$Kind;", "HighRecipes") (by decide +kernel))) (fun _ h9 => h9) (v := .ref (E.2.2.2 (s9).2.1)) rfl dX8_readBook_133 ?_
      refine va_gets (n := "END") (v := .ref (E.2.2.2 39)) hx hb (hA.2.2.1.1.1 39 (by decide)).1 hS hown (hts (.fieldLink RX8 65 "HighRecipes$Kind" "END" "LHighRecipes$Kind;") (by decide +kernel)) (fun _ h9 => h9) dX8_readBook_136 ?_
      refine lv_acmp_eq (rx := (some (E.2.2.2 (s9).2.1))) (ry := (some (E.2.2.2 39))) (tgt := 158) hx hb dX8_readBook_139 (by decide) (fun c_139 => ?_) (fun c_139 => ?_)
      · have e139 : s9.2.1 = 39 := q_kinj hA hk9 (by decide) c_139
        have eF : BKp K Wd et (bk + 5) = s9 := by unfold BKp p_fin; rw [eR]; exact if_pos e139
        refine lv_aload_n hx hb dX8_readBook_158 rfl (lv_at hl 0 rfl) ?_
        refine q_get hx hb hts hown hA hW iX8 pS_p rfl 2 (by decide) (hts (.fieldLink RX8 23 "HighRecipes$Parser" "error" "I") (by decide +kernel)) (fun _ h9 => h9) (v := .int (nI s9.2.2.1)) rfl dX8_readBook_159 ?_
        exact q_iret hx hb hr hlocks hW hS ⟨g9, T, kk, po, wo, gb9, by rw [eF]; try rfl, by rw [eF, hPn, eR]; try rfl, by rw [eF]; try rfl, htk, e2, e3, e4, by rw [hPh]; exact c2, c4, hfr9, by rw [eF]; first | exact ok9 | exact ⟨ok9.1, ok9.2.1, (by show 1 ≤ 5; decide), fun _ => ok9.1, ok9.2.2.2.2⟩, by rw [hPn]; exact hpn, by rw [eR]; exact hrc, fun z => by rw [eF] at z ⊢; rw [hPn, eR]; exact hrep (by rw [e139]; decide) z⟩ (by show s9.2.2.2.2.2 - bk ≤ (b_R K Wd et (bk + 5)).1.2.2.2.2.2 - bk; omega) (by show 9 * (s9.2.2.2.2.2 - bk) ≤ 9 * ((b_R K Wd et (bk + 5)).1.2.2.2.2.2 - bk); omega) dX8_readBook_162
      · have e139 : ¬ s9.2.1 = 39 := fun h9 => c_139 (by rw [h9])
        have eF : BKp K Wd et (bk + 5) = p_seter s9 1 s9.1 := by unfold BKp p_fin; rw [eR]; exact if_neg e139
        refine lv_aload_n hx hb dX8_readBook_142 rfl (lv_at hl 0 rfl) ?_
        refine lv_iconst (v := 1) hx hb dX8_readBook_143 (by decide) ?_
        refine q_put hx hb hts hown hA hW hS iX8 tyX8 tyX8_ok nmX8 pS_p rfl 2 (by decide) (hts (.fieldLink RX8 23 "HighRecipes$Parser" "error" "I") (by decide +kernel)) (fun _ h9 => h9) rfl rfl rfl (Nat.le_of_ble_eq_true rfl) dX8_readBook_144 (fun H locs hW hS => ?_)
        have hW : q_W E (va_up (pS E g9 px bk T pn9 rc9 s9) px (some (cPar px bk 1 (nI s9.2.2.2.1)))) s9.2.2.2.2.2 H := hW
        have hW : q_W E (pS E g9 px bk T pn9 rc9 (p_seter s9 1 s9.2.2.2.1)) s9.2.2.2.2.2 H := by rw [← pS_sp (s := s9) (s' := p_seter s9 1 s9.2.2.2.1) rfl rfl]; exact hW
        refine lv_aload_n hx hb dX8_readBook_147 rfl (lv_at hl 0 rfl) ?_
        refine lv_aload_n hx hb dX8_readBook_148 rfl (lv_at hl 0 rfl) ?_
        refine q_get hx hb hts hown hA hW iX8 pS_p rfl 0 (by decide) (hts (.fieldLink RX8 10 "HighRecipes$Parser" "tokens" "LHighRecipes$Tokens;") (by decide +kernel)) (fun _ h9 => h9) (v := .ref (px + 1)) rfl dX8_readBook_149 ?_
        refine q_getN hx hb hts hown hA hW iX10 pS_t rfl 4 (by decide) (va_Nw.use rfl (hA.2.2.2.1 ("HighRecipes$Parser", 68, "HighRecipes$Tokens", "here", "I", "HighRecipes") (by decide +kernel))) (fun _ h9 => h9) (v := .int (nI ((p_seter s9 1 s9.2.2.2.1)).1)) rfl dX8_readBook_152 ?_
        refine q_put hx hb hts hown hA hW hS iX8 tyX8 tyX8_ok nmX8 pS_p rfl 3 (by decide) (hts (.fieldLink RX8 71 "HighRecipes$Parser" "errorToken" "I") (by decide +kernel)) (fun _ h9 => h9) rfl rfl rfl (Nat.le_of_ble_eq_true rfl) dX8_readBook_155 (fun H locs hW hS => ?_)
        have hW : q_W E (va_up (pS E g9 px bk T pn9 rc9 (p_seter s9 1 s9.2.2.2.1)) px (some (cPar px bk (nI (p_seter s9 1 s9.2.2.2.1).2.2.1) (nI ((p_seter s9 1 s9.2.2.2.1)).1)))) s9.2.2.2.2.2 H := hW
        have hW : q_W E (pS E g9 px bk T pn9 rc9 (p_seter (p_seter s9 1 s9.2.2.2.1) ((p_seter s9 1 s9.2.2.2.1).2.2.1) (((p_seter s9 1 s9.2.2.2.1)).1))) s9.2.2.2.2.2 H := by rw [← pS_sp (s := p_seter s9 1 s9.2.2.2.1) (s' := p_seter (p_seter s9 1 s9.2.2.2.1) ((p_seter s9 1 s9.2.2.2.1).2.2.1) (((p_seter s9 1 s9.2.2.2.1)).1)) rfl rfl]; exact hW
        refine lv_aload_n hx hb dX8_readBook_158 rfl (lv_at hl 0 rfl) ?_
        refine q_get hx hb hts hown hA hW iX8 pS_p rfl 2 (by decide) (hts (.fieldLink RX8 23 "HighRecipes$Parser" "error" "I") (by decide +kernel)) (fun _ h9 => h9) (v := .int (nI (p_seter (p_seter s9 1 s9.2.2.2.1) ((p_seter s9 1 s9.2.2.2.1).2.2.1) (((p_seter s9 1 s9.2.2.2.1)).1)).2.2.1)) rfl dX8_readBook_159 ?_
        exact q_iret hx hb hr hlocks hW hS ⟨g9, T, kk, po, wo, gb9, by rw [eF]; try rfl, by rw [eF, hPn, eR]; try rfl, by rw [eF]; try rfl, htk, e2, e3, e4, by rw [hPh]; exact c2, c4, hfr9, by rw [eF]; first | exact ok9 | exact ⟨ok9.1, ok9.2.1, (by show 1 ≤ 5; decide), fun _ => ok9.1, ok9.2.2.2.2⟩, by rw [hPn]; exact hpn, by rw [eR]; exact hrc, fun z => by rw [eF] at z ⊢; cases z⟩ (by show s9.2.2.2.2.2 - bk ≤ (b_R K Wd et (bk + 5)).1.2.2.2.2.2 - bk; omega) (by show 9 * (s9.2.2.2.2.2 - bk) ≤ 9 * ((b_R K Wd et (bk + 5)).1.2.2.2.2.2 - bk); omega) dX8_readBook_162
    | succ m9 ih =>
      intro i9 s9 g9 rc9 rN9 RS9 gb9 hi9 ok9 hn9 hpn hrc e2 e3 e4 c1 c2 c3 c4 hfr9 hPn hPh hR hrep H locs ls hW hS hl
      have hk9 : s9.2.1 < 41 := by rcases ok9.2.1 with h9 | h9 <;> rw [h9]; decide; exact hK41 _
      refine lv_iload_n hx hb dX8_readBook_58 rfl (lv_at hl 2 rfl) ?_
      refine lv_sipush (v := 400) hx hb dX8_readBook_59 (by decide) ?_
      refine lv_icmp_ge (tgt := 129) hx hb dX8_readBook_62 (by decide) (fun c_62 => False.elim ((fun h9 => absurd (show nI 400 ≤ nI i9 from h9) (nI_ge (by omega) (by decide))) c_62)) (fun c_62 => ?_)
      refine lv_aload_n hx hb dX8_readBook_65 rfl (lv_at hl 0 rfl) ?_
      refine q_get hx hb hts hown hA hW iX8 pS_p rfl 0 (by decide) (hts (.fieldLink RX8 10 "HighRecipes$Parser" "tokens" "LHighRecipes$Tokens;") (by decide +kernel)) (fun _ h9 => h9) (v := .ref (px + 1)) rfl dX8_readBook_66 ?_
      refine q_getN hx hb hts hown hA hW iX10 pS_t rfl 5 (by decide) (va_Nw.use rfl (hA.2.2.2.1 ("HighRecipes$Parser", 31, "HighRecipes$Tokens", "kind", "LHighRecipes$Kind;", "HighRecipes") (by decide +kernel))) (fun _ h9 => h9) (v := .ref (E.2.2.2 (s9).2.1)) rfl dX8_readBook_69 ?_
      refine va_gets (n := "RECIPE") (v := .ref (E.2.2.2 2)) hx hb (hA.2.2.1.1.1 2 (by decide)).1 hS hown (hts (.fieldLink RX8 43 "HighRecipes$Kind" "RECIPE" "LHighRecipes$Kind;") (by decide +kernel)) (fun _ h9 => h9) dX8_readBook_72 ?_
      refine lv_acmp_ne (rx := (some (E.2.2.2 (s9).2.1))) (ry := (some (E.2.2.2 2))) (tgt := 129) hx hb dX8_readBook_75 (by decide) (fun c_75 => ?_) (fun c_75 => ?_)
      · have e75 : ¬ s9.2.1 = 2 := fun h9 => c_75 (by rw [h9])
        have eR : b_R K Wd et (bk + 5) = (s9, rc9, rN9, RS9) := by rw [hR]; show (if s9.2.1 = 2 then _ else _) = _; rw [if_neg e75]
        have eNN : (b_R K Wd et (bk + 5)).1.2.2.2.2.2 = s9.2.2.2.2.2 := by rw [eR]
        refine lv_aload_n hx hb dX8_readBook_129 rfl (lv_at hl 0 rfl) ?_
        refine q_get hx hb hts hown hA hW iX8 pS_p rfl 0 (by decide) (hts (.fieldLink RX8 10 "HighRecipes$Parser" "tokens" "LHighRecipes$Tokens;") (by decide +kernel)) (fun _ h9 => h9) (v := .ref (px + 1)) rfl dX8_readBook_130 ?_
        refine q_getN hx hb hts hown hA hW iX10 pS_t rfl 5 (by decide) (va_Nw.use rfl (hA.2.2.2.1 ("HighRecipes$Parser", 31, "HighRecipes$Tokens", "kind", "LHighRecipes$Kind;", "HighRecipes") (by decide +kernel))) (fun _ h9 => h9) (v := .ref (E.2.2.2 (s9).2.1)) rfl dX8_readBook_133 ?_
        refine va_gets (n := "END") (v := .ref (E.2.2.2 39)) hx hb (hA.2.2.1.1.1 39 (by decide)).1 hS hown (hts (.fieldLink RX8 65 "HighRecipes$Kind" "END" "LHighRecipes$Kind;") (by decide +kernel)) (fun _ h9 => h9) dX8_readBook_136 ?_
        refine lv_acmp_eq (rx := (some (E.2.2.2 (s9).2.1))) (ry := (some (E.2.2.2 39))) (tgt := 158) hx hb dX8_readBook_139 (by decide) (fun c_139 => ?_) (fun c_139 => ?_)
        · have e139 : s9.2.1 = 39 := q_kinj hA hk9 (by decide) c_139
          have eF : BKp K Wd et (bk + 5) = s9 := by unfold BKp p_fin; rw [eR]; exact if_pos e139
          refine lv_aload_n hx hb dX8_readBook_158 rfl (lv_at hl 0 rfl) ?_
          refine q_get hx hb hts hown hA hW iX8 pS_p rfl 2 (by decide) (hts (.fieldLink RX8 23 "HighRecipes$Parser" "error" "I") (by decide +kernel)) (fun _ h9 => h9) (v := .int (nI s9.2.2.1)) rfl dX8_readBook_159 ?_
          exact q_iret hx hb hr hlocks hW hS ⟨g9, T, kk, po, wo, gb9, by rw [eF]; try rfl, by rw [eF, hPn, eR]; try rfl, by rw [eF]; try rfl, htk, e2, e3, e4, by rw [hPh]; exact c2, c4, hfr9, by rw [eF]; first | exact ok9 | exact ⟨ok9.1, ok9.2.1, (by show 1 ≤ 5; decide), fun _ => ok9.1, ok9.2.2.2.2⟩, by rw [hPn]; exact hpn, by rw [eR]; exact hrc, fun z => by rw [eF] at z ⊢; rw [hPn, eR]; exact hrep (by rw [e139]; decide) z⟩ (by show s9.2.2.2.2.2 - bk ≤ (b_R K Wd et (bk + 5)).1.2.2.2.2.2 - bk; omega) (by show 9 * (s9.2.2.2.2.2 - bk) ≤ 9 * ((b_R K Wd et (bk + 5)).1.2.2.2.2.2 - bk); omega) dX8_readBook_162
        · have e139 : ¬ s9.2.1 = 39 := fun h9 => c_139 (by rw [h9])
          have eF : BKp K Wd et (bk + 5) = p_seter s9 1 s9.1 := by unfold BKp p_fin; rw [eR]; exact if_neg e139
          refine lv_aload_n hx hb dX8_readBook_142 rfl (lv_at hl 0 rfl) ?_
          refine lv_iconst (v := 1) hx hb dX8_readBook_143 (by decide) ?_
          refine q_put hx hb hts hown hA hW hS iX8 tyX8 tyX8_ok nmX8 pS_p rfl 2 (by decide) (hts (.fieldLink RX8 23 "HighRecipes$Parser" "error" "I") (by decide +kernel)) (fun _ h9 => h9) rfl rfl rfl (Nat.le_of_ble_eq_true rfl) dX8_readBook_144 (fun H locs hW hS => ?_)
          have hW : q_W E (va_up (pS E g9 px bk T pn9 rc9 s9) px (some (cPar px bk 1 (nI s9.2.2.2.1)))) s9.2.2.2.2.2 H := hW
          have hW : q_W E (pS E g9 px bk T pn9 rc9 (p_seter s9 1 s9.2.2.2.1)) s9.2.2.2.2.2 H := by rw [← pS_sp (s := s9) (s' := p_seter s9 1 s9.2.2.2.1) rfl rfl]; exact hW
          refine lv_aload_n hx hb dX8_readBook_147 rfl (lv_at hl 0 rfl) ?_
          refine lv_aload_n hx hb dX8_readBook_148 rfl (lv_at hl 0 rfl) ?_
          refine q_get hx hb hts hown hA hW iX8 pS_p rfl 0 (by decide) (hts (.fieldLink RX8 10 "HighRecipes$Parser" "tokens" "LHighRecipes$Tokens;") (by decide +kernel)) (fun _ h9 => h9) (v := .ref (px + 1)) rfl dX8_readBook_149 ?_
          refine q_getN hx hb hts hown hA hW iX10 pS_t rfl 4 (by decide) (va_Nw.use rfl (hA.2.2.2.1 ("HighRecipes$Parser", 68, "HighRecipes$Tokens", "here", "I", "HighRecipes") (by decide +kernel))) (fun _ h9 => h9) (v := .int (nI ((p_seter s9 1 s9.2.2.2.1)).1)) rfl dX8_readBook_152 ?_
          refine q_put hx hb hts hown hA hW hS iX8 tyX8 tyX8_ok nmX8 pS_p rfl 3 (by decide) (hts (.fieldLink RX8 71 "HighRecipes$Parser" "errorToken" "I") (by decide +kernel)) (fun _ h9 => h9) rfl rfl rfl (Nat.le_of_ble_eq_true rfl) dX8_readBook_155 (fun H locs hW hS => ?_)
          have hW : q_W E (va_up (pS E g9 px bk T pn9 rc9 (p_seter s9 1 s9.2.2.2.1)) px (some (cPar px bk (nI (p_seter s9 1 s9.2.2.2.1).2.2.1) (nI ((p_seter s9 1 s9.2.2.2.1)).1)))) s9.2.2.2.2.2 H := hW
          have hW : q_W E (pS E g9 px bk T pn9 rc9 (p_seter (p_seter s9 1 s9.2.2.2.1) ((p_seter s9 1 s9.2.2.2.1).2.2.1) (((p_seter s9 1 s9.2.2.2.1)).1))) s9.2.2.2.2.2 H := by rw [← pS_sp (s := p_seter s9 1 s9.2.2.2.1) (s' := p_seter (p_seter s9 1 s9.2.2.2.1) ((p_seter s9 1 s9.2.2.2.1).2.2.1) (((p_seter s9 1 s9.2.2.2.1)).1)) rfl rfl]; exact hW
          refine lv_aload_n hx hb dX8_readBook_158 rfl (lv_at hl 0 rfl) ?_
          refine q_get hx hb hts hown hA hW iX8 pS_p rfl 2 (by decide) (hts (.fieldLink RX8 23 "HighRecipes$Parser" "error" "I") (by decide +kernel)) (fun _ h9 => h9) (v := .int (nI (p_seter (p_seter s9 1 s9.2.2.2.1) ((p_seter s9 1 s9.2.2.2.1).2.2.1) (((p_seter s9 1 s9.2.2.2.1)).1)).2.2.1)) rfl dX8_readBook_159 ?_
          exact q_iret hx hb hr hlocks hW hS ⟨g9, T, kk, po, wo, gb9, by rw [eF]; try rfl, by rw [eF, hPn, eR]; try rfl, by rw [eF]; try rfl, htk, e2, e3, e4, by rw [hPh]; exact c2, c4, hfr9, by rw [eF]; first | exact ok9 | exact ⟨ok9.1, ok9.2.1, (by show 1 ≤ 5; decide), fun _ => ok9.1, ok9.2.2.2.2⟩, by rw [hPn]; exact hpn, by rw [eR]; exact hrc, fun z => by rw [eF] at z ⊢; cases z⟩ (by show s9.2.2.2.2.2 - bk ≤ (b_R K Wd et (bk + 5)).1.2.2.2.2.2 - bk; omega) (by show 9 * (s9.2.2.2.2.2 - bk) ≤ 9 * ((b_R K Wd et (bk + 5)).1.2.2.2.2.2 - bk); omega) dX8_readBook_162
      · have e75 : s9.2.1 = 2 := q_kinj hA hk9 (by decide) c_75
        have okt : p_ok K T (p_take K 2 s9) := ok9.take hKT (by decide)
        have okr : p_ok K T (p_recS K Wd pn9 pN9 rc9 rN9 s9) := (go_recS hKT ok9).1
        have lr := (go_recS (Wd := Wd) (pn := pn9) (rc := rc9) (pN := pN9) (rN := rN9) (s := s9) hKT ok9).2
        obtain ⟨s3, hu_s3⟩ : ∃ z, p_blk K Wd pN9 pn9 rN9 rc9 6 (p_recS K Wd pn9 pN9 rc9 rN9 s9) = z := ⟨_, rfl⟩
        have b_s3 := go_blk (Wd := Wd) (pN := pN9) (pn := pn9) (rN := rN9) (rc := rc9) hKT 6 _ okr
        rw [hu_s3] at b_s3
        have ok_s3 := b_s3.1
        have ern : (p_recS K Wd pn9 pN9 rc9 rN9 s9).2.2.2.2.2 = s9.2.2.2.2.2 := newn_n
        have sn3 : s9.2.2.2.2.2 ≤ s3.2.2.2.2.2 := by rw [← ern]; exact b_s3.2.2.1
        have eR1 : b_R K Wd et (bk + 5) = if rc9 < 6 then b_recs K Wd pn9 pN9 m9 s3 (rc9 + 1) (vp_updL rN9 rc9 (Wd (p_take K 2 s9).1)) (rs_up RS9 rc9 (p_blkS K Wd pN9 pn9 rN9 rc9 RS9 6 (p_recS K Wd pn9 pN9 rc9 rN9 s9))) else b_recs K Wd pn9 pN9 m9 s3 rc9 rN9 RS9 := by rw [hR]; show (if s9.2.1 = 2 then _ else _) = _; rw [if_pos e75, hu_s3]; rfl
        have hM : s3.2.2.2.2.2 ≤ (b_R K Wd et (bk + 5)).1.2.2.2.2.2 := by rw [eR1]; split; exact (go_recs hKT m9 s3 _ _ _ ok_s3).2.2.1; exact (go_recs hKT m9 s3 _ _ _ ok_s3).2.2.1
        refine lv_aload_n hx hb dX8_readBook_78 rfl (lv_at hl 0 rfl) ?_
        refine q_get hx hb hts hown hA hW iX8 pS_p rfl 0 (by decide) (hts (.fieldLink RX8 10 "HighRecipes$Parser" "tokens" "LHighRecipes$Tokens;") (by decide +kernel)) (fun _ h9 => h9) (v := .ref (px + 1)) rfl dX8_readBook_79 ?_
        refine va_gets (n := "RECIPE") (v := .ref (E.2.2.2 2)) hx hb (hA.2.2.1.1.1 2 (by decide)).1 hS hown (hts (.fieldLink RX8 43 "HighRecipes$Kind" "RECIPE" "LHighRecipes$Kind;") (by decide +kernel)) (fun _ h9 => h9) dX8_readBook_82 ?_
        refine q_cv (va_runV (As := [.ref (E.2.2.2 2)]) (rest := []) ⟨hx, hb, hml, hown, hts⟩ (kX10_take l E (pS E g9 px bk T pn9 rc9 s9) s9.2.2.2.2.2 (px + 1) T s9 kk K 2 pS_t ((pS_out (by omega) (by omega) (by omega)).trans e2) (by assumption) (by assumption) (by assumption) (by assumption) ok9 (by first | assumption | decide)) (cwV 1 hts gX8_readBook_X10_take rfl rfl rfl (by decide +kernel) ⟨(Nat.le_of_ble_eq_true rfl), (Nat.le_of_ble_eq_true rfl)⟩) (q_pV hA hW hS (ci := 10) rfl pS_t) rfl rfl hl.1 rfl (lv_room (Nat.le_of_ble_eq_true rfl)) dX8_readBook_85 ⟨(by show s9.2.2.2.2.2 - bk + 0 ≤ (b_R K Wd et (bk + 5)).1.2.2.2.2.2 - bk; omega), (by show 9 * (s9.2.2.2.2.2 - bk) + 0 ≤ 9 * ((b_R K Wd et (bk + 5)).1.2.2.2.2.2 - bk); omega)⟩) hS (fun f_85 n_85 H locs hp hW hS => ?_)
        obtain ⟨rfl, rfl⟩ := hp
        have hW : q_W E (va_up (pS E g9 px bk T pn9 rc9 s9) (px + 1) (some (cTS E (px + 1) T (p_take K 2 s9)))) s9.2.2.2.2.2 H := hW
        have hW : q_W E (pS E g9 px bk T pn9 rc9 (p_take K 2 s9)) s9.2.2.2.2.2 H := by rw [← pS_st (s := s9) (s' := p_take K 2 s9) rfl rfl]; exact hW
        have hok_85 : p_ok K T (p_take K 2 s9) := ok9.take hKT (by first | assumption | decide)
        have hW : q_W E (pS E g9 px bk T pn9 rc9 (p_take K 2 s9)) s9.2.2.2.2.2 H := hW
        refine lv_aload_n hx hb dX8_readBook_88 rfl (lv_at hl 0 rfl) ?_
        refine lv_aload_n hx hb dX8_readBook_89 rfl (lv_at hl 0 rfl) ?_
        refine q_get hx hb hts hown hA hW iX8 pS_p rfl 1 (by decide) (hts (.fieldLink RX8 19 "HighRecipes$Parser" "book" "LHighRecipes$Book;") (by decide +kernel)) (fun _ h9 => h9) (v := .ref bk) rfl dX8_readBook_90 ?_
        refine q_getN hx hb hts hown hA hW iX2 (pS_b hbk) rfl 5 (by decide) (va_Nw.use rfl (hA.2.2.2.1 ("HighRecipes$Parser", 50, "HighRecipes$Book", "recipeCount", "I", "HighRecipes") (by decide +kernel))) (fun _ h9 => h9) (v := .int (nI rc9)) rfl dX8_readBook_93 ?_
        refine lv_bipush (v := 6) hx hb dX8_readBook_96 (by decide) ?_
        refine lv_icmp_lt (tgt := 105) hx hb dX8_readBook_98 (by decide) (fun c_98 => ?_) (fun c_98 => ?_)
        · have h98 : rc9 < 6 := by rcases Nat.lt_or_ge rc9 6 with h9 | h9; exact h9; exact absurd (show nI rc9 < nI 6 from c_98) (nI_nlt h9 (by omega))
          refine lv_iconst (v := 0) hx hb dX8_readBook_105 (by decide) ?_
          refine q_cl (va_runV (As := [.int 0]) (rest := []) ⟨hx, hb, hml, hown, hts⟩ (kX8_readNewName l E (pS E g9 px bk T pn9 rc9 (p_take K 2 s9)) s9.2.2.2.2.2 px bk T pn9 rc9 (p_take K 2 s9) kk wo pN9 rN9 K Wd false ((pS_out (by omega) (by omega) (by omega)).trans e2) ((pS_out (by omega) (by omega) (by omega)).trans e4) ((pS_out (by omega) (by omega) (by omega)).trans c1) ((pS_out (by omega) (by omega) (by omega)).trans c3) (pS_K hbk) (by assumption) (by omega) (by assumption) (by assumption) (by assumption) (by assumption) (by assumption) hpn hrc okt) (cwV 1 hts gX8_readBook_X8_readNewName rfl rfl rfl (by decide +kernel) ⟨(Nat.le_of_ble_eq_true rfl), (Nat.le_of_ble_eq_true rfl)⟩) (q_pV hA hW hS (ci := 8) rfl pS_p) rfl rfl hl.1 rfl (lv_room (Nat.le_of_ble_eq_true rfl)) dX8_readBook_106 ⟨(by show s9.2.2.2.2.2 - bk + 0 ≤ (b_R K Wd et (bk + 5)).1.2.2.2.2.2 - bk; omega), (by show 9 * (s9.2.2.2.2.2 - bk) + 0 ≤ 9 * ((b_R K Wd et (bk + 5)).1.2.2.2.2.2 - bk); omega)⟩) hS (fun r_106 f_106 n_106 H locs hp hW hS => ?_)
          obtain ⟨rfl, rfl, rfl⟩ := hp
          rw [pS_pS] at hW
          have hok_106 : p_ok K T (p_newn K Wd pN9 pn9 rN9 rc9 false (p_take K 2 s9)) := okt.newn hKT
          have hW : q_W E (pS E g9 px bk T pn9 rc9 (p_newn K Wd pN9 pn9 rN9 rc9 false (p_take K 2 s9))) s9.2.2.2.2.2 H := hW
          have e106 : p_newn K Wd pN9 pn9 rN9 rc9 false (p_take K 2 s9) = p_recS K Wd pn9 pN9 rc9 rN9 s9 := by unfold p_recS; first | rw [decide_eq_false (show ¬ 6 ≤ rc9 by omega)] | rw [decide_eq_true (show 6 ≤ rc9 by omega)]
          rw [e106] at hW
          refine lv_lstore_n (lv' := [(3, .long (Wd (p_take K 2 s9).1)), (0, .ref px), (1, .ref x), (2, .int (nI i9))]) hx hb dX8_readBook_109 rfl hl (by decide) rfl (fun ls hl => ?_)
          refine lv_aload_n hx hb dX8_readBook_110 rfl (lv_at hl 1 rfl) ?_
          refine q_get hx hb hts hown hA hW iX8 pS_p rfl 1 (by decide) (hts (.fieldLink RX8 19 "HighRecipes$Parser" "book" "LHighRecipes$Book;") (by decide +kernel)) (fun _ h9 => h9) (v := .ref bk) rfl dX8_readBook_111 ?_
          refine lv_lload_n hx hb dX8_readBook_114 rfl (lv_at hl 0 rfl) ?_
          refine lv_aload_n hx hb dX8_readBook_115 rfl (lv_at hl 1 rfl) ?_
          refine lv_iconst (v := 0) hx hb dX8_readBook_116 (by decide) ?_
          have hW : q_W E (pS E g9 px bk T pn9 rc9 (p_recS K Wd pn9 pN9 rc9 rN9 s9)) (p_recS K Wd pn9 pN9 rc9 rN9 s9).2.2.2.2.2 H := by rw [ern]; exact hW
          refine q_cq (va_runV (As := [.int 0]) (rest := [.long (Wd (p_take K 2 s9).1), .ref bk]) ⟨hx, hb, hml, hown, hts⟩ (blk_all l E RS9 6 (Nat.le_refl _) (pS E g9 px bk T pn9 rc9 (p_recS K Wd pn9 pN9 rc9 rN9 s9)) px bk T pn9 rc9 (p_recS K Wd pn9 pN9 rc9 rN9 s9) kk wo pN9 rN9 K Wd ((pS_out (by omega) (by omega) (by omega)).trans e2) ((pS_out (by omega) (by omega) (by omega)).trans e4) ((pS_out (by omega) (by omega) (by omega)).trans c1) ((pS_out (by omega) (by omega) (by omega)).trans c3) (pS_K hbk) hbk (by rw [ern]; omega) hT hkk hKT hK41 hWd hpn hrc okr) (cwV 1 hts gX8_readBook_X8_readBlock rfl rfl rfl (by decide +kernel) ⟨(Nat.le_of_ble_eq_true rfl), (Nat.le_of_ble_eq_true rfl)⟩) (q_pV hA hW hS (ci := 8) rfl pS_p) rfl rfl hl.1 rfl (lv_room (Nat.le_of_ble_eq_true rfl)) dX8_readBook_117 ⟨(by rw [hu_s3, ern]; show s9.2.2.2.2.2 - bk + (s3.2.2.2.2.2 - (s9.2.2.2.2.2)) ≤ (b_R K Wd et (bk + 5)).1.2.2.2.2.2 - bk; omega), (by rw [hu_s3, ern]; show 9 * (s9.2.2.2.2.2 - bk) + (9 * (s3.2.2.2.2.2 - (s9.2.2.2.2.2))) ≤ 9 * ((b_R K Wd et (bk + 5)).1.2.2.2.2.2 - bk); omega)⟩) hS (fun r_117 f_117 n_117 H locs hp hW hS => ?_)
          obtain ⟨g7, rfl, rfl, fr_117, obj_117, rep_117⟩ := hp
          rw [hu_s3] at hW rep_117
          rw [hu_s3]
          rw [ern]
          rw [ern] at fr_117 obj_117 rep_117
          have fr7 : ∀ q, q < s9.2.2.2.2.2 → q ≠ px → q ≠ px + 1 → q ≠ bk → g7 q = g9 q := fun q hq h7 h8 h9 => (fr_117 q hq h7 h8 h9).trans (pS_out h7 h8 h9)
          have hW : q_W E (pS E g7 px bk T pn9 rc9 s3) (s3.2.2.2.2.2) H := hW
          rcases r_117 with _ | a7
          · refine q_cv (va_runV (As := [.long (Wd (p_take K 2 s9).1), .null]) (rest := []) ⟨hx, hb, hml, hown, hts⟩ (kX2_addRecipeTN l E (pS E g7 px bk T pn9 rc9 s3) s3.2.2.2.2.2 bk rc9 (nI pn9) (nI s3.2.2.2.2.1) rN9 gb9 (Wd (p_take K 2 s9).1) (pS_b hbk) ((pS_out (by omega) (by omega) (by omega)).trans ((fr7 _ (by omega) (by omega) (by omega) (by omega)).trans c3)) ((pS_out (by omega) (by omega) (by omega)).trans ((fr7 _ (by omega) (by omega) (by omega) (by omega)).trans c4)) h98) (cwV 2 hts gX8_readBook_X2_addRecipe rfl rfl rfl (by decide +kernel) ⟨(Nat.le_of_ble_eq_true rfl), (Nat.le_of_ble_eq_true rfl)⟩) (q_pV hA hW hS (ci := 3) rfl (pS_b hbk)) rfl rfl hl.1 rfl (lv_room (Nat.le_of_ble_eq_true rfl)) dX8_readBook_120 ⟨(by show s9.2.2.2.2.2 - bk + (s3.2.2.2.2.2 - (s9.2.2.2.2.2)) + 0 ≤ (b_R K Wd et (bk + 5)).1.2.2.2.2.2 - bk; omega), (by show 9 * (s9.2.2.2.2.2 - bk) + (9 * (s3.2.2.2.2.2 - (s9.2.2.2.2.2))) + 0 ≤ 9 * ((b_R K Wd et (bk + 5)).1.2.2.2.2.2 - bk); omega)⟩) hS (fun f_120 n_120 H locs hp hW hS => ?_)
            obtain ⟨rfl, rfl⟩ := hp
            have hW : q_W E (va_up (va_up (va_up (pS E g7 px bk T pn9 rc9 s3) (bk + 3) (some (aJ E 6 (vp_updL rN9 rc9 (Wd (p_take K 2 s9).1))))) (bk + 4) (some (aQ E 3 6 (va_up gb9 rc9 none)))) bk (some (cBook bk (nI pn9) (nI (rc9 + 1)) (nI s3.2.2.2.2.1)))) s3.2.2.2.2.2 H := hW
            rw [pS_iu (by omega) (by omega) (by omega), pS_iu (by omega) (by omega) (by omega), pS_sn hbk] at hW
            refine lv_iinc (v := nI (i9 + 1)) (lv' := [(2, .int (nI (i9 + 1))), (3, .long (Wd (p_take K 2 s9).1)), (0, .ref px), (1, .ref x)]) hx hb dX8_readBook_123 hl (k := 3) rfl (nI_1 i9) (by decide) rfl (fun ls hl => ?_)
            refine lv_goto (tgt := 58) hx hb dX8_readBook_126 (by decide) ?_
            refine W.widen (k := s3.2.2.2.2.2 - bk) (n := 9 * (s3.2.2.2.2.2 - bk)) (by omega) (by omega) ?_
            exact ih (i9 + 1) s3 (va_up (va_up g7 (bk + 3) (some (aJ E 6 (vp_updL rN9 rc9 (Wd (p_take K 2 s9).1))))) (bk + 4) (some (aQ E 3 6 (va_up gb9 rc9 none)))) (rc9 + 1) _ (rs_up RS9 rc9 (p_blkS K Wd pN9 pn9 rN9 rc9 RS9 6 (p_recS K Wd pn9 pN9 rc9 rN9 s9))) _ (by omega) ok_s3 (by omega) hpn (by omega) ((va_up_ne _ _ (by omega)).trans ((va_up_ne _ _ (by omega)).trans ((fr7 _ (by omega) (by omega) (by omega) (by omega)).trans e2))) ((va_up_ne _ _ (by omega)).trans ((va_up_ne _ _ (by omega)).trans ((fr7 _ (by omega) (by omega) (by omega) (by omega)).trans e3))) ((va_up_ne _ _ (by omega)).trans ((va_up_ne _ _ (by omega)).trans ((fr7 _ (by omega) (by omega) (by omega) (by omega)).trans e4))) ((va_up_ne _ _ (by omega)).trans ((va_up_ne _ _ (by omega)).trans ((fr7 _ (by omega) (by omega) (by omega) (by omega)).trans c1))) ((va_up_ne _ _ (by omega)).trans ((va_up_ne _ _ (by omega)).trans ((fr7 _ (by omega) (by omega) (by omega) (by omega)).trans c2))) ((va_up_ne _ _ (by omega)).trans q_eq) q_eq (fun q h1 h2 => ((va_up_ne _ _ (by omega)).trans ((va_up_ne _ _ (by omega)).trans ((fr7 q (by omega) (by omega) (by omega) (by omega)).trans (hfr9 q h1 h2))))) hPn hPh (by rw [eR1, if_pos h98]) (fun k1 k2 => by
              obtain ⟨m, hr⟩ := rep_117 k1 k2
              have k1a := lr.2.2.1 (b_s3.2.2.2.1 k1)
              have k2a := lr.2.2.2 (b_s3.2.2.2.2 k2)
              have hr9 := hrep k1a k2a
              exact rRS_up h98 hr9 (fun q h1 h2 => (va_up_ne _ _ (by omega)).trans ((va_up_ne _ _ (by omega)).trans (fr7 q (by omega) (by omega) (by omega) (by omega)))) sn3 (rL_frame (fun q h1 h2 => (va_up_ne _ _ (by omega)).trans (va_up_ne _ _ (by omega))) (Nat.le_refl _) (Nat.le_refl _) (fun a S h => rA_frame (fun q h1 h2 => (va_up_ne _ _ (by omega)).trans (va_up_ne _ _ (by omega))) (Nat.le_refl _) (Nat.le_refl _) (Nat.le_refl _) (fun _ _ => rfl) 6 a S h) m _ _ hr) hn9)
              _ _ _ hW hS (lv_sub hl [2, 3, 0] rfl)
          · obtain ⟨ha7, kd7, x1, x2, x3, x4, x5, x6, x7, x8, ho7⟩ := obj_117 a7 rfl
            refine q_cv (va_runV (As := [.long (Wd (p_take K 2 s9).1), .ref a7]) (rest := []) ⟨hx, hb, hml, hown, hts⟩ (kX2_addRecipeTS l E (pS E g7 px bk T pn9 rc9 s3) s3.2.2.2.2.2 bk rc9 (nI pn9) (nI s3.2.2.2.2.1) rN9 gb9 (Wd (p_take K 2 s9).1) a7 kd7 x1 x2 x3 x4 x5 x6 x7 x8 (pS_b hbk) ((pS_out (by omega) (by omega) (by omega)).trans ((fr7 _ (by omega) (by omega) (by omega) (by omega)).trans c3)) ((pS_out (by omega) (by omega) (by omega)).trans ((fr7 _ (by omega) (by omega) (by omega) (by omega)).trans c4)) ((pS_out (by omega) (by omega) (by omega)).trans ho7) h98 (by omega)) (cwV 2 hts gX8_readBook_X2_addRecipe rfl rfl rfl (by decide +kernel) ⟨(Nat.le_of_ble_eq_true rfl), (Nat.le_of_ble_eq_true rfl)⟩) (q_pV hA hW hS (ci := 3) rfl (pS_b hbk)) rfl rfl hl.1 rfl (lv_room (Nat.le_of_ble_eq_true rfl)) dX8_readBook_120 ⟨(by show s9.2.2.2.2.2 - bk + (s3.2.2.2.2.2 - (s9.2.2.2.2.2)) + 0 ≤ (b_R K Wd et (bk + 5)).1.2.2.2.2.2 - bk; omega), (by show 9 * (s9.2.2.2.2.2 - bk) + (9 * (s3.2.2.2.2.2 - (s9.2.2.2.2.2))) + 0 ≤ 9 * ((b_R K Wd et (bk + 5)).1.2.2.2.2.2 - bk); omega)⟩) hS (fun f_120 n_120 H locs hp hW hS => ?_)
            obtain ⟨rfl, rfl⟩ := hp
            have hW : q_W E (va_up (va_up (va_up (pS E g7 px bk T pn9 rc9 s3) (bk + 3) (some (aJ E 6 (vp_updL rN9 rc9 (Wd (p_take K 2 s9).1))))) (bk + 4) (some (aQ E 3 6 (va_up gb9 rc9 (some a7))))) bk (some (cBook bk (nI pn9) (nI (rc9 + 1)) (nI s3.2.2.2.2.1)))) s3.2.2.2.2.2 H := hW
            rw [pS_iu (by omega) (by omega) (by omega), pS_iu (by omega) (by omega) (by omega), pS_sn hbk] at hW
            refine lv_iinc (v := nI (i9 + 1)) (lv' := [(2, .int (nI (i9 + 1))), (3, .long (Wd (p_take K 2 s9).1)), (0, .ref px), (1, .ref x)]) hx hb dX8_readBook_123 hl (k := 3) rfl (nI_1 i9) (by decide) rfl (fun ls hl => ?_)
            refine lv_goto (tgt := 58) hx hb dX8_readBook_126 (by decide) ?_
            refine W.widen (k := s3.2.2.2.2.2 - bk) (n := 9 * (s3.2.2.2.2.2 - bk)) (by omega) (by omega) ?_
            exact ih (i9 + 1) s3 (va_up (va_up g7 (bk + 3) (some (aJ E 6 (vp_updL rN9 rc9 (Wd (p_take K 2 s9).1))))) (bk + 4) (some (aQ E 3 6 (va_up gb9 rc9 (some a7))))) (rc9 + 1) _ (rs_up RS9 rc9 (p_blkS K Wd pN9 pn9 rN9 rc9 RS9 6 (p_recS K Wd pn9 pN9 rc9 rN9 s9))) _ (by omega) ok_s3 (by omega) hpn (by omega) ((va_up_ne _ _ (by omega)).trans ((va_up_ne _ _ (by omega)).trans ((fr7 _ (by omega) (by omega) (by omega) (by omega)).trans e2))) ((va_up_ne _ _ (by omega)).trans ((va_up_ne _ _ (by omega)).trans ((fr7 _ (by omega) (by omega) (by omega) (by omega)).trans e3))) ((va_up_ne _ _ (by omega)).trans ((va_up_ne _ _ (by omega)).trans ((fr7 _ (by omega) (by omega) (by omega) (by omega)).trans e4))) ((va_up_ne _ _ (by omega)).trans ((va_up_ne _ _ (by omega)).trans ((fr7 _ (by omega) (by omega) (by omega) (by omega)).trans c1))) ((va_up_ne _ _ (by omega)).trans ((va_up_ne _ _ (by omega)).trans ((fr7 _ (by omega) (by omega) (by omega) (by omega)).trans c2))) ((va_up_ne _ _ (by omega)).trans q_eq) q_eq (fun q h1 h2 => ((va_up_ne _ _ (by omega)).trans ((va_up_ne _ _ (by omega)).trans ((fr7 q (by omega) (by omega) (by omega) (by omega)).trans (hfr9 q h1 h2))))) hPn hPh (by rw [eR1, if_pos h98]) (fun k1 k2 => by
              obtain ⟨m, hr⟩ := rep_117 k1 k2
              have k1a := lr.2.2.1 (b_s3.2.2.2.1 k1)
              have k2a := lr.2.2.2 (b_s3.2.2.2.2 k2)
              have hr9 := hrep k1a k2a
              exact rRS_up h98 hr9 (fun q h1 h2 => (va_up_ne _ _ (by omega)).trans ((va_up_ne _ _ (by omega)).trans (fr7 q (by omega) (by omega) (by omega) (by omega)))) sn3 (rL_frame (fun q h1 h2 => (va_up_ne _ _ (by omega)).trans (va_up_ne _ _ (by omega))) (Nat.le_refl _) (Nat.le_refl _) (fun a S h => rA_frame (fun q h1 h2 => (va_up_ne _ _ (by omega)).trans (va_up_ne _ _ (by omega))) (Nat.le_refl _) (Nat.le_refl _) (Nat.le_refl _) (fun _ _ => rfl) 6 a S h) m _ _ hr) hn9)
              _ _ _ hW hS (lv_sub hl [2, 3, 0] rfl)
        · have h98 : ¬ rc9 < 6 := fun h9 => c_98 (show nI rc9 < nI 6 from nI_lt h9 (by decide))
          refine lv_iconst (v := 1) hx hb dX8_readBook_101 (by decide) ?_
          refine lv_goto (tgt := 106) hx hb dX8_readBook_102 (by decide) ?_
          refine q_cl (va_runV (As := [.int 1]) (rest := []) ⟨hx, hb, hml, hown, hts⟩ (kX8_readNewName l E (pS E g9 px bk T pn9 rc9 (p_take K 2 s9)) s9.2.2.2.2.2 px bk T pn9 rc9 (p_take K 2 s9) kk wo pN9 rN9 K Wd true ((pS_out (by omega) (by omega) (by omega)).trans e2) ((pS_out (by omega) (by omega) (by omega)).trans e4) ((pS_out (by omega) (by omega) (by omega)).trans c1) ((pS_out (by omega) (by omega) (by omega)).trans c3) (pS_K hbk) (by assumption) (by omega) (by assumption) (by assumption) (by assumption) (by assumption) (by assumption) hpn hrc okt) (cwV 1 hts gX8_readBook_X8_readNewName rfl rfl rfl (by decide +kernel) ⟨(Nat.le_of_ble_eq_true rfl), (Nat.le_of_ble_eq_true rfl)⟩) (q_pV hA hW hS (ci := 8) rfl pS_p) rfl rfl hl.1 rfl (lv_room (Nat.le_of_ble_eq_true rfl)) dX8_readBook_106 ⟨(by show s9.2.2.2.2.2 - bk + 0 ≤ (b_R K Wd et (bk + 5)).1.2.2.2.2.2 - bk; omega), (by show 9 * (s9.2.2.2.2.2 - bk) + 0 ≤ 9 * ((b_R K Wd et (bk + 5)).1.2.2.2.2.2 - bk); omega)⟩) hS (fun r_106 f_106 n_106 H locs hp hW hS => ?_)
          obtain ⟨rfl, rfl, rfl⟩ := hp
          rw [pS_pS] at hW
          have hok_106 : p_ok K T (p_newn K Wd pN9 pn9 rN9 rc9 true (p_take K 2 s9)) := okt.newn hKT
          have hW : q_W E (pS E g9 px bk T pn9 rc9 (p_newn K Wd pN9 pn9 rN9 rc9 true (p_take K 2 s9))) s9.2.2.2.2.2 H := hW
          have e106 : p_newn K Wd pN9 pn9 rN9 rc9 true (p_take K 2 s9) = p_recS K Wd pn9 pN9 rc9 rN9 s9 := by unfold p_recS; first | rw [decide_eq_false (show ¬ 6 ≤ rc9 by omega)] | rw [decide_eq_true (show 6 ≤ rc9 by omega)]
          rw [e106] at hW
          refine lv_lstore_n (lv' := [(3, .long (Wd (p_take K 2 s9).1)), (0, .ref px), (1, .ref x), (2, .int (nI i9))]) hx hb dX8_readBook_109 rfl hl (by decide) rfl (fun ls hl => ?_)
          refine lv_aload_n hx hb dX8_readBook_110 rfl (lv_at hl 1 rfl) ?_
          refine q_get hx hb hts hown hA hW iX8 pS_p rfl 1 (by decide) (hts (.fieldLink RX8 19 "HighRecipes$Parser" "book" "LHighRecipes$Book;") (by decide +kernel)) (fun _ h9 => h9) (v := .ref bk) rfl dX8_readBook_111 ?_
          refine lv_lload_n hx hb dX8_readBook_114 rfl (lv_at hl 0 rfl) ?_
          refine lv_aload_n hx hb dX8_readBook_115 rfl (lv_at hl 1 rfl) ?_
          refine lv_iconst (v := 0) hx hb dX8_readBook_116 (by decide) ?_
          have hW : q_W E (pS E g9 px bk T pn9 rc9 (p_recS K Wd pn9 pN9 rc9 rN9 s9)) (p_recS K Wd pn9 pN9 rc9 rN9 s9).2.2.2.2.2 H := by rw [ern]; exact hW
          refine q_cq (va_runV (As := [.int 0]) (rest := [.long (Wd (p_take K 2 s9).1), .ref bk]) ⟨hx, hb, hml, hown, hts⟩ (blk_all l E RS9 6 (Nat.le_refl _) (pS E g9 px bk T pn9 rc9 (p_recS K Wd pn9 pN9 rc9 rN9 s9)) px bk T pn9 rc9 (p_recS K Wd pn9 pN9 rc9 rN9 s9) kk wo pN9 rN9 K Wd ((pS_out (by omega) (by omega) (by omega)).trans e2) ((pS_out (by omega) (by omega) (by omega)).trans e4) ((pS_out (by omega) (by omega) (by omega)).trans c1) ((pS_out (by omega) (by omega) (by omega)).trans c3) (pS_K hbk) hbk (by rw [ern]; omega) hT hkk hKT hK41 hWd hpn hrc okr) (cwV 1 hts gX8_readBook_X8_readBlock rfl rfl rfl (by decide +kernel) ⟨(Nat.le_of_ble_eq_true rfl), (Nat.le_of_ble_eq_true rfl)⟩) (q_pV hA hW hS (ci := 8) rfl pS_p) rfl rfl hl.1 rfl (lv_room (Nat.le_of_ble_eq_true rfl)) dX8_readBook_117 ⟨(by rw [hu_s3, ern]; show s9.2.2.2.2.2 - bk + (s3.2.2.2.2.2 - (s9.2.2.2.2.2)) ≤ (b_R K Wd et (bk + 5)).1.2.2.2.2.2 - bk; omega), (by rw [hu_s3, ern]; show 9 * (s9.2.2.2.2.2 - bk) + (9 * (s3.2.2.2.2.2 - (s9.2.2.2.2.2))) ≤ 9 * ((b_R K Wd et (bk + 5)).1.2.2.2.2.2 - bk); omega)⟩) hS (fun r_117 f_117 n_117 H locs hp hW hS => ?_)
          obtain ⟨g7, rfl, rfl, fr_117, obj_117, rep_117⟩ := hp
          rw [hu_s3] at hW rep_117
          rw [hu_s3]
          rw [ern]
          rw [ern] at fr_117 obj_117 rep_117
          have fr7 : ∀ q, q < s9.2.2.2.2.2 → q ≠ px → q ≠ px + 1 → q ≠ bk → g7 q = g9 q := fun q hq h7 h8 h9 => (fr_117 q hq h7 h8 h9).trans (pS_out h7 h8 h9)
          have hW : q_W E (pS E g7 px bk T pn9 rc9 s3) (s3.2.2.2.2.2) H := hW
          rcases r_117 with _ | a7
          · refine q_cv (va_runV (As := [.long (Wd (p_take K 2 s9).1), .null]) (rest := []) ⟨hx, hb, hml, hown, hts⟩ (kX2_addRecipeFN l E (pS E g7 px bk T pn9 rc9 s3) s3.2.2.2.2.2 bk (nI pn9) (nI s3.2.2.2.2.1) rN9 (Wd (p_take K 2 s9).1) ((pS_b hbk).trans (by rw [show rc9 = 6 by omega]; rfl)) ((pS_out (by omega) (by omega) (by omega)).trans ((fr7 _ (by omega) (by omega) (by omega) (by omega)).trans c3))) (cwV 2 hts gX8_readBook_X2_addRecipe rfl rfl rfl (by decide +kernel) ⟨(Nat.le_of_ble_eq_true rfl), (Nat.le_of_ble_eq_true rfl)⟩) (q_pV hA hW hS (ci := 3) rfl (pS_b hbk)) rfl rfl hl.1 rfl (lv_room (Nat.le_of_ble_eq_true rfl)) dX8_readBook_120 ⟨(by show s9.2.2.2.2.2 - bk + (s3.2.2.2.2.2 - (s9.2.2.2.2.2)) + 0 ≤ (b_R K Wd et (bk + 5)).1.2.2.2.2.2 - bk; omega), (by show 9 * (s9.2.2.2.2.2 - bk) + (9 * (s3.2.2.2.2.2 - (s9.2.2.2.2.2))) + 0 ≤ 9 * ((b_R K Wd et (bk + 5)).1.2.2.2.2.2 - bk); omega)⟩) hS (fun f_120 n_120 H locs hp hW hS => ?_)
            obtain ⟨rfl, rfl⟩ := hp
            refine lv_iinc (v := nI (i9 + 1)) (lv' := [(2, .int (nI (i9 + 1))), (3, .long (Wd (p_take K 2 s9).1)), (0, .ref px), (1, .ref x)]) hx hb dX8_readBook_123 hl (k := 3) rfl (nI_1 i9) (by decide) rfl (fun ls hl => ?_)
            refine lv_goto (tgt := 58) hx hb dX8_readBook_126 (by decide) ?_
            refine W.widen (k := s3.2.2.2.2.2 - bk) (n := 9 * (s3.2.2.2.2.2 - bk)) (by omega) (by omega) ?_
            exact ih (i9 + 1) s3 g7 rc9 rN9 RS9 gb9 (by omega) ok_s3 (by omega) hpn hrc ((fr7 _ (by omega) (by omega) (by omega) (by omega)).trans e2) ((fr7 _ (by omega) (by omega) (by omega) (by omega)).trans e3) ((fr7 _ (by omega) (by omega) (by omega) (by omega)).trans e4) ((fr7 _ (by omega) (by omega) (by omega) (by omega)).trans c1) ((fr7 _ (by omega) (by omega) (by omega) (by omega)).trans c2) ((fr7 _ (by omega) (by omega) (by omega) (by omega)).trans c3) ((fr7 _ (by omega) (by omega) (by omega) (by omega)).trans c4) (fun q h1 h2 => (fr7 q (by omega) (by omega) (by omega) (by omega)).trans (hfr9 q h1 h2)) hPn hPh (by rw [eR1, if_neg h98]) (fun k1 k2 => by
              have k1a := lr.2.2.1 (b_s3.2.2.2.1 k1)
              have k2a := lr.2.2.2 (b_s3.2.2.2.2 k2)
              have hr9 := hrep k1a k2a
              intro r hr
              obtain ⟨z1, m, z2⟩ := hr9 r hr
              exact ⟨z1, m, rL_frame (fun q h1 h2 => fr7 q (by omega) (by omega) (by omega) (by omega)) (Nat.le_refl _) sn3 (fun a S h => rA_frame (fun q h1 h2 => fr7 q (by omega) (by omega) (by omega) (by omega)) (Nat.le_refl _) sn3 (Nat.le_refl _) (fun _ _ => rfl) 6 a S h) m _ _ z2⟩)
              _ _ _ hW hS (lv_sub hl [2, 3, 0] rfl)
          · obtain ⟨ha7, kd7, x1, x2, x3, x4, x5, x6, x7, x8, ho7⟩ := obj_117 a7 rfl
            refine q_cv (va_runV (As := [.long (Wd (p_take K 2 s9).1), .ref a7]) (rest := []) ⟨hx, hb, hml, hown, hts⟩ (kX2_addRecipeFS l E (pS E g7 px bk T pn9 rc9 s3) s3.2.2.2.2.2 bk (nI pn9) (nI s3.2.2.2.2.1) rN9 (Wd (p_take K 2 s9).1) a7 ((pS_b hbk).trans (by rw [show rc9 = 6 by omega]; rfl)) ((pS_out (by omega) (by omega) (by omega)).trans ((fr7 _ (by omega) (by omega) (by omega) (by omega)).trans c3))) (cwV 2 hts gX8_readBook_X2_addRecipe rfl rfl rfl (by decide +kernel) ⟨(Nat.le_of_ble_eq_true rfl), (Nat.le_of_ble_eq_true rfl)⟩) (q_pV hA hW hS (ci := 3) rfl (pS_b hbk)) rfl rfl hl.1 rfl (lv_room (Nat.le_of_ble_eq_true rfl)) dX8_readBook_120 ⟨(by show s9.2.2.2.2.2 - bk + (s3.2.2.2.2.2 - (s9.2.2.2.2.2)) + 0 ≤ (b_R K Wd et (bk + 5)).1.2.2.2.2.2 - bk; omega), (by show 9 * (s9.2.2.2.2.2 - bk) + (9 * (s3.2.2.2.2.2 - (s9.2.2.2.2.2))) + 0 ≤ 9 * ((b_R K Wd et (bk + 5)).1.2.2.2.2.2 - bk); omega)⟩) hS (fun f_120 n_120 H locs hp hW hS => ?_)
            obtain ⟨rfl, rfl⟩ := hp
            refine lv_iinc (v := nI (i9 + 1)) (lv' := [(2, .int (nI (i9 + 1))), (3, .long (Wd (p_take K 2 s9).1)), (0, .ref px), (1, .ref x)]) hx hb dX8_readBook_123 hl (k := 3) rfl (nI_1 i9) (by decide) rfl (fun ls hl => ?_)
            refine lv_goto (tgt := 58) hx hb dX8_readBook_126 (by decide) ?_
            refine W.widen (k := s3.2.2.2.2.2 - bk) (n := 9 * (s3.2.2.2.2.2 - bk)) (by omega) (by omega) ?_
            exact ih (i9 + 1) s3 g7 rc9 rN9 RS9 gb9 (by omega) ok_s3 (by omega) hpn hrc ((fr7 _ (by omega) (by omega) (by omega) (by omega)).trans e2) ((fr7 _ (by omega) (by omega) (by omega) (by omega)).trans e3) ((fr7 _ (by omega) (by omega) (by omega) (by omega)).trans e4) ((fr7 _ (by omega) (by omega) (by omega) (by omega)).trans c1) ((fr7 _ (by omega) (by omega) (by omega) (by omega)).trans c2) ((fr7 _ (by omega) (by omega) (by omega) (by omega)).trans c3) ((fr7 _ (by omega) (by omega) (by omega) (by omega)).trans c4) (fun q h1 h2 => (fr7 q (by omega) (by omega) (by omega) (by omega)).trans (hfr9 q h1 h2)) hPn hPh (by rw [eR1, if_neg h98]) (fun k1 k2 => by
              have k1a := lr.2.2.1 (b_s3.2.2.2.1 k1)
              have k2a := lr.2.2.2 (b_s3.2.2.2.2 k2)
              have hr9 := hrep k1a k2a
              intro r hr
              obtain ⟨z1, m, z2⟩ := hr9 r hr
              exact ⟨z1, m, rL_frame (fun q h1 h2 => fr7 q (by omega) (by omega) (by omega) (by omega)) (Nat.le_refl _) sn3 (fun a S h => rA_frame (fun q h1 h2 => fr7 q (by omega) (by omega) (by omega) (by omega)) (Nat.le_refl _) sn3 (Nat.le_refl _) (fun _ _ => rfl) 6 a S h) m _ _ z2⟩)
              _ _ _ hW hS (lv_sub hl [2, 3, 0] rfl)
  have K26 : ∀ (m9 i9 : Nat) (s9 : p_S) (g9 : q_H) (pn9 : Nat) (pN9 : Nat → Int64) (hd9 : Nat → Int32), i9 + m9 = 400 → p_ok K T s9 → s9.2.2.2.2.2 = bk + 5 → pn9 ≤ 8 → g9 (px + 2) = some (aQ E 5 401 kk) → g9 (px + 3) = some (aI E 401 po) → g9 (px + 4) = some (aJ E 401 wo) → g9 (bk + 1) = some (aJ E 8 pN9) → g9 (bk + 2) = some (aI E 8 hd9) → g9 (bk + 3) = some (aJ E 6 (fun _ => 0)) → g9 (bk + 4) = some (aQ E 3 6 (fun _ => none)) → (∀ q, q < bk → (q < px ∨ px + 4 < q) → g9 q = f q) → b_P K Wd et (bk + 5) = b_pans K Wd m9 s9 pn9 pN9 hd9 → ∀ (H : Heap) (locs : List Loc) (ls : Array Slot), q_W E (pS E g9 px bk T pn9 0 s9) (bk + 5) H → va_S (q_ge E) s.heap H locs → lv_has ls 5 [(0, .ref px), (1, .ref x), (2, .int (nI i9))] → W p l e (headSpec wsX8_readBook ({ frames := 110, cells := (b_R K Wd et (bk + 5)).1.2.2.2.2.2 - bk, slots := 9 * ((b_R K Wd et (bk + 5)).1.2.2.2.2.2 - bk), locals := 1700 })).room s m ([.ref px, .ref x] : List Value).toArray below meth c H locs 5 45 (MQ below (q_Qi E (BOOKq E f px bk L g et K Wd)) ([.ref px, .ref x] : List Value).toArray s ((b_R K Wd et (bk + 5)).1.2.2.2.2.2 - bk) (9 * ((b_R K Wd et (bk + 5)).1.2.2.2.2.2 - bk)) (q_ge E)) (F0 m 26 ls []) := by
    intro m9
    induction m9 with
    | zero =>
      intro i9 s9 g9 pn9 pN9 hd9 hi9 ok9 hn9 hpn e2 e3 e4 c1 c2 c3 c4 hfr9 hP H locs ls hW hS hl
      refine lv_iload_n hx hb dX8_readBook_26 rfl (lv_at hl 2 rfl) ?_
      refine lv_sipush (v := 400) hx hb dX8_readBook_27 (by decide) ?_
      refine lv_icmp_ge (tgt := 56) hx hb dX8_readBook_30 (by decide) (fun c_30 => ?_) (fun c_30 => False.elim ((fun h9 => h9 (by rw [show i9 = 400 by omega]; decide)) c_30))
      refine lv_iconst (v := 0) hx hb dX8_readBook_56 (by decide) ?_
      refine lv_istore_n (lv' := [(2, .int 0), (0, .ref px), (1, .ref x)]) hx hb dX8_readBook_57 rfl hl (by decide) rfl (fun ls hl => ?_)
      have eP : b_P K Wd et (bk + 5) = (s9, pn9, pN9, hd9) := by rw [hP]; first | rfl | (show (if s9.2.1 = 0 then _ else _) = _; rw [if_neg e43])
      have eR : b_R K Wd et (bk + 5) = b_recs K Wd pn9 pN9 400 s9 0 (fun _ => 0) (fun _ => k_nil) := by unfold b_R; rw [eP]
      have hW : q_W E (pS E g9 px bk T pn9 0 s9) s9.2.2.2.2.2 H := by rw [hn9]; exact hW
      refine W.widen (k := s9.2.2.2.2.2 - bk) (n := 9 * (s9.2.2.2.2.2 - bk)) (by omega) (by omega) ?_
      exact K58 pn9 pN9 hd9 400 0 s9 g9 0 _ _ _ rfl ok9 (by omega) hpn (Nat.zero_le _) e2 e3 e4 c1 c2 c3 c4 hfr9 (by rw [eP]) (by rw [eP]) eR (fun _ _ r hr => absurd hr (Nat.not_lt_zero _)) _ _ _ hW hS (lv_sub hl [1, 2, 0] rfl)
    | succ m9 ih =>
      intro i9 s9 g9 pn9 pN9 hd9 hi9 ok9 hn9 hpn e2 e3 e4 c1 c2 c3 c4 hfr9 hP H locs ls hW hS hl
      have hk9 : s9.2.1 < 41 := by rcases ok9.2.1 with h9 | h9 <;> rw [h9]; decide; exact hK41 _
      refine lv_iload_n hx hb dX8_readBook_26 rfl (lv_at hl 2 rfl) ?_
      refine lv_sipush (v := 400) hx hb dX8_readBook_27 (by decide) ?_
      refine lv_icmp_ge (tgt := 56) hx hb dX8_readBook_30 (by decide) (fun c_30 => False.elim ((fun h9 => absurd (show nI 400 ≤ nI i9 from h9) (nI_ge (by omega) (by decide))) c_30)) (fun c_30 => ?_)
      refine lv_aload_n hx hb dX8_readBook_33 rfl (lv_at hl 0 rfl) ?_
      refine q_get hx hb hts hown hA hW iX8 pS_p rfl 0 (by decide) (hts (.fieldLink RX8 10 "HighRecipes$Parser" "tokens" "LHighRecipes$Tokens;") (by decide +kernel)) (fun _ h9 => h9) (v := .ref (px + 1)) rfl dX8_readBook_34 ?_
      refine q_getN hx hb hts hown hA hW iX10 pS_t rfl 5 (by decide) (va_Nw.use rfl (hA.2.2.2.1 ("HighRecipes$Parser", 31, "HighRecipes$Tokens", "kind", "LHighRecipes$Kind;", "HighRecipes") (by decide +kernel))) (fun _ h9 => h9) (v := .ref (E.2.2.2 (s9).2.1)) rfl dX8_readBook_37 ?_
      refine va_gets (n := "PAN") (v := .ref (E.2.2.2 0)) hx hb (hA.2.2.1.1.1 0 (by decide)).1 hS hown (hts (.fieldLink RX8 35 "HighRecipes$Kind" "PAN" "LHighRecipes$Kind;") (by decide +kernel)) (fun _ h9 => h9) dX8_readBook_40 ?_
      refine lv_acmp_ne (rx := (some (E.2.2.2 (s9).2.1))) (ry := (some (E.2.2.2 0))) (tgt := 56) hx hb dX8_readBook_43 (by decide) (fun c_43 => ?_) (fun c_43 => ?_)
      · have e43 : ¬ s9.2.1 = 0 := fun h9 => c_43 (by rw [h9])
        refine lv_iconst (v := 0) hx hb dX8_readBook_56 (by decide) ?_
        refine lv_istore_n (lv' := [(2, .int 0), (0, .ref px), (1, .ref x)]) hx hb dX8_readBook_57 rfl hl (by decide) rfl (fun ls hl => ?_)
        have eP : b_P K Wd et (bk + 5) = (s9, pn9, pN9, hd9) := by rw [hP]; first | rfl | (show (if s9.2.1 = 0 then _ else _) = _; rw [if_neg e43])
        have eR : b_R K Wd et (bk + 5) = b_recs K Wd pn9 pN9 400 s9 0 (fun _ => 0) (fun _ => k_nil) := by unfold b_R; rw [eP]
        have hW : q_W E (pS E g9 px bk T pn9 0 s9) s9.2.2.2.2.2 H := by rw [hn9]; exact hW
        refine W.widen (k := s9.2.2.2.2.2 - bk) (n := 9 * (s9.2.2.2.2.2 - bk)) (by omega) (by omega) ?_
        exact K58 pn9 pN9 hd9 400 0 s9 g9 0 _ _ _ rfl ok9 (by omega) hpn (Nat.zero_le _) e2 e3 e4 c1 c2 c3 c4 hfr9 (by rw [eP]) (by rw [eP]) eR (fun _ _ r hr => absurd hr (Nat.not_lt_zero _)) _ _ _ hW hS (lv_sub hl [1, 2, 0] rfl)
      · have e43 : s9.2.1 = 0 := q_kinj hA hk9 (by decide) c_43
        have okp : p_ok K T (p_panS K Wd pn9 pN9 s9) := (go_panS hKT ok9).1
        refine lv_aload_n hx hb dX8_readBook_46 rfl (lv_at hl 0 rfl) ?_
        rcases Nat.lt_or_ge pn9 8 with h8 | h8
        · refine q_cv (va_runV (As := []) (rest := []) ⟨hx, hb, hml, hown, hts⟩ (kX8_readPanT l E (pS E g9 px bk T pn9 0 s9) (bk + 5) px bk T pn9 0 s9 kk wo pN9 (fun _ => 0) K Wd hd9 ((pS_out (by omega) (by omega) (by omega)).trans e2) ((pS_out (by omega) (by omega) (by omega)).trans e4) ((pS_out (by omega) (by omega) (by omega)).trans c1) ((pS_out (by omega) (by omega) (by omega)).trans c3) ((pS_out (by omega) (by omega) (by omega)).trans c2) (pS_K hbk) (by assumption) (Nat.le_refl _) (by assumption) (by assumption) (by assumption) (by assumption) (by assumption) hpn (Nat.zero_le _) ok9 rfl rfl (by omega)) (cwV 0 hts gX8_readBook_X8_readPan rfl rfl rfl (by decide +kernel) ⟨(Nat.le_of_ble_eq_true rfl), (Nat.le_of_ble_eq_true rfl)⟩) (q_pV hA hW hS (ci := 8) rfl pS_p) rfl rfl hl.1 rfl (lv_room (Nat.le_of_ble_eq_true rfl)) dX8_readBook_47 ⟨(by show 5 + 0 ≤ (b_R K Wd et (bk + 5)).1.2.2.2.2.2 - bk; omega), (by show 45 + 0 ≤ 9 * ((b_R K Wd et (bk + 5)).1.2.2.2.2.2 - bk); omega)⟩) hS (fun f_47 n_47 H locs hp hW hS => ?_)
          obtain ⟨rfl, rfl⟩ := hp
          rw [pS_iu (by omega) (by omega) (by omega), pS_iu (by omega) (by omega) (by omega)] at hW
          rw [pS_pS2] at hW
          refine lv_iinc (v := nI (i9 + 1)) (lv' := [(2, .int (nI (i9 + 1))), (0, .ref px), (1, .ref x)]) hx hb dX8_readBook_50 hl (k := 2) rfl (nI_1 i9) (by decide) rfl (fun ls hl => ?_)
          refine lv_goto (tgt := 26) hx hb dX8_readBook_53 (by decide) ?_
          exact ih (i9 + 1) (p_panS K Wd pn9 pN9 s9) (va_up (va_up g9 (bk + 1) (some (aJ E 8 (vp_updL pN9 pn9 (Wd (p_take K 0 s9).1))))) (bk + 2) (some (aI E 8 (upd hd9 pn9 (p_panX K Wd pn9 pN9 s9))))) (pn9 + 1) _ _ (by omega) okp (by rw [panS_n]; exact hn9) (by omega) ((va_up_ne _ _ (by omega)).trans ((va_up_ne _ _ (by omega)).trans e2)) ((va_up_ne _ _ (by omega)).trans ((va_up_ne _ _ (by omega)).trans e3)) ((va_up_ne _ _ (by omega)).trans ((va_up_ne _ _ (by omega)).trans e4)) ((va_up_ne _ _ (by omega)).trans q_eq) q_eq ((va_up_ne _ _ (by omega)).trans ((va_up_ne _ _ (by omega)).trans c3)) ((va_up_ne _ _ (by omega)).trans ((va_up_ne _ _ (by omega)).trans c4)) (fun q h1 h2 => ((va_up_ne _ _ (by omega)).trans ((va_up_ne _ _ (by omega)).trans (hfr9 q h1 h2)))) (by rw [hP]; show (if s9.2.1 = 0 then _ else _) = _; rw [if_pos e43, if_pos h8]) _ _ _ hW hS (lv_sub hl [1, 2, 0] rfl)
        · refine q_cv (va_runV (As := []) (rest := []) ⟨hx, hb, hml, hown, hts⟩ (kX8_readPanF l E (pS E g9 px bk T pn9 0 s9) (bk + 5) px bk T pn9 0 s9 kk wo pN9 (fun _ => 0) K Wd hd9 ((pS_out (by omega) (by omega) (by omega)).trans e2) ((pS_out (by omega) (by omega) (by omega)).trans e4) ((pS_out (by omega) (by omega) (by omega)).trans c1) ((pS_out (by omega) (by omega) (by omega)).trans c3) ((pS_out (by omega) (by omega) (by omega)).trans c2) (pS_K hbk) (by assumption) (Nat.le_refl _) (by assumption) (by assumption) (by assumption) (by assumption) (by assumption) hpn (Nat.zero_le _) ok9 rfl rfl (by omega)) (cwV 0 hts gX8_readBook_X8_readPan rfl rfl rfl (by decide +kernel) ⟨(Nat.le_of_ble_eq_true rfl), (Nat.le_of_ble_eq_true rfl)⟩) (q_pV hA hW hS (ci := 8) rfl pS_p) rfl rfl hl.1 rfl (lv_room (Nat.le_of_ble_eq_true rfl)) dX8_readBook_47 ⟨(by show 5 + 0 ≤ (b_R K Wd et (bk + 5)).1.2.2.2.2.2 - bk; omega), (by show 45 + 0 ≤ 9 * ((b_R K Wd et (bk + 5)).1.2.2.2.2.2 - bk); omega)⟩) hS (fun f_47 n_47 H locs hp hW hS => ?_)
          obtain ⟨rfl, rfl⟩ := hp
          rw [pS_pS2] at hW
          refine lv_iinc (v := nI (i9 + 1)) (lv' := [(2, .int (nI (i9 + 1))), (0, .ref px), (1, .ref x)]) hx hb dX8_readBook_50 hl (k := 2) rfl (nI_1 i9) (by decide) rfl (fun ls hl => ?_)
          refine lv_goto (tgt := 26) hx hb dX8_readBook_53 (by decide) ?_
          exact ih (i9 + 1) (p_panS K Wd pn9 pN9 s9) g9 pn9 pN9 hd9 (by omega) okp (by rw [panS_n]; exact hn9) hpn e2 e3 e4 c1 c2 c3 c4 hfr9 (by rw [hP]; show (if s9.2.1 = 0 then _ else _) = _; rw [if_pos e43, if_neg (by omega)]) _ _ _ hW hS (lv_sub hl [1, 2, 0] rfl)
  refine lv_iconst (v := 0) hx hb dX8_readBook_24 (by decide) ?_
  refine lv_istore_n (lv' := [(2, .int 0), (0, .ref px), (1, .ref x)]) hx hb dX8_readBook_25 rfl hl (by decide) rfl (fun ls hl => ?_)
  refine W.widen (k := 5) (n := 45) (by decide) (by decide) ?_
  exact K26 400 0 (0, K 0, 0, et, 0, bk + 5) G0 0 _ _ rfl ok0 rfl (Nat.zero_le _) P2 P3 P4 B1 B2 B3 B4 hF0 rfl _ _ _ hW hS (lv_sub hl [1, 2, 0] rfl)

