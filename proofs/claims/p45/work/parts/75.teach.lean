/-! the class is taught -/
def h_ok (x : Int32) : Prop := ∃ h, x = nI h ∧ h ≤ 200
theorem h_ok_of {x : Int32} (h1 : ¬ x < 1) (h2 : ¬ 200 < x) : h_ok x := by
  have hin : b_in x (nI 1) (nI 200) = true := by
    unfold b_in
    rw [Bool.and_eq_true, decide_eq_false (show ¬ x < nI 1 from h1), decide_eq_false (show ¬ nI 200 < x from h2)]
    exact ⟨rfl, rfl⟩
  obtain ⟨i, e, -, h⟩ := b_in_n (a := 1) (b := 200) (by decide) (by decide) hin
  exact ⟨i, e, h⟩
theorem panS_h {K : Nat → Nat} {T : Nat} {Wd pN : Nat → Int64} {pn : Nat} {s : p_S} (hKT : 39 ≤ K T) (hs : p_ok K T s) (h1 : (p_panS K Wd pn pN s).2.1 ≠ 40) (h2 : (p_panS K Wd pn pN s).2.2.1 = 0) : h_ok (p_panX K Wd pn pN s) := by
  have okU := (go_hold (Wd := Wd) (pn := pn) (pN := pN) hKT hs).1
  have okC := (go_ci (s := p_hold K Wd pn pN s) (c := decide ((p_hold K Wd pn pN s).2.1 = 38) && (decide (p_panX K Wd pn pN s < 1) || decide (200 < p_panX K Wd pn pN s))) (e := 5) (K := K) (T := T) (by decide) (by decide) okU).1
  have h3 := (go_take (w := 38) hKT (by decide) okC)
  have h4 := (go_take (w := 29) hKT (by decide) h3.1).2
  have k1 := h4.2.2.1 h1
  have e1 := h3.2.2.2.2 (h4.2.2.2 h2)
  have k2 : (p_hold K Wd pn pN s).2.1 = 38 := by
    by_cases h : (p_hold K Wd pn pN s).2.1 = 38
    · exact h
    · exfalso
      apply k1
      unfold p_take
      rw [decide_eq_false (show ¬ (p_ci (decide ((p_hold K Wd pn pN s).2.1 = 38) && (decide (p_panX K Wd pn pN s < 1) || decide (200 < p_panX K Wd pn pN s))) 5 (p_hold K Wd pn pN s)).2.1 = 38 from h)]
      rfl
  have e2 : (p_hold K Wd pn pN s).2.2.1 = 0 := (go_ci (s := p_hold K Wd pn pN s) (c := decide ((p_hold K Wd pn pN s).2.1 = 38) && (decide (p_panX K Wd pn pN s < 1) || decide (200 < p_panX K Wd pn pN s))) (e := 5) (K := K) (T := T) (by decide) (by decide) okU).2.2.2.2 e1
  have e3 : (if (decide ((p_hold K Wd pn pN s).2.1 = 38) && (decide (p_panX K Wd pn pN s < 1) || decide (200 < p_panX K Wd pn pN s))) = true ∧ (p_hold K Wd pn pN s).2.2.1 = 0 then 5 else (p_hold K Wd pn pN s).2.2.1) = 0 := e1
  rw [decide_eq_true k2] at e3
  refine h_ok_of (fun h9 => ?_) (fun h9 => ?_)
  · rw [if_pos ⟨by rw [decide_eq_true h9]; rfl, e2⟩] at e3
    cases e3
  · rw [if_pos ⟨by rw [decide_eq_true h9]; simp, e2⟩] at e3
    cases e3
theorem pans_h {K : Nat → Nat} {T : Nat} {Wd : Nat → Int64} (hKT : 39 ≤ K T) : ∀ (m : Nat) (s : p_S) (pn : Nat) (pN : Nat → Int64) (hd : Nat → Int32), p_ok K T s → (b_pans K Wd m s pn pN hd).1.2.1 ≠ 40 → (b_pans K Wd m s pn pN hd).1.2.2.1 = 0 → (∀ i, i < pn → h_ok (hd i)) → ∀ i, i < (b_pans K Wd m s pn pN hd).2.1 → h_ok ((b_pans K Wd m s pn pN hd).2.2.2 i)
  | 0, _, _, _, _, _, _, _, h => h
  | m + 1, s, pn, pN, hd, hs, h1, h2, h => by
    unfold b_pans at h1 h2 ⊢
    split at h1
    · next h0 =>
      rw [if_pos h0] at h2 ⊢
      have okS := (go_panS (Wd := Wd) (pn := pn) (pN := pN) hKT hs).1
      split at h1
      · next hp =>
        rw [if_pos hp] at h2 ⊢
        refine pans_h hKT m _ _ _ _ okS h1 h2 ?_
        intro i hi
        by_cases e : i = pn
        · subst e
          rw [z_us]
          have z := (go_pans (Wd := Wd) hKT m _ (i + 1) (vp_updL pN i (Wd (p_take K 0 s).1)) (upd hd i (p_panX K Wd i pN s)) okS).2
          exact panS_h hKT hs (z.2.2.1 h1) (z.2.2.2 h2)
        · rw [z_un e]
          exact h i (by omega)
      · next hp =>
        rw [if_neg hp] at h2 ⊢
        exact pans_h hKT m _ _ _ _ okS h1 h2 h
    · next h0 =>
      rw [if_neg h0]
      exact h
/-- what pans of a good book hold -/
theorem book_h {g : Nat → Int32} {L et n : Nat} (h : (BKp (t_K g L) (t_W g L) et n).2.2.1 = 0) : ∀ i, i < (b_P (t_K g L) (t_W g L) et n).2.1 → h_ok ((b_P (t_K g L) (t_W g L) et n).2.2.2 i) := by
  have ok0 : p_ok (t_K g L) 400 (0, t_K g L 0, 0, et, 0, n) := ⟨Nat.zero_le _, Or.inr rfl, Nat.zero_le _, fun h => absurd rfl h, Nat.le_refl _⟩
  obtain ⟨ok1, -⟩ := go_pans (Wd := t_W g L) (t_K_400 (g := g) (L := L)) 400 (0, t_K g L 0, 0, et, 0, n) 0 (fun _ => 0) (fun _ => 0) ok0
  obtain ⟨-, le1⟩ := go_recs (Wd := t_W g L) (pn := (b_P (t_K g L) (t_W g L) et n).2.1) (pN := (b_P (t_K g L) (t_W g L) et n).2.2.1) (t_K_400 (g := g) (L := L)) 400 _ 0 (fun _ => 0) (fun _ => k_nil) ok1
  have z : (b_R (t_K g L) (t_W g L) et n).1.2.1 = 39 ∧ (b_R (t_K g L) (t_W g L) et n).1.2.2.1 = 0 := by
    unfold BKp p_fin at h
    split at h
    · next h9 => exact ⟨h9, h⟩
    · cases h
  exact pans_h (t_K_400 (g := g) (L := L)) 400 _ 0 (fun _ => 0) (fun _ => 0) ok0 (le1.2.2.1 (by show (b_R (t_K g L) (t_W g L) et n).1.2.1 ≠ 40; rw [z.1]; decide)) (le1.2.2.2 z.2) (fun i hi => absurd hi (Nat.not_lt_zero _))

set_option maxHeartbeats 4000000 in
set_option maxRecDepth 100000 in
theorem kX12_teach (l : Launch) (E : q_E) (f : q_H) (n : Nat) (x tp pr k ck tr tk : Nat) (ep : Int32) (L : Nat) (g : Nat → Int32) (bk0 et : Nat) (er0 c0 here0 : Int32) (k0 : Nat) (kk0 : Nat → Option Nat) (po0 : Nat → Int32) (wo0 : Nat → Int64) (bk : Nat) (hd v : Nat → Int32) (hX : f x = some (rX12 (some tp) (some pr) (some k) (some ck) (some tr) (some tk) ep)) (hT : f tp = some (cTape tp (nI L))) (hT1 : f (tp + 1) = some (aB E 1600 g)) (p0 : f pr = some (cPar pr bk0 er0 (nI et))) (p1 : f (pr + 1) = some (cTok E (pr + 1) c0 here0 k0)) (p2 : f (pr + 2) = some (aQ E 5 401 kk0)) (p3 : f (pr + 3) = some (aI E 401 po0)) (p4 : f (pr + 4) = some (aJ E 401 wo0)) (hk : KIT E f k bk hd v) (hL : L ≤ 1600) (hlay : x < tp ∧ tp + 1 < pr ∧ pr + 4 < k ∧ k + 20 ≤ n) : Met l yX12_teach wsX12_teach ({ frames := 120, cells := 420, slots := 3780, locals := 1900 }) (q_P E [.ref x] f n) (q_Qi E (fun r f1 n1 => nI (BKp (t_K g L) (t_W g L) et (n + 5)).2.2.1 = r ∧ (∃ (F8 : q_H) (T : Nat) (kk : Nat → Option Nat) (po : Nat → Int32) (wo : Nat → Int64) (gb : Nat → Option Nat), F8 pr = some (cPar pr n (nI (BKp (t_K g L) (t_W g L) et (n + 5)).2.2.1) (nI (BKp (t_K g L) (t_W g L) et (n + 5)).2.2.2.1)) ∧ F8 (pr + 1) = some (cTS E (pr + 1) T (BKp (t_K g L) (t_W g L) et (n + 5))) ∧ F8 (pr + 2) = some (aQ E 5 401 kk) ∧ F8 (pr + 3) = some (aI E 401 po) ∧ F8 (pr + 4) = some (aJ E 401 wo) ∧ F8 n = some (cBook n (nI (b_P (t_K g L) (t_W g L) et (n + 5)).2.1) (nI (b_R (t_K g L) (t_W g L) et (n + 5)).2.1) (nI (BKp (t_K g L) (t_W g L) et (n + 5)).2.2.2.2.1)) ∧ F8 (n + 2) = some (aI E 8 (b_P (t_K g L) (t_W g L) et (n + 5)).2.2.2) ∧ F8 (n + 4) = some (aQ E 3 6 gb) ∧ (∀ q, q < n → (q < pr ∨ pr + 4 < q) → F8 q = f q) ∧ (b_P (t_K g L) (t_W g L) et (n + 5)).2.1 ≤ 8 ∧ (b_R (t_K g L) (t_W g L) et (n + 5)).2.1 ≤ 6 ∧ ((BKp (t_K g L) (t_W g L) et (n + 5)).2.2.1 = 0 → rRS E (b_P (t_K g L) (t_W g L) et (n + 5)).2.1 (n + 5) (b_R (t_K g L) (t_W g L) et (n + 5)).1.2.2.2.2.2 F8 (b_R (t_K g L) (t_W g L) et (n + 5)).2.2.2 gb (b_R (t_K g L) (t_W g L) et (n + 5)).2.1) ∧ (if (BKp (t_K g L) (t_W g L) et (n + 5)).2.2.1 = 0 then kO E (va_up (va_up F8 x (some (rX12 (some tp) (some pr) (some k) (some ck) (some tr) (some tk) (if (BKp (t_K g L) (t_W g L) et (n + 5)).2.2.1 = 0 then -1 else nI (t_P g L (BKp (t_K g L) (t_W g L) et (n + 5)).2.2.2.1))))) tp (some (cTape tp 0))) k n (z_hdn hd (b_P (t_K g L) (t_W g L) et (n + 5)).2.2.2 (b_P (t_K g L) (t_W g L) et (n + 5)).2.1) (z_bgn v (b_P (t_K g L) (t_W g L) et (n + 5)).2.1) else va_up (va_up F8 x (some (rX12 (some tp) (some pr) (some k) (some ck) (some tr) (some tk) (if (BKp (t_K g L) (t_W g L) et (n + 5)).2.2.1 = 0 then -1 else nI (t_P g L (BKp (t_K g L) (t_W g L) et (n + 5)).2.2.2.1))))) tp (some (cTape tp 0))) = f1) ∧ (b_R (t_K g L) (t_W g L) et (n + 5)).1.2.2.2.2.2 = n1)) 420 3780 (q_ge E) := by
  refine Met.ofW (cc := cX12_teach) (maxL := 2) (ret := (some .int)) (by decide) rfl ?_
  intro p e s m args below meth c s₁ B hml hv
  obtain ⟨rfl, hA, hW⟩ := hv
  have hx := B.exec
  have hb := B.bytes
  have hr := B.returns
  have hts := atoms_spec (ws := wsX12_teach) B.pre
  have hown : s.vm.findClass RX12 = some m.cls := findClass_of_methodNamed B.named
  have hlocks := B.notSynchronized
  have hS : va_S (q_ge E) s.heap s.heap [] := va_S.rf
  have iX12 : ∀ w ∈ wsX120, w ∈ wsX12_teach := by decide +kernel
  have iX8 : ∀ w ∈ wsX80, w ∈ wsX12_teach := by decide +kernel
  have iX9 : ∀ w ∈ wsX90, w ∈ wsX12_teach := by decide +kernel
  have hl := lv_entry ([.ref x]) (n := 2) (Nat.le_of_ble_eq_true rfl)
  rw [lg_entry_eq]
  generalize (lg_sl ([.ref x]) ++ List.replicate (2 - (lg_sl ([.ref x])).length) Slot.unset).toArray = ls at hl ⊢
  have hl : lv_has ls 2 [(0, .ref x)] := hl
  have hrm := room_book (g := g) (L := L) (et := et) (n := n + 5)
  refine lv_aload_n hx hb dX12_teach_0 rfl (lv_at hl 0 rfl) ?_
  refine q_get hx hb hts hown hA hW iX12 hX rfl 1 (by decide) (hts (.fieldLink RX12 19 "HighRecipes" "parser" "LHighRecipes$Parser;") (by decide +kernel)) (fun _ h9 => h9) (v := .ref pr) rfl dX12_teach_1 ?_
  refine lv_aload_n hx hb dX12_teach_4 rfl (lv_at hl 0 rfl) ?_
  refine q_get hx hb hts hown hA hW iX12 hX rfl 0 (by decide) (hts (.fieldLink RX12 10 "HighRecipes" "tape" "LHighRecipes$Tape;") (by decide +kernel)) (fun _ h9 => h9) (v := .ref tp) rfl dX12_teach_5 ?_
  refine q_ci (va_runV (As := [.ref tp]) (rest := []) ⟨hx, hb, hml, hown, hts⟩ (kX8_readBook l E f n pr n tp L g et bk0 er0 c0 here0 k0 kk0 po0 wo0 (t_K g L) (t_W g L) p0 p1 p2 p3 p4 hT hT1 rfl hL (by omega) (by omega) (by omega) rfl rfl) (cwV 1 hts gX12_teach_X8_readBook rfl rfl rfl (by decide +kernel) ⟨(Nat.le_of_ble_eq_true rfl), (Nat.le_of_ble_eq_true rfl)⟩) (q_pV hA hW hS (ci := 8) rfl p0) rfl rfl hl.1 rfl (lv_room (Nat.le_of_ble_eq_true rfl)) dX12_teach_8 ⟨(by show 0 + ((b_R (t_K g L) (t_W g L) et (n + 5)).1.2.2.2.2.2 - n) ≤ 420; omega), (by show 0 + 9 * ((b_R (t_K g L) (t_W g L) et (n + 5)).1.2.2.2.2.2 - n) ≤ 3780; omega)⟩) hS (fun r_8 f_8 n_8 H locs hp hW hS => ?_)
  obtain ⟨G, T, kk, po, wo, gb, rfl, rfl, rfl, htk, G2, G3, G4, Gb2, Gb4, Gfr, pok, hp8, hr6, hRSb⟩ := hp
  refine W.widen (k := 420) (n := 3780) (by show 0 + ((b_R (t_K g L) (t_W g L) et (n + 5)).1.2.2.2.2.2 - n) ≤ 420; omega) (by show 0 + 9 * ((b_R (t_K g L) (t_W g L) et (n + 5)).1.2.2.2.2.2 - n) ≤ 3780; omega) ?_
  obtain ⟨F8, hF8⟩ : ∃ z, z = pS E G pr n T (b_P (t_K g L) (t_W g L) et (n + 5)).2.1 (b_R (t_K g L) (t_W g L) et (n + 5)).2.1 (BKp (t_K g L) (t_W g L) et (n + 5)) := ⟨_, rfl⟩
  rw [← hF8] at hW
  have q0 : F8 pr = some (cPar pr n (nI (BKp (t_K g L) (t_W g L) et (n + 5)).2.2.1) (nI (BKp (t_K g L) (t_W g L) et (n + 5)).2.2.2.1)) := by rw [hF8]; exact pS_p
  have q1 : F8 (pr + 1) = some (cTS E (pr + 1) T (BKp (t_K g L) (t_W g L) et (n + 5))) := by rw [hF8]; exact pS_t
  have q2 : F8 (pr + 2) = some (aQ E 5 401 kk) := by rw [hF8]; exact (pS_out (by omega) (by omega) (by omega)).trans G2
  have q3 : F8 (pr + 3) = some (aI E 401 po) := by rw [hF8]; exact (pS_out (by omega) (by omega) (by omega)).trans G3
  have q4 : F8 (pr + 4) = some (aJ E 401 wo) := by rw [hF8]; exact (pS_out (by omega) (by omega) (by omega)).trans G4
  have qb : F8 n = some (cBook n (nI (b_P (t_K g L) (t_W g L) et (n + 5)).2.1) (nI (b_R (t_K g L) (t_W g L) et (n + 5)).2.1) (nI (BKp (t_K g L) (t_W g L) et (n + 5)).2.2.2.2.1)) := by rw [hF8]; exact pS_b (by omega)
  have qb2 : F8 (n + 2) = some (aI E 8 (b_P (t_K g L) (t_W g L) et (n + 5)).2.2.2) := by rw [hF8]; exact (pS_out (by omega) (by omega) (by omega)).trans Gb2
  have qb4 : F8 (n + 4) = some (aQ E 3 6 gb) := by rw [hF8]; exact (pS_out (by omega) (by omega) (by omega)).trans Gb4
  have fr8 : ∀ q, q < n → (q < pr ∨ pr + 4 < q) → F8 q = f q := fun q h1 h2 => by rw [hF8]; exact (pS_out (by omega) (by omega) (by omega)).trans (Gfr q h1 h2)
  have hRS8 : (BKp (t_K g L) (t_W g L) et (n + 5)).2.2.1 = 0 → rRS E (b_P (t_K g L) (t_W g L) et (n + 5)).2.1 (n + 5) (b_R (t_K g L) (t_W g L) et (n + 5)).1.2.2.2.2.2 F8 (b_R (t_K g L) (t_W g L) et (n + 5)).2.2.2 gb (b_R (t_K g L) (t_W g L) et (n + 5)).2.1 := fun h9 => rep_RS (f := G) (fun q h1 h2 => by rw [hF8]; exact pS_out (by omega) (by omega) (by omega)) (by have z := hRSb h9; unfold BKp at z; rw [fin_n] at z; exact z)
  have hnn : (BKp (t_K g L) (t_W g L) et (n + 5)).2.2.2.2.2 = (b_R (t_K g L) (t_W g L) et (n + 5)).1.2.2.2.2.2 := fin_n
  rw [hnn] at hW
  have hW : q_W E F8 ((b_R (t_K g L) (t_W g L) et (n + 5)).1.2.2.2.2.2) H := hW
  refine lv_istore_n (lv' := [(1, .int (nI (BKp (t_K g L) (t_W g L) et (n + 5)).2.2.1)), (0, .ref x)]) hx hb dX12_teach_11 rfl hl (by decide) rfl (fun ls hl => ?_)
  refine lv_aload_n hx hb dX12_teach_12 rfl (lv_at hl 1 rfl) ?_
  refine lv_aload_n hx hb dX12_teach_13 rfl (lv_at hl 1 rfl) ?_
  refine q_get hx hb hts hown hA hW iX12 ((fr8 x (by omega) (by omega)).trans hX) rfl 1 (by decide) (hts (.fieldLink RX12 19 "HighRecipes" "parser" "LHighRecipes$Parser;") (by decide +kernel)) (fun _ h9 => h9) (v := .ref pr) rfl dX12_teach_14 ?_
  refine q_ci (va_runV (As := []) (rest := [.ref x]) ⟨hx, hb, hml, hown, hts⟩ (kX8_errorPosition l E F8 ((b_R (t_K g L) (t_W g L) et (n + 5)).1.2.2.2.2.2) pr n ((BKp (t_K g L) (t_W g L) et (n + 5)).2.2.1) T ((BKp (t_K g L) (t_W g L) et (n + 5)).2.2.2.1) po (nI (T + 1)) (nI (BKp (t_K g L) (t_W g L) et (n + 5)).1) ((BKp (t_K g L) (t_W g L) et (n + 5)).2.1) q0 q1 q3 pok.2.2.1 htk.1 pok.2.2.2.1) (cwV 0 hts gX12_teach_X8_errorPosition rfl rfl rfl (by decide +kernel) ⟨(Nat.le_of_ble_eq_true rfl), (Nat.le_of_ble_eq_true rfl)⟩) (q_pV hA hW hS (ci := 8) rfl q0) rfl rfl hl.1 rfl (lv_room (Nat.le_of_ble_eq_true rfl)) dX12_teach_17 ⟨Nat.le_of_ble_eq_true rfl, Nat.le_of_ble_eq_true rfl⟩) hS (fun r_17 f_17 n_17 H locs hp hW hS => ?_)
  obtain ⟨rfl, rfl, rfl⟩ := hp
  have hpo : (if (BKp (t_K g L) (t_W g L) et (n + 5)).2.2.1 = 0 then -1 else po (BKp (t_K g L) (t_W g L) et (n + 5)).2.2.2.1) = (if (BKp (t_K g L) (t_W g L) et (n + 5)).2.2.1 = 0 then -1 else nI (t_P g L (BKp (t_K g L) (t_W g L) et (n + 5)).2.2.2.1)) := by
    split
    · rfl
    · next h9 => exact (htk.2.2.2 _ (pok.2.2.2.1 h9)).2.1
  rw [hpo]
  have hW : q_W E F8 ((b_R (t_K g L) (t_W g L) et (n + 5)).1.2.2.2.2.2) H := hW
  refine q_put hx hb hts hown hA hW hS iX12 tyX12 tyX12_ok nmX12 ((fr8 x (by omega) (by omega)).trans hX) rfl 6 (by decide) (hts (.fieldLink RX12 45 "HighRecipes" "errorPosition" "I") (by decide +kernel)) (fun _ h9 => h9) rfl rfl rfl (Nat.le_of_ble_eq_true rfl) dX12_teach_20 (fun H locs hW hS => ?_)
  have hW : q_W E (va_up F8 x (some (rX12 (some tp) (some pr) (some k) (some ck) (some tr) (some tk) (if (BKp (t_K g L) (t_W g L) et (n + 5)).2.2.1 = 0 then -1 else nI (t_P g L (BKp (t_K g L) (t_W g L) et (n + 5)).2.2.2.1))))) ((b_R (t_K g L) (t_W g L) et (n + 5)).1.2.2.2.2.2) H := hW
  refine lv_aload_n hx hb dX12_teach_23 rfl (lv_at hl 1 rfl) ?_
  refine q_get hx hb hts hown hA hW iX12 q_eq rfl 0 (by decide) (hts (.fieldLink RX12 10 "HighRecipes" "tape" "LHighRecipes$Tape;") (by decide +kernel)) (fun _ h9 => h9) (v := .ref tp) rfl dX12_teach_24 ?_
  refine lv_iconst (v := 0) hx hb dX12_teach_27 (by decide) ?_
  refine q_putN hx hb hts hown hA hW hS iX9 tyX9 tyX9_ok nmX9 (q_ne (by omega) ((fr8 tp (by omega) (by omega)).trans hT)) rfl 1 (by decide) (va_Nw.use rfl (hA.2.2.2.1 ("HighRecipes", 49, "HighRecipes$Tape", "length", "I", "HighRecipes") (by decide +kernel))) (fun _ h9 => h9) rfl rfl rfl (Nat.le_of_ble_eq_true rfl) dX12_teach_28 (fun H locs hW hS => ?_)
  have hW : q_W E (va_up (va_up F8 x (some (rX12 (some tp) (some pr) (some k) (some ck) (some tr) (some tk) (if (BKp (t_K g L) (t_W g L) et (n + 5)).2.2.1 = 0 then -1 else nI (t_P g L (BKp (t_K g L) (t_W g L) et (n + 5)).2.2.2.1))))) tp (some (cTape tp 0))) ((b_R (t_K g L) (t_W g L) et (n + 5)).1.2.2.2.2.2) H := hW
  refine lv_iload_n hx hb dX12_teach_31 rfl (lv_at hl 0 rfl) ?_
  refine lv_if_ne (tgt := 49) hx hb dX12_teach_32 (by decide) (fun c_32 => ?_) (fun c_32 => ?_)
  · have er : ¬ (BKp (t_K g L) (t_W g L) et (n + 5)).2.2.1 = 0 := fun h9 => c_32 (by rw [h9]; rfl)
    refine lv_iload_n hx hb dX12_teach_49 rfl (lv_at hl 0 rfl) ?_
    exact q_iret hx hb hr hlocks hW hS ⟨rfl, ⟨F8, T, kk, po, wo, gb, q0, q1, q2, q3, q4, qb, qb2, qb4, fr8, hp8, hr6, hRS8, if_neg er⟩, rfl⟩ (Nat.le_refl _) (Nat.le_refl _) dX12_teach_50
  · have er : (BKp (t_K g L) (t_W g L) et (n + 5)).2.2.1 = 0 := (nI_eq (b := 0) (by have z := pok.2.2.1; omega) (by decide)).1 c_32
    refine lv_aload_n hx hb dX12_teach_35 rfl (lv_at hl 1 rfl) ?_
    refine q_get hx hb hts hown hA hW iX12 (q_ne (by omega) q_eq) rfl 2 (by decide) (hts (.fieldLink RX12 26 "HighRecipes" "kitchen" "LHighRecipes$Kitchen;") (by decide +kernel)) (fun _ h9 => h9) (v := .ref k) rfl dX12_teach_36 ?_
    refine lv_aload_n hx hb dX12_teach_39 rfl (lv_at hl 1 rfl) ?_
    refine q_get hx hb hts hown hA hW iX12 (q_ne (by omega) q_eq) rfl 1 (by decide) (hts (.fieldLink RX12 19 "HighRecipes" "parser" "LHighRecipes$Parser;") (by decide +kernel)) (fun _ h9 => h9) (v := .ref pr) rfl dX12_teach_40 ?_
    refine q_getN hx hb hts hown hA hW iX8 (q_ne (by omega) (q_ne (by omega) q0)) rfl 1 (by decide) (va_Nw.use rfl (hA.2.2.2.1 ("HighRecipes", 74, "HighRecipes$Parser", "book", "LHighRecipes$Book;", "HighRecipes") (by decide +kernel))) (fun _ h9 => h9) (v := .ref n) rfl dX12_teach_43 ?_
    refine q_cv (va_runV (As := [.ref n]) (rest := []) ⟨hx, hb, hml, hown, hts⟩ (kX6_begin l E (va_up (va_up F8 x (some (rX12 (some tp) (some pr) (some k) (some ck) (some tr) (some tk) (if (BKp (t_K g L) (t_W g L) et (n + 5)).2.2.1 = 0 then -1 else nI (t_P g L (BKp (t_K g L) (t_W g L) et (n + 5)).2.2.2.1))))) tp (some (cTape tp 0))) ((b_R (t_K g L) (t_W g L) et (n + 5)).1.2.2.2.2.2) k bk hd v n ((b_P (t_K g L) (t_W g L) et (n + 5)).2.1) (nI (b_R (t_K g L) (t_W g L) et (n + 5)).2.1) (nI (BKp (t_K g L) (t_W g L) et (n + 5)).2.2.2.2.1) ((b_P (t_K g L) (t_W g L) et (n + 5)).2.2.2) (q_ne (by omega) (q_ne (by omega) qb)) (q_ne (by omega) (q_ne (by omega) qb2)) (hk.other (fun q hq => (va_up_ne _ _ (by unfold kOut at hq; omega)).trans ((va_up_ne _ _ (by unfold kOut at hq; omega)).trans (fr8 q (by unfold kOut at hq; omega) (by unfold kOut at hq; omega))))) (by unfold kOut; omega) (by unfold kOut; omega) hp8) (cwV 1 hts gX12_teach_X6_begin rfl rfl rfl (by decide +kernel) ⟨(Nat.le_of_ble_eq_true rfl), (Nat.le_of_ble_eq_true rfl)⟩) (q_pV hA hW hS (ci := 6) rfl (q_ne (by omega) (q_ne (by omega) ((fr8 k (by omega) (by omega)).trans hk.g0)))) rfl rfl hl.1 rfl (lv_room (Nat.le_of_ble_eq_true rfl)) dX12_teach_46 ⟨Nat.le_of_ble_eq_true rfl, Nat.le_of_ble_eq_true rfl⟩) hS (fun f_46 n_46 H locs hp hW hS => ?_)
    obtain ⟨rfl, rfl⟩ := hp
    have hW : q_W E (kO E (va_up (va_up F8 x (some (rX12 (some tp) (some pr) (some k) (some ck) (some tr) (some tk) (if (BKp (t_K g L) (t_W g L) et (n + 5)).2.2.1 = 0 then -1 else nI (t_P g L (BKp (t_K g L) (t_W g L) et (n + 5)).2.2.2.1))))) tp (some (cTape tp 0))) k n (z_hdn hd ((b_P (t_K g L) (t_W g L) et (n + 5)).2.2.2) ((b_P (t_K g L) (t_W g L) et (n + 5)).2.1)) (z_bgn v ((b_P (t_K g L) (t_W g L) et (n + 5)).2.1))) ((b_R (t_K g L) (t_W g L) et (n + 5)).1.2.2.2.2.2) H := hW
    refine lv_iload_n hx hb dX12_teach_49 rfl (lv_at hl 0 rfl) ?_
    exact q_iret hx hb hr hlocks hW hS ⟨rfl, ⟨F8, T, kk, po, wo, gb, q0, q1, q2, q3, q4, qb, qb2, qb4, fr8, hp8, hr6, hRS8, if_pos er⟩, rfl⟩ (Nat.le_refl _) (Nat.le_refl _) dX12_teach_50

