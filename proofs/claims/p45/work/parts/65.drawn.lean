/-! the law's book: drawn and told -/
theorem pnR_len {h p : Nat} : (pnR h p).length ≤ 17 := by
  have := dg_len h
  unfold pnR
  simp only [List.length_append, pT_len, ktl_0, ktl_2, ktl_3]
  omega
theorem pnT_len : ∀ (H : List Nat) (p : Nat), (pnT H p).length ≤ 17 * H.length
  | [], _ => Nat.le_refl _
  | h :: H, p => by
    have h1 := pnR_len (h := h) (p := p)
    have h2 := pnT_len H (p + 1)
    show (pnR h p ++ pnT H (p + 1)).length ≤ 17 * (H.length + 1)
    rw [List.length_append]
    omega
theorem pnT_okb : ∀ (H : List Nat) (p : Nat), (∀ h ∈ H, 1 ≤ h ∧ h ≤ 200) → p + H.length ≤ 26 → okb (pnT H p)
  | [], _, _, _ => okb_nil
  | h :: H, p, hH, hp => by
    have hp : p + (H.length + 1) ≤ 26 := hp
    have h1 := hH h (List.mem_cons_self ..)
    exact okb_app (okb_app (okb_app (okb_app (okb_app (kt_okb (by decide)) (okb_pT (by omega))) (kt_okb (by decide))) (dg_ok h (by omega))) (kt_okb (by decide))) (pnT_okb H (p + 1) (fun x hx => hH x (List.mem_cons_of_mem _ hx)) (by omega))
theorem pn_eq {H : List Nat} {h p : Nat} (hp : H.length = p) : pnT H 0 ++ kt 0 ++ pT p ++ kt 2 ++ dg h ++ kt 3 = pnT (H ++ [h]) 0 := by
  rw [pnT_app, Nat.zero_add, hp]
  unfold pnR
  simp only [List.append_assoc]
theorem rc_eq {T : List Int32} {C : List (List LT)} {L : List LT} {c : Nat} (hc : C.length = c) : T ++ rcT C 0 ++ kt 4 ++ [nI (97 + c)] ++ bT L ++ kt 30 = T ++ rcT (C ++ [L]) 0 := by
  rw [rcT_app, Nat.zero_add, hc]
  unfold rcR
  simp only [List.append_assoc]
theorem rcT_len : ∀ (C : List (List LT)) (c : Nat), (∀ L ∈ C, (bT L).length ≤ 2 + 80 * bC L) → (rcT C c).length ≤ 12 * C.length + 80 * rcC C
  | [], _, _ => Nat.le_refl _
  | L :: C, c, h => by
    have h1 := h L (List.mem_cons_self ..)
    have h2 := rcT_len C (c + 1) (fun L' hL => h L' (List.mem_cons_of_mem _ hL))
    show (kt 4 ++ [nI (97 + c)] ++ bT L ++ kt 30 ++ rcT C (c + 1)).length ≤ 12 * (C.length + 1) + 80 * (bC L + rcC C)
    simp only [List.length_append, List.length_cons, List.length_nil, ktl_4, ktl_30]
    omega
theorem rcT_okb : ∀ (C : List (List LT)) (c : Nat), (∀ L ∈ C, okb (bT L)) → c + C.length ≤ 26 → okb (rcT C c)
  | [], _, _, _ => okb_nil
  | L :: C, c, h, hc => by
    have hc : c + (C.length + 1) ≤ 26 := hc
    exact okb_app (okb_app (okb_app (okb_app (kt_okb (by decide)) (okb_one (by omega))) (h L (List.mem_cons_self ..))) (kt_okb (by decide))) (rcT_okb C (c + 1) (fun L' hL => h L' (List.mem_cons_of_mem _ hL)) (by omega))
theorem getD_app {H : List Nat} {h : Nat} {i : Nat} (hi : i < H.length) : (H ++ [h]).getD i 0 = H.getD i 0 := by
  rw [List.getD_eq_getElem?_getD, List.getD_eq_getElem?_getD, List.getElem?_append_left hi]
theorem getD_last {H : List Nat} {h : Nat} : (H ++ [h]).getD H.length 0 = h := by
  rw [List.getD_eq_getElem?_getD, List.getElem?_append_right (Nat.le_refl _), Nat.sub_self]
  rfl
/-- the recipes so far, one by one -/
def RCI (E : q_E) (pn : Nat) (P : Nat → Prop) (F : q_H) (RS : Nat → q_S) (gre : Nat → Option Nat) (Cs : List (List LT)) : Prop := ∀ j L, Cs[j]? = some L → ∃ b, gre j = some b ∧ LB P E F (LACT E pn j RS P F 4) b L ∧ RS j = bS L
theorem RCI.step {E : q_E} {pn c : Nat} {P P' : Nat → Prop} {F F' : q_H} {RS : Nat → q_S} {gre gre' : Nat → Option Nat} {Cs : List (List LT)} {L : List LT} {b : Nat} (h : RCI E pn P F RS gre Cs) (hl : Cs.length = c) (hP : ∀ q, P q → P' q ∧ F' q = F q) (hg : ∀ z, z < c → gre' z = gre z) (hgc : gre' c = some b) (hL : LB P' E F' (LACT E pn c RS P' F' 4) b L) : RCI E pn P' F' (fun r => if r = c then bS L else RS r) gre' (Cs ++ [L]) := by
  have hR : ∀ j, j ≤ c → ∀ r, r < j → (fun r => if r = c then bS L else RS r) r = RS r := fun j hj r hr => if_neg (by omega)
  intro j L' hj
  rcases Nat.lt_or_ge j Cs.length with h1 | h1
  · rw [List.getElem?_append_left h1] at hj
    obtain ⟨b', e1, e2, e3⟩ := h j L' hj
    exact ⟨b', (hg j (by omega)).trans e1, LB.to hP (fun x hx => LACT.to hP (Nat.le_refl _) (hR j (by omega)) 4 x hx) e2, (if_neg (show ¬ j = c by omega)).trans e3⟩
  · rw [List.getElem?_append_right h1] at hj
    have e0 : j - Cs.length = 0 := by
      rcases Nat.eq_zero_or_pos (j - Cs.length) with e | e
      · exact e
      · rw [List.getElem?_eq_none (by show 1 ≤ j - Cs.length; omega)] at hj
        cases hj
    rw [e0] at hj
    cases hj
    obtain rfl : j = c := by omega
    exact ⟨b, hgc, LB.to (fun q hq => ⟨hq, rfl⟩) (fun x hx => LACT.to (fun q hq => ⟨hq, rfl⟩) (Nat.le_refl _) (hR j (Nat.le_refl _)) 4 x hx) hL, if_pos rfl⟩
theorem rcC_mem : ∀ {C : List (List LT)} {L : List LT} {j : Nat}, C[j]? = some L → bC L ≤ rcC C
  | [], _, _, h => by cases h
  | M :: C, L, 0, h => by cases h; show bC M ≤ bC M + rcC C; omega
  | M :: C, L, j + 1, h => by have := rcC_mem (C := C) (j := j) h; show bC L ≤ bC M + rcC C; omega
theorem RCI.cs {E : q_E} {pn NR re : Nat} {P : Nat → Prop} {F : q_H} {RS : Nat → q_S} {gre : Nat → Option Nat} {Cs : List (List LT)} (h : RCI E pn P F RS gre Cs) (hl : Cs.length = NR) (hN : NR ≤ 6) (hre : P re) (hf : F re = some (aQ E 9 NR gre)) (hc : rcC Cs ≤ 14) : RCS E F re NR pn RS P NR := by
  refine ⟨gre, hre, hf, Nat.le_refl _, hN, fun r hr => ?_⟩
  obtain ⟨L, hL⟩ : ∃ L, Cs[r]? = some L := ⟨_, List.getElem?_eq_getElem (by omega)⟩
  obtain ⟨b, e1, e2, e3⟩ := h r L hL
  exact ⟨b, L, e1, e2, e3, Nat.le_trans (rcC_mem hL) (by omega)⟩
theorem z_ini_w (i : Nat) : z_ini (52 + 4 * i) = 0 ∧ z_ini (53 + 4 * i) = 0 ∧ z_ini (54 + 4 * i) = 20 ∧ z_ini (55 + 4 * i) = 0 := by
  unfold z_ini
  refine ⟨?_, ?_, ?_, ?_⟩
  · rw [if_neg (by omega), if_neg (by omega), if_neg (by omega)]
  · rw [if_neg (by omega), if_neg (by omega), if_neg (by omega)]
  · rw [if_neg (by omega), if_neg (by omega), if_pos ⟨by omega, by omega⟩]
  · rw [if_neg (by omega), if_neg (by omega), if_neg (by omega)]
theorem z_ini_k {j : Nat} (hj : j < 6) : z_ini (6 + j) = 0 := by
  unfold z_ini
  rw [if_neg (by omega), if_neg (by omega), if_neg (by omega)]
theorem LK_ini {E : q_E} {f : q_H} {k pa re ki wa no pn : Nat} {pr : Nat → Nat} {hd : q_V} {gp : Nat → Option Nat} (h1 : f k = some (cLK 0 4 1 0 (some pa) (some re) (some ki) (some wa) (some no) 0 0 0)) (h2 : f ki = some (aI E 6 (fun _ => 0))) (h3 : f wa = some (aI E 0 (fun _ => 0))) (h4 : f no = some (aI E 0 (fun _ => 0))) (h5 : f pa = some (aQ E 8 pn gp)) (h5' : ∀ i, i < pn → gp i = some (pr i)) (h6 : ∀ i, i < pn → ∃ gr, f (pr i) = some (aI E 5 gr) ∧ gr 0 = hd i ∧ gr 1 = 0 ∧ gr 2 = 0 ∧ gr 3 = 20 ∧ gr 4 = 0) : LK E f k pa re ki wa no pn pr hd z_ini 0 0 := by
  have eT : k_T z_ini = 0 := rfl
  have eN : k_N z_ini = 0 := rfl
  refine ⟨h1, ⟨_, h2, fun j hj => (z_ini_k hj).symm⟩, ⟨fun _ => 0, by rw [eT]; exact h3, fun j hj => ?_⟩, ⟨fun _ => 0, by rw [eN]; exact h4, fun j hj => ?_⟩, ⟨gp, h5, h5'⟩, fun i hi => ?_⟩
  · rw [eT] at hj
    exact absurd hj (by omega)
  · rw [eN] at hj
    exact absurd hj (by omega)
  · obtain ⟨gr, e0, e1, e2, e3, e4, e5⟩ := h6 i hi
    obtain ⟨z1, z2, z3, z4⟩ := z_ini_w i
    exact ⟨gr, e0, e1, e2.trans z1.symm, e3.trans z2.symm, e4.trans z3.symm, e5.trans z4.symm⟩
/-- what was drawn: a kitchen with its pans and recipes, and what was told of them -/
def DRW (E : q_E) (f : q_H) (n n1 k : Nat) (TW : List Int32) : Prop := ∃ (pa re ki wa no pn NR : Nat) (pr : Nat → Nat) (hd : q_V) (RS : Nat → q_S) (P : Nat → Prop) (H : List Nat) (C : List (List LT)),
  LK E f k pa re ki wa no pn pr hd z_ini 0 0 ∧ LSp ki wa no pn pr ∧ (1 ≤ pn ∧ pn ≤ 4 ∧ H.length = pn ∧ (∀ h ∈ H, 1 ≤ h ∧ h ≤ 200) ∧ ∀ j, j < pn → hd j = nI (H.getD j 0)) ∧ OFF k pa ki pn pr n1 P ∧ (n ≤ k ∧ n ≤ pa ∧ n ≤ ki ∧ (∀ i, i < pn → n ≤ pr i) ∧ ∀ q, P q → n ≤ q) ∧
  (∃ gre, P re ∧ f re = some (aQ E 9 NR gre) ∧ RCI E pn P f RS gre C) ∧ (1 ≤ NR ∧ NR ≤ 3 ∧ C.length = NR ∧ rcC C ≤ 14) ∧ TW = pnT H 0 ++ rcT C 0

set_option maxHeartbeats 4000000 in
set_option maxRecDepth 100000 in
theorem kL_drawn (l : Launch) (E : q_E) (f : q_H) (n : Nat) (r tb bb m : Nat) (s : Int32) (h0 : f r = some (cDice s)) (h1 : f tb = some (cSB bb (nI ([] : List Int32).length))) (h2 : f bb = some (aB E m (tx ([] : List Int32)))) (hm4 : m ≤ 4000) : Met l yL_drawn wsL_drawn ({ frames := 100, cells := 20000, slots := 1400000, locals := 5000 }) (q_P E [.ref r, .ref tb, .int 14] f n) (q_Qq E (fun r0 f1 n1 => ∃ (k : Nat) (s1 : Int32) (b1 : Nat) (m1 : Nat) (TW : List Int32), some k = r0 ∧ f1 r = some (cDice s1) ∧ f1 tb = some (cSB b1 (nI TW.length)) ∧ f1 b1 = some (aB E m1 (tx TW)) ∧ DRW E f1 n n1 k TW ∧ TW.length ≤ m1 ∧ m1 ≤ 4000 ∧ (b1 = bb ∨ n ≤ b1) ∧ okb TW ∧ TW.length ≤ 1300 ∧ n ≤ n1 ∧ ∀ z9, z9 ≠ r → z9 ≠ tb → z9 ≠ bb → z9 < n → f1 z9 = f z9)) 20000 1400000 (q_ge E) := by
  refine Met.ofW (cc := cL_drawn) (maxL := 10) (ret := (some (.object "HighRecipesLaw$Kitchen"))) (by decide) rfl ?_
  intro p0_ e0_ s0_ m0_ args0_ below0_ meth0_ c0_ s1_ B0_ hml hv
  obtain ⟨rfl, hA, hW⟩ := hv
  have hx := B0_.exec
  have hb := B0_.bytes
  have hr := B0_.returns
  have hts := atoms_spec (ws := wsL_drawn) B0_.pre
  have hown : s0_.vm.findClass RL = some m0_.cls := findClass_of_methodNamed B0_.named
  have hlocks := B0_.notSynchronized
  have hS : va_S (q_ge E) s0_.heap s0_.heap [] := va_S.rf
  have iX15 : ∀ w ∈ wsX150, w ∈ wsL_drawn := by decide +kernel
  have hl := lv_entry ([.ref r, .ref tb, .int 14]) (n := 10) (Nat.le_of_ble_eq_true rfl)
  rw [lg_entry_eq]
  generalize (lg_sl ([.ref r, .ref tb, .int 14]) ++ List.replicate (10 - (lg_sl ([.ref r, .ref tb, .int 14])).length) Slot.unset).toArray = ls at hl ⊢
  have hl : lv_has ls 10 [(0, .ref r), (1, .ref tb), (2, .int 14)] := hl
  have l_h0 := hW.lt h0
  have l_h1 := hW.lt h1
  have l_h2 := hW.lt h2
  have hrt := ne_ci h0 h1 (by decide)
  have hrb := ne_ab h0 h2
  have htb := ne_ab h1 h2
  refine q_new (ci := 15) hx hb hts hown hA hW hS iX15 tyX15 tyX15_ok (hts (.classLink RL 48 RX15) (by decide +kernel)) (hts (.instantiable RX15 12) (by decide +kernel)) (hts (.initialized RX15) (by decide +kernel)) rfl (fs := [.int 0, .int 0, .int 0, .int 0, .null, .null, .null, .null, .null, .int 0, .int 0, .int 0]) (by decide) (by show _ ≤ 20000; omega) (by show _ ≤ 1400000; omega) dL_drawn_0 (fun H hW hS => ?_)
  have hW : q_W E (va_up f n (some (cLK 0 0 0 0 none none none none none 0 0 0))) (n + 1) H := hW
  refine lv_dup hx hb dL_drawn_3 rfl ?_
  refine q_cv (va_runIN (As := []) (rest := [.ref n]) ⟨hx, hb, hml, hown, hts⟩ (kX15_init l E (va_up f n (some (cLK 0 0 0 0 none none none none none 0 0 0))) (n + 1) n q_eq) ⟨va_cnB 0 hts gL_drawn_X15_init_n50 rfl rfl rfl (hA.2.2.2.2.1 ("HighRecipesLaw", 50, ⟨"HighRecipesLaw$Kitchen", "<init>", "()V"⟩, "HighRecipesLaw") (by decide +kernel)) (hts (.initialized RX15) (by decide +kernel)) (by decide +kernel) ⟨(Nat.le_of_ble_eq_true rfl), (Nat.le_of_ble_eq_true rfl)⟩, rfl, hts (.instanceMethod yX15_init) (by decide +kernel)⟩ (q_pS hA hW hS) rfl rfl hl.1 rfl (lv_room (Nat.le_of_ble_eq_true rfl)) dL_drawn_4 ⟨(by show _ ≤ 20000; omega), (by show _ ≤ 1400000; omega)⟩) hS (fun f_4 n_4 H locs hp hW hS => ?_)
  obtain ⟨e0_4, e1_4, e2_4, e3_4, e4_4, e5_4, en_4, hfr_4⟩ := hp
  have l_e0_4 := hW.lt e0_4
  have l_e1_4 := hW.lt e1_4
  have l_e2_4 := hW.lt e2_4
  have l_e3_4 := hW.lt e3_4
  have l_e4_4 := hW.lt e4_4
  have l_e5_4 := hW.lt e5_4
  have hr_4 : f_4 r = some (cDice s) := (hfr_4 _ (by omega) (by omega)).trans (q_ne (by omega) h0)
  have htb_4 : f_4 tb = some (cSB bb (nI ([] : List Int32).length)) := (hfr_4 _ (by omega) (by omega)).trans (q_ne (by omega) h1)
  have hbb_4 : f_4 bb = some (aB E m (tx ([] : List Int32))) := (hfr_4 _ (by omega) (by omega)).trans (q_ne (by omega) h2)
  refine lv_astore_n (lv' := [(3, .ref n), (0, .ref r), (1, .ref tb), (2, .int 14)]) hx hb dL_drawn_7 rfl hl (by decide) rfl (fun ls hl => ?_)
  refine lv_iconst (v := 1) hx hb dL_drawn_8 (by decide) ?_
  refine lv_aload_n hx hb dL_drawn_9 rfl (lv_at hl 1 rfl) ?_
  refine lv_iconst (v := 4) hx hb dL_drawn_10 (by decide) ?_
  refine q_ci (va_runV (As := [.int 4]) (rest := [.int 1]) ⟨hx, hb, hml, hown, hts⟩ (kX14_next l E f_4 n_4 r 4 s hr_4 (by decide) (by decide)) (cwV 1 hts gL_drawn_X14_next rfl rfl rfl (by decide +kernel) ⟨(Nat.le_of_ble_eq_true rfl), (Nat.le_of_ble_eq_true rfl)⟩) (q_pV hA hW hS (ci := 14) rfl hr_4) rfl rfl hl.1 rfl (lv_room (Nat.le_of_ble_eq_true rfl)) dL_drawn_11 ⟨(by show _ ≤ 20000; omega), (by show _ ≤ 1400000; omega)⟩) hS (fun r_11 f_11 n_11 H locs hp hW hS => ?_)
  obtain ⟨j_11, s1_11, rfl, e0_11, ej_11, en_11, hfr_11⟩ := hp
  have l_e0_11 := hW.lt e0_11
  have htb_11 : f_11 tb = some (cSB bb (nI ([] : List Int32).length)) := (hfr_11 _ (by omega)).trans htb_4
  have hbb_11 : f_11 bb = some (aB E m (tx ([] : List Int32))) := (hfr_11 _ (by omega)).trans hbb_4
  have hn_11 : f_11 n = some (cLK 0 4 1 0 (some (n + 1)) (some ((n + 1) + 1)) (some ((n + 1) + 2)) (some ((n + 1) + 3)) (some ((n + 1) + 4)) 0 0 0) := (hfr_11 _ (by omega)).trans e0_4
  have hn___1_11 : f_11 (n + 1) = some (aQ E 8 0 (fun _ => none)) := (hfr_11 _ (by omega)).trans e1_4
  have hn___2_11 : f_11 (n + 2) = some (aQ E 9 0 (fun _ => none)) := (hfr_11 _ (by omega)).trans e2_4
  have hn___3_11 : f_11 (n + 3) = some (aI E 6 (fun _ => 0)) := (hfr_11 _ (by omega)).trans e3_4
  have hn___4_11 : f_11 (n + 4) = some (aI E 0 (fun _ => 0)) := (hfr_11 _ (by omega)).trans e4_4
  have hn___5_11 : f_11 (n + 5) = some (aI E 0 (fun _ => 0)) := (hfr_11 _ (by omega)).trans e5_4
  obtain ⟨pn, hpn1, hpn4, epn⟩ : ∃ pn, 1 ≤ pn ∧ pn ≤ 4 ∧ 1 + nI j_11 = nI pn := ⟨1 + j_11, by omega, by omega, nI_add 1 j_11⟩
  refine lv_iadd hx hb dL_drawn_14 ?_
  rw [epn]
  refine lv_istore (lv' := [(4, .int (nI pn)), (3, .ref n), (0, .ref r), (1, .ref tb), (2, .int 14)]) hx hb dL_drawn_15 hl (by decide) rfl (fun ls hl => ?_)
  refine lv_aload_n hx hb dL_drawn_17 rfl (lv_at hl 1 rfl) ?_
  refine lv_iload hx hb dL_drawn_18 (lv_at hl 0 rfl) ?_
  refine q_newqA (t := .int) hx hb hown hA hW hS (hts (.classLink RL 56 "[I") (by decide +kernel)) hA.2.2.2.2.2.2.2.2.2.2.2.2.2.1 8 rfl (N' := pn) (nI_pos (by omega)) (nI_clamp (by omega)) (by show pn * 4 ≤ 536870912; omega) (by show _ ≤ 20000; omega) (by show _ ≤ 1400000; omega) dL_drawn_20 (fun H hW hS => ?_)
  have hW : q_W E (va_up f_11 n_11 (some (aQ E 8 pn (fun _ => none)))) (n_11 + 1) H := hW
  refine q_put hx hb hts hown hA hW hS iX15 tyX15 tyX15_ok nmX15 (q_ne (by omega) hn_11) rfl 4 (by decide) (hts (.fieldLink RL 58 "HighRecipesLaw$Kitchen" "pans" "[[I") (by decide +kernel)) (fun _ h9 => h9) rfl rfl rfl (Nat.le_of_ble_eq_true rfl) dL_drawn_23 (fun H locs hW hS => ?_)
  have hW : q_W E (va_up (va_up f_11 n_11 (some (aQ E 8 pn (fun _ => none)))) n (some (cLK 0 4 1 0 (some n_11) (some ((n + 1) + 1)) (some ((n + 1) + 2)) (some ((n + 1) + 3)) (some ((n + 1) + 4)) 0 0 0))) (n_11 + 1) H := hW
  refine lv_iconst (v := 0) hx hb dL_drawn_26 (by decide) ?_
  refine lv_istore (lv' := [(5, .int 0), (4, .int (nI pn)), (3, .ref n), (0, .ref r), (1, .ref tb), (2, .int 14)]) hx hb dL_drawn_27 hl (by decide) rfl (fun ls hl => ?_)
  have K29 : ∀ (fu : Nat) (F : q_H) (N : Nat) (p : Nat) (sj : Int32) (bj : Nat) (mj : Nat) (Hs : List Nat) (gp : Nat → Option Nat) (prj : Nat → Nat) (hr9 : F r = some (cDice sj)) (htb9 : F tb = some (cSB bj (nI (pnT Hs 0).length))) (hbb9 : F bj = some (aB E mj (tx (pnT Hs 0)))) (hk9 : F n = some (cLK 0 4 1 0 (some n_11) (some (n + 2)) (some (n + 3)) (some (n + 4)) (some (n + 5)) 0 0 0)) (hpa9 : F n_11 = some (aQ E 8 pn gp)) (hre9 : F (n + 2) = some (aQ E 9 0 (fun _ => none))) (hki9 : F (n + 3) = some (aI E 6 (fun _ => 0))) (hwa9 : F (n + 4) = some (aI E 0 (fun _ => 0))) (hno9 : F (n + 5) = some (aI E 0 (fun _ => 0))) (hgp : ∀ i, i < p → gp i = some (prj i)) (hrow : ∀ i, i < p → ∃ gr, F (prj i) = some (aI E 5 gr) ∧ gr 0 = nI (Hs.getD i 0) ∧ gr 1 = 0 ∧ gr 2 = 0 ∧ gr 3 = 20 ∧ gr 4 = 0) (hpr : ∀ i, i < p → n_11 < prj i ∧ prj i < N ∧ prj i ≠ bj) (hpd : ∀ i j, i < p → j < p → prj i = prj j → i = j) (hHp : Hs.length = p) (hHr : ∀ h ∈ Hs, 1 ≤ h ∧ h ≤ 200) (hlm : (pnT Hs 0).length ≤ mj) (hmm : mj ≤ 4000) (hbj : bj = bb ∨ n_11 < bj) (hbN : bj < N) (hpN : n_11 < N) (hp : p ≤ pn) (hfr_K29 : ∀ z9, z9 ≠ r → z9 ≠ tb → z9 ≠ bb → z9 < n → F z9 = f z9) (hm : pn - p < fu) (H : Heap) (locs : List Loc) (ls : Array Slot), q_W E (F) N H → va_S (q_ge E) s0_.heap H locs → lv_has ls 10 [(0, .ref r), (1, .ref tb), (2, .int 14), (3, .ref n), (4, .int (nI pn)), (5, .int (nI p))] → W p0_ l e0_ (headSpec wsL_drawn ({ frames := 100, cells := 20000, slots := 1400000, locals := 5000 })).room s0_ m0_ ([.ref r, .ref tb, .int 14] : List Value).toArray below0_ meth0_ c0_ H locs (8 + 12 * p) (60 + 20300 * p) (MQ below0_ (q_Qq E (fun r0 f1 n1 => ∃ (k : Nat) (s1 : Int32) (b1 : Nat) (m1 : Nat) (TW : List Int32), some k = r0 ∧ f1 r = some (cDice s1) ∧ f1 tb = some (cSB b1 (nI TW.length)) ∧ f1 b1 = some (aB E m1 (tx TW)) ∧ DRW E f1 n n1 k TW ∧ TW.length ≤ m1 ∧ m1 ≤ 4000 ∧ (b1 = bb ∨ n ≤ b1) ∧ okb TW ∧ TW.length ≤ 1300 ∧ n ≤ n1 ∧ ∀ z9, z9 ≠ r → z9 ≠ tb → z9 ≠ bb → z9 < n → f1 z9 = f z9)) ([.ref r, .ref tb, .int 14] : List Value).toArray s0_ 20000 1400000 (q_ge E)) (F0 m0_ 29 ls []) := by
    intro fu
    induction fu with
    | zero =>
      intro F N p sj bj mj Hs gp prj hr9 htb9 hbb9 hk9 hpa9 hre9 hki9 hwa9 hno9 hgp hrow hpr hpd hHp hHr hlm hmm hbj hbN hpN hp hfr_K29 hm
      exact absurd hm (Nat.not_lt_zero _)
    | succ fu ih =>
      intro F N p sj bj mj Hs gp prj hr9 htb9 hbb9 hk9 hpa9 hre9 hki9 hwa9 hno9 hgp hrow hpr hpd hHp hHr hlm hmm hbj hbN hpN hp hfr_K29 hm H locs ls hW hS hl
      have lT := pnT_len Hs 0
      have oT := pnT_okb Hs 0 hHr (by omega)
      refine lv_iload hx hb dL_drawn_29 (lv_at hl 5 rfl) ?_
      refine lv_iload hx hb dL_drawn_31 (lv_at hl 4 rfl) ?_
      refine lv_icmp_ge (tgt := 131) hx hb dL_drawn_33 (by decide) (fun c_33 => ?_) (fun c_33 => ?_)
      · have hpp : p = pn := Nat.le_antisymm hp (q_leN (by omega) c_33)
        refine lv_iconst (v := 1) hx hb dL_drawn_131 (by decide) ?_
        refine lv_aload_n hx hb dL_drawn_132 rfl (lv_at hl 0 rfl) ?_
        refine lv_iconst (v := 3) hx hb dL_drawn_133 (by decide) ?_
        refine q_ci (va_runV (As := [.int 3]) (rest := [.int 1]) ⟨hx, hb, hml, hown, hts⟩ (kX14_next l E F N r 3 sj hr9 (by decide) (by decide)) (cwV 1 hts gL_drawn_X14_next rfl rfl rfl (by decide +kernel) ⟨(Nat.le_of_ble_eq_true rfl), (Nat.le_of_ble_eq_true rfl)⟩) (q_pV hA hW hS (ci := 14) rfl hr9) rfl rfl hl.1 rfl (lv_room (Nat.le_of_ble_eq_true rfl)) dL_drawn_134 ⟨(by show _ ≤ 20000; omega), (by show _ ≤ 1400000; omega)⟩) hS (fun r_134 f_134 n_134 H locs hp hW hS => ?_)
        obtain ⟨j_134, s1_134, rfl, e0_134, ej_134, en_134, hfr_134⟩ := hp
        have l_e0_134 := hW.lt e0_134
        have htb_134 : f_134 tb = some (cSB bj (nI (pnT Hs 0).length)) := (hfr_134 _ (by omega)).trans htb9
        have hbj_134 : f_134 bj = some (aB E mj (tx (pnT Hs 0))) := (hfr_134 _ (by omega)).trans hbb9
        have hn_134 : f_134 n = some (cLK 0 4 1 0 (some n_11) (some (n + 2)) (some (n + 3)) (some (n + 4)) (some (n + 5)) 0 0 0) := (hfr_134 _ (by omega)).trans hk9
        have hn_11_134 : f_134 n_11 = some (aQ E 8 pn gp) := (hfr_134 _ (by omega)).trans hpa9
        have hn___2_134 : f_134 (n + 2) = some (aQ E 9 0 (fun _ => none)) := (hfr_134 _ (by omega)).trans hre9
        have hn___3_134 : f_134 (n + 3) = some (aI E 6 (fun _ => 0)) := (hfr_134 _ (by omega)).trans hki9
        have hn___4_134 : f_134 (n + 4) = some (aI E 0 (fun _ => 0)) := (hfr_134 _ (by omega)).trans hwa9
        have hn___5_134 : f_134 (n + 5) = some (aI E 0 (fun _ => 0)) := (hfr_134 _ (by omega)).trans hno9
        obtain ⟨NR, hNR1, hNR3, eNR⟩ : ∃ NR, 1 ≤ NR ∧ NR ≤ 3 ∧ 1 + nI j_134 = nI NR := ⟨1 + j_134, by omega, by omega, nI_add 1 j_134⟩
        refine lv_iadd hx hb dL_drawn_137 ?_
        rw [eNR]
        refine lv_istore (lv' := [(5, .int (nI NR)), (0, .ref r), (1, .ref tb), (2, .int 14), (3, .ref n), (4, .int (nI pn))]) hx hb dL_drawn_138 hl (by decide) rfl (fun ls hl => ?_)
        refine lv_iconst (v := 1) hx hb dL_drawn_140 (by decide) ?_
        refine q_newa (atype := .int) hx hb hA hW hS (hts (.arrayClass .int) (by decide +kernel)) (ty := .int) rfl 0 rfl (fun C h9 => by cases h9) (N' := 1) (a0 := (1, .inl (fun _ => 0))) (fun _ => rfl) (by decide) (by decide) (Nat.le_of_ble_eq_true rfl) (by show _ ≤ 20000; omega) (by show _ ≤ 1400000; omega) dL_drawn_141 (fun H hW hS => ?_)
        have hW : q_W E (va_up f_134 n_134 (some (aI E 1 (fun _ => 0)))) (n_134 + 1) H := hW
        refine lv_dup hx hb dL_drawn_143 rfl ?_
        refine lv_iconst (v := 0) hx hb dL_drawn_144 (by decide) ?_
        refine lv_iload_n hx hb dL_drawn_145 rfl (lv_at hl 3 rfl) ?_
        refine q_iast hx hb hA hW hS q_eq (vp_in_nI (n := 0) (by decide) (by decide)) dL_drawn_146 (fun H locs hW hS => ?_)
        rw [show (0 : Int32).toNatClampNeg = 0 from (by decide)] at hW
        rw [q_upup] at hW
        have hW : q_W E (va_up f_134 n_134 (some (aI E 1 (upd (fun _ => 0) 0 14)))) (n_134 + 1) H := hW
        refine lv_astore (lv' := [(6, .ref n_134), (5, .int (nI NR)), (0, .ref r), (1, .ref tb), (2, .int 14), (3, .ref n), (4, .int (nI pn))]) hx hb dL_drawn_147 hl (by decide) rfl (fun ls hl => ?_)
        refine lv_iconst (v := 0) hx hb dL_drawn_149 (by decide) ?_
        refine lv_istore (lv' := [(7, .int 0), (6, .ref n_134), (5, .int (nI NR)), (0, .ref r), (1, .ref tb), (2, .int 14), (3, .ref n), (4, .int (nI pn))]) hx hb dL_drawn_150 hl (by decide) rfl (fun ls hl => ?_)
        have K152 : ∀ (fu : Nat) (F2 : q_H) (N2 : Nat) (c : Nat) (s2 : Int32) (b2 : Nat) (m2 : Nat) (Cs : List (List LT)) (RS : Nat → q_S) (P : Nat → Prop) (gl : Nat → Int32) (gre : Nat → Option Nat) (rej : Nat) (hr2 : F2 r = some (cDice s2)) (htb2 : F2 tb = some (cSB b2 (nI (pnT Hs 0 ++ rcT Cs 0).length))) (hbb2 : F2 b2 = some (aB E m2 (tx (pnT Hs 0 ++ rcT Cs 0)))) (hk2 : F2 n = some (cLK 0 4 1 0 (some n_11) (some rej) (some (n + 3)) (some (n + 4)) (some (n + 5)) 0 0 0)) (hre2 : F2 rej = some (aQ E 9 c gre)) (hla2 : F2 n_134 = some (aI E 1 gl)) (hpa2 : F2 n_11 = some (aQ E 8 pn gp)) (hki2 : F2 (n + 3) = some (aI E 6 (fun _ => 0))) (hwa2 : F2 (n + 4) = some (aI E 0 (fun _ => 0))) (hno2 : F2 (n + 5) = some (aI E 0 (fun _ => 0))) (hrow2 : ∀ i, i < pn → ∃ gr, F2 (prj i) = some (aI E 5 gr) ∧ gr 0 = nI (Hs.getD i 0) ∧ gr 1 = 0 ∧ gr 2 = 0 ∧ gr 3 = 20 ∧ gr 4 = 0) (hpr2 : ∀ i, i < pn → n_11 < prj i ∧ prj i < n_134 ∧ prj i ≠ b2) (hgl : gl 0 = nI (14 - rcC Cs)) (hcC : rcC Cs ≤ 14) (hcl : Cs.length = c) (hRC : RCI E pn P F2 RS gre Cs) (hP : ∀ q, P q → (q = n + 2 ∨ n_134 < q) ∧ q < N2 ∧ q ≠ b2) (hPre : P rej) (hCl : ∀ L ∈ Cs, (bT L).length ≤ 2 + 80 * bC L ∧ okb (bT L)) (hlm2 : (pnT Hs 0 ++ rcT Cs 0).length ≤ m2) (hmm2 : m2 ≤ 4000) (hb2 : b2 = bb ∨ n_11 < b2) (hb2l : b2 ≠ n_134) (hbN2 : b2 < N2) (hlN2 : n_134 < N2) (hcN : c ≤ NR) (hfr_K152 : ∀ z9, z9 ≠ r → z9 ≠ tb → z9 ≠ bb → z9 < n → F2 z9 = f z9) (hm : NR - c < fu) (H : Heap) (locs : List Loc) (ls : Array Slot), q_W E (F2) N2 H → va_S (q_ge E) s0_.heap H locs → lv_has ls 10 [(0, .ref r), (1, .ref tb), (2, .int 14), (3, .ref n), (4, .int (nI pn)), (5, .int (nI NR)), (6, .ref n_134), (7, .int (nI c))] → W p0_ l e0_ (headSpec wsL_drawn ({ frames := 100, cells := 20000, slots := 1400000, locals := 5000 })).room s0_ m0_ ([.ref r, .ref tb, .int 14] : List Value).toArray below0_ meth0_ c0_ H locs (60 + 5300 * c + 221 * rcC Cs) (90000 + 37000 * c + 70000 * rcC Cs) (MQ below0_ (q_Qq E (fun r0 f1 n1 => ∃ (k : Nat) (s1 : Int32) (b1 : Nat) (m1 : Nat) (TW : List Int32), some k = r0 ∧ f1 r = some (cDice s1) ∧ f1 tb = some (cSB b1 (nI TW.length)) ∧ f1 b1 = some (aB E m1 (tx TW)) ∧ DRW E f1 n n1 k TW ∧ TW.length ≤ m1 ∧ m1 ≤ 4000 ∧ (b1 = bb ∨ n ≤ b1) ∧ okb TW ∧ TW.length ≤ 1300 ∧ n ≤ n1 ∧ ∀ z9, z9 ≠ r → z9 ≠ tb → z9 ≠ bb → z9 < n → f1 z9 = f z9)) ([.ref r, .ref tb, .int 14] : List Value).toArray s0_ 20000 1400000 (q_ge E)) (F0 m0_ 152 ls []) := by
          intro fu
          induction fu with
          | zero =>
            intro F2 N2 c s2 b2 m2 Cs RS P gl gre rej hr2 htb2 hbb2 hk2 hre2 hla2 hpa2 hki2 hwa2 hno2 hrow2 hpr2 hgl hcC hcl hRC hP hPre hCl hlm2 hmm2 hb2 hb2l hbN2 hlN2 hcN hfr_K152 hm
            exact absurd hm (Nat.not_lt_zero _)
          | succ fu ih =>
            intro F2 N2 c s2 b2 m2 Cs RS P gl gre rej hr2 htb2 hbb2 hk2 hre2 hla2 hpa2 hki2 hwa2 hno2 hrow2 hpr2 hgl hcC hcl hRC hP hPre hCl hlm2 hmm2 hb2 hb2l hbN2 hlN2 hcN hfr_K152 hm H locs ls hW hS hl
            have ihO := ih
            have hPj := hP rej hPre
            have lC := rcT_len Cs 0 (fun L hL => (hCl L hL).1)
            have oC := rcT_okb Cs 0 (fun L hL => (hCl L hL).2) (by omega)
            refine lv_iload hx hb dL_drawn_152 (lv_at hl 7 rfl) ?_
            refine lv_iload hx hb dL_drawn_154 (lv_at hl 5 rfl) ?_
            refine lv_icmp_ge (tgt := 256) hx hb dL_drawn_156 (by decide) (fun c_156 => ?_) (fun c_156 => ?_)
            · have hcN9 : c = NR := Nat.le_antisymm hcN (q_leN (by omega) c_156)
              refine lv_aload_n hx hb dL_drawn_256 rfl (lv_at hl 3 rfl) ?_
              exact q_aret (v := some n) hx hb hr (Or.inl ⟨_, rfl⟩) hlocks hW hS ⟨n, s2, b2, m2, (pnT Hs 0 ++ rcT Cs 0), rfl, hr2, htb2, hbb2, ⟨n_11, rej, n + 3, n + 4, n + 5, pn, NR, prj, (fun i => nI (Hs.getD i 0)), RS, P, Hs, Cs, (LK_ini hk2 hki2 hwa2 hno2 hpa2 (fun i hi => hgp i (by omega)) hrow2), ⟨by omega, by omega, (fun i hi => by have h8 := hpr2 i hi; omega), (fun i j hi hj e9 => hpd i j (by omega) (by omega) e9)⟩, ⟨hpn1, hpn4, (by omega), hHr, (fun _ _ => rfl)⟩, (fun q hq => by have h8 := hP q hq; exact ⟨h8.2.1, by omega, by omega, by omega, fun i hi => by have h7 := hpr2 i hi; omega⟩), ⟨by omega, by omega, by omega, (fun i hi => by have h8 := hpr2 i hi; omega), (fun q hq => by have h8 := hP q hq; omega)⟩, ⟨gre, hPre, (by rw [← hcN9]; exact hre2), hRC⟩, ⟨hNR1, hNR3, (by omega), hcC⟩, rfl⟩, hlm2, hmm2, (by omega), (okb_app oT oC), (by rw [List.length_append]; omega), (by omega), (fun q g0 g1 g2 g3 => ((hfr_K152 _ (by omega) (by omega) (by omega) (by omega)).trans rfl))⟩ (by show _ ≤ 20000; omega) (by show _ ≤ 1400000; omega) dL_drawn_257
            · have hclt : c < NR := q_gtn (by omega) c_156
              refine lv_iload hx hb dL_drawn_159 (lv_at hl 7 rfl) ?_
              refine lv_iconst (v := 1) hx hb dL_drawn_161 (by decide) ?_
              refine lv_iadd hx hb dL_drawn_162 ?_
              rw [nI_1]
              refine q_newqA (t := (.object "HighRecipesLaw$Act")) hx hb hown hA hW hS (hts (.classLink RL 77 "[LHighRecipesLaw$Act;") (by decide +kernel)) hA.2.2.2.2.2.2.2.2.2.2.2.2.2.2 9 rfl (N' := (c + 1)) (nI_pos (by omega)) (nI_clamp (by omega)) (by show (c + 1) * 4 ≤ 536870912; omega) (by show _ ≤ 20000; omega) (by show _ ≤ 1400000; omega) dL_drawn_163 (fun H hW hS => ?_)
              have hW : q_W E (va_up F2 N2 (some (aQ E 9 (c + 1) (fun _ => none)))) (N2 + 1) H := hW
              refine lv_astore (lv' := [(8, .ref N2), (0, .ref r), (1, .ref tb), (2, .int 14), (3, .ref n), (4, .int (nI pn)), (5, .int (nI NR)), (6, .ref n_134), (7, .int (nI c))]) hx hb dL_drawn_166 hl (by decide) rfl (fun ls hl => ?_)
              refine lv_iconst (v := 0) hx hb dL_drawn_168 (by decide) ?_
              refine lv_istore (lv' := [(9, .int 0), (8, .ref N2), (0, .ref r), (1, .ref tb), (2, .int 14), (3, .ref n), (4, .int (nI pn)), (5, .int (nI NR)), (6, .ref n_134), (7, .int (nI c))]) hx hb dL_drawn_169 hl (by decide) rfl (fun ls hl => ?_)
              have K171 : ∀ (fu : Nat) (o : Nat) (gm : Nat → Option Nat) (ho : o ≤ c) (hgm : ∀ z, z < o → gm z = gre z) (hm : c - o < fu) (H : Heap) (locs : List Loc) (ls : Array Slot), q_W E (va_up F2 N2 (some (aQ E 9 (c + 1) gm))) (N2 + 1) H → va_S (q_ge E) s0_.heap H locs → lv_has ls 10 [(0, .ref r), (1, .ref tb), (2, .int 14), (3, .ref n), (4, .int (nI pn)), (5, .int (nI NR)), (6, .ref n_134), (7, .int (nI c)), (8, .ref N2), (9, .int (nI o))] → W p0_ l e0_ (headSpec wsL_drawn ({ frames := 100, cells := 20000, slots := 1400000, locals := 5000 })).room s0_ m0_ ([.ref r, .ref tb, .int 14] : List Value).toArray below0_ meth0_ c0_ H locs (60 + 5300 * c + 221 * rcC Cs + 1) (90000 + 37000 * c + 70000 * rcC Cs + (c + 1)) (MQ below0_ (q_Qq E (fun r0 f1 n1 => ∃ (k : Nat) (s1 : Int32) (b1 : Nat) (m1 : Nat) (TW : List Int32), some k = r0 ∧ f1 r = some (cDice s1) ∧ f1 tb = some (cSB b1 (nI TW.length)) ∧ f1 b1 = some (aB E m1 (tx TW)) ∧ DRW E f1 n n1 k TW ∧ TW.length ≤ m1 ∧ m1 ≤ 4000 ∧ (b1 = bb ∨ n ≤ b1) ∧ okb TW ∧ TW.length ≤ 1300 ∧ n ≤ n1 ∧ ∀ z9, z9 ≠ r → z9 ≠ tb → z9 ≠ bb → z9 < n → f1 z9 = f z9)) ([.ref r, .ref tb, .int 14] : List Value).toArray s0_ 20000 1400000 (q_ge E)) (F0 m0_ 171 ls []) := by
                intro fu
                induction fu with
                | zero =>
                  intro o gm ho hgm hm
                  exact absurd hm (Nat.not_lt_zero _)
                | succ fu ih =>
                  intro o gm ho hgm hm H locs ls hW hS hl
                  refine lv_iload hx hb dL_drawn_171 (lv_at hl 9 rfl) ?_
                  refine lv_iload hx hb dL_drawn_173 (lv_at hl 7 rfl) ?_
                  refine lv_icmp_ge (tgt := 196) hx hb dL_drawn_175 (by decide) (fun c_175 => ?_) (fun c_175 => ?_)
                  · have hoc : o = c := Nat.le_antisymm ho (q_leN (by omega) c_175)
                    refine lv_aload hx hb dL_drawn_196 (lv_at hl 8 rfl) ?_
                    refine lv_iload hx hb dL_drawn_198 (lv_at hl 7 rfl) ?_
                    refine lv_aload_n hx hb dL_drawn_200 rfl (lv_at hl 0 rfl) ?_
                    refine lv_iload hx hb dL_drawn_201 (lv_at hl 4 rfl) ?_
                    refine lv_iload hx hb dL_drawn_203 (lv_at hl 7 rfl) ?_
                    refine lv_iconst (v := 0) hx hb dL_drawn_205 (by decide) ?_
                    refine lv_aload hx hb dL_drawn_206 (lv_at hl 6 rfl) ?_
                    refine q_cq (va_runS (As := [.ref r, .int (nI pn), .int (nI c), .int 0, .ref n_134]) (rest := [.int (nI c), .ref N2]) ⟨hx, hb, hml, hown, hts⟩ (kX13_some_0 l E (va_up F2 N2 (some (aQ E 9 (c + 1) gm))) (N2 + 1) r n_134 pn c (14 - rcC Cs) RS s2 gl (q_ne (by omega) hr2) (q_ne (by omega) hla2) hpn1 (by omega) (by omega) (by omega) hgl) (va_cwS 5 hts gL_drawn_X13_some rfl rfl rfl (by decide +kernel) ⟨(Nat.le_of_ble_eq_true rfl), (Nat.le_of_ble_eq_true rfl)⟩) (q_pS hA hW hS) rfl rfl hl.1 rfl (lv_room (Nat.le_of_ble_eq_true rfl)) dL_drawn_208 ⟨(by show _ ≤ 20000; omega), (by show _ ≤ 1400000; omega)⟩) hS (fun r_208 f_208 n_208 H locs hp hW hS => ?_)
                    obtain ⟨b_208, L_208, s1_208, g1_208, rfl, e0_208, e1_208, ec_208, eg_208, en_208, eL_208, hfr_208⟩ := hp
                    have l_e0_208 := hW.lt e0_208
                    have l_e1_208 := hW.lt e1_208
                    have htb_208 : f_208 tb = some (cSB b2 (nI (pnT Hs 0 ++ rcT Cs 0).length)) := (hfr_208 _ (by omega) (by omega) (by omega)).trans (q_ne (by omega) htb2)
                    have hb2_208 : f_208 b2 = some (aB E m2 (tx (pnT Hs 0 ++ rcT Cs 0))) := (hfr_208 _ (by omega) (by omega) (by omega)).trans (q_ne (by omega) hbb2)
                    have hn_208 : f_208 n = some (cLK 0 4 1 0 (some n_11) (some rej) (some (n + 3)) (some (n + 4)) (some (n + 5)) 0 0 0) := (hfr_208 _ (by omega) (by omega) (by omega)).trans (q_ne (by omega) hk2)
                    have hrej_208 : f_208 rej = some (aQ E 9 c gre) := (hfr_208 _ (by omega) (by omega) (by omega)).trans (q_ne (by omega) hre2)
                    have hn_11_208 : f_208 n_11 = some (aQ E 8 pn gp) := (hfr_208 _ (by omega) (by omega) (by omega)).trans (q_ne (by omega) hpa2)
                    have hn___3_208 : f_208 (n + 3) = some (aI E 6 (fun _ => 0)) := (hfr_208 _ (by omega) (by omega) (by omega)).trans (q_ne (by omega) hki2)
                    have hn___4_208 : f_208 (n + 4) = some (aI E 0 (fun _ => 0)) := (hfr_208 _ (by omega) (by omega) (by omega)).trans (q_ne (by omega) hwa2)
                    have hn___5_208 : f_208 (n + 5) = some (aI E 0 (fun _ => 0)) := (hfr_208 _ (by omega) (by omega) (by omega)).trans (q_ne (by omega) hno2)
                    have hN2_208 : f_208 N2 = some (aQ E 9 (c + 1) gm) := (hfr_208 _ (by omega) (by omega) (by omega)).trans q_eq
                    have hb208 := eL_208.2.1
                    have hp208 := eL_208.1
                    have hLn := bV_len (LACT.len (by omega) (by omega) 4) L_208 eL_208.2.2
                    have hLl := hLn.1
                    have oL := bT_okb hLn.2
                    have lT2 := bT_len L_208
                    refine q_aastA hx hb hA hW hS 9 6 hA.2.2.2.2.2.2.2.2.2.2.2.2.2.2 rfl rfl (q_fc9 hA) hN2_208 hb208 (vp_in_nI (by omega) (by omega)) dL_drawn_211 (fun H locs hW hS => ?_)
                    rw [show (nI c).toNatClampNeg = c from (nI_clamp (by omega))] at hW
                    have hW : q_W E (va_up f_208 N2 (some (aQ E 9 (c + 1) (va_up gm c (some b_208))))) n_208 H := hW
                    refine lv_aload_n hx hb dL_drawn_212 rfl (lv_at hl 3 rfl) ?_
                    refine lv_aload hx hb dL_drawn_213 (lv_at hl 8 rfl) ?_
                    refine q_put hx hb hts hown hA hW hS iX15 tyX15 tyX15_ok nmX15 (q_ne (by omega) hn_208) rfl 5 (by decide) (hts (.fieldLink RL 79 "HighRecipesLaw$Kitchen" "recipes" "[[LHighRecipesLaw$Act;") (by decide +kernel)) (fun _ h9 => h9) rfl rfl rfl (Nat.le_of_ble_eq_true rfl) dL_drawn_215 (fun H locs hW hS => ?_)
                    have hW : q_W E (va_up (va_up f_208 N2 (some (aQ E 9 (c + 1) (va_up gm c (some b_208))))) n (some (cLK 0 4 1 0 (some n_11) (some N2) (some (n + 3)) (some (n + 4)) (some (n + 5)) 0 0 0))) n_208 H := hW
                    refine lv_aload_n hx hb dL_drawn_218 rfl (lv_at hl 1 rfl) ?_
                    refine va_ldcS (own := "HighRecipesLaw") hx hb hown (q_ldk hA (i := 4) (by decide)) dL_drawn_219 ?_
                    refine q_cq (va_runV (As := [.ref (E.2.2.2 (200 + 4))]) (rest := []) ⟨hx, hb, hml, hown, hts⟩ (kJ4_append_k l E (va_up (va_up f_208 N2 (some (aQ E 9 (c + 1) (va_up gm c (some b_208))))) n (some (cLK 0 4 1 0 (some n_11) (some N2) (some (n + 3)) (some (n + 4)) (some (n + 5)) 0 0 0))) n_208 tb b2 m2 4 2000 (pnT Hs 0 ++ rcT Cs 0) (q_ne (by omega) (q_ne (by omega) htb_208)) (q_ne (by omega) (q_ne (by omega) hb2_208)) (by (try simp only [List.length_append, List.length_nil, List.length_cons, pT_len, ktl_0, ktl_1, ktl_2, ktl_3, ktl_4, ktl_5, ktl_6, ktl_7, ktl_8, ktl_9, ktl_10, ktl_11, ktl_12, ktl_13, ktl_14, ktl_15, ktl_16, ktl_17, ktl_18, ktl_19, ktl_20, ktl_21, ktl_22, ktl_23, ktl_24, ktl_25, ktl_26, ktl_27, ktl_28, ktl_29, ktl_30, ktl_31, ktl_32, ktl_33, ktl_34, ktl_35, ktl_36, ktl_37, ktl_38, ktl_39, ktl_40, ktl_41, ktl_42, ktl_43, ktl_44, ktl_45, ktl_46, ktl_47, ktl_48, ktl_49]); omega) (by omega) (by omega) (by first | assumption | decide) (by repeat (first | exact okb_nil | assumption | exact kt_okb (by omega) | exact okb_pT (by omega) | exact dg_ok _ (by omega) | exact okb_one (by omega) | apply okb_app)) (by omega)) (cwV 1 hts gL_drawn_J4_append_15ec4 rfl rfl rfl (by decide +kernel) ⟨(Nat.le_of_ble_eq_true rfl), (Nat.le_of_ble_eq_true rfl)⟩) (q_pV hA hW hS (ci := 1) rfl (q_ne (by omega) (q_ne (by omega) htb_208))) rfl rfl hl.1 rfl (lv_room (Nat.le_of_ble_eq_true rfl)) dL_drawn_221 ⟨(by show _ ≤ 20000; omega), (by show _ ≤ 1400000; omega)⟩) hS (fun r_221 f_221 n_221 H locs hp hW hS => ?_)
                    obtain ⟨b1_221, m1_221, rfl, e0_221, e1_221, el_221, em4_221, eb_221, en_221, hfr_221⟩ := hp
                    have l_e0_221 := hW.lt e0_221
                    have l_e1_221 := hW.lt e1_221
                    have hn_221 : f_221 n = some (cLK 0 4 1 0 (some n_11) (some N2) (some (n + 3)) (some (n + 4)) (some (n + 5)) 0 0 0) := (hfr_221 _ (by omega) (by omega) (by omega)).trans q_eq
                    have hrej_221 : f_221 rej = some (aQ E 9 c gre) := (hfr_221 _ (by omega) (by omega) (by omega)).trans (q_ne (by omega) (q_ne (by omega) hrej_208))
                    have hn_11_221 : f_221 n_11 = some (aQ E 8 pn gp) := (hfr_221 _ (by omega) (by omega) (by omega)).trans (q_ne (by omega) (q_ne (by omega) hn_11_208))
                    have hn___3_221 : f_221 (n + 3) = some (aI E 6 (fun _ => 0)) := (hfr_221 _ (by omega) (by omega) (by omega)).trans (q_ne (by omega) (q_ne (by omega) hn___3_208))
                    have hn___4_221 : f_221 (n + 4) = some (aI E 0 (fun _ => 0)) := (hfr_221 _ (by omega) (by omega) (by omega)).trans (q_ne (by omega) (q_ne (by omega) hn___4_208))
                    have hn___5_221 : f_221 (n + 5) = some (aI E 0 (fun _ => 0)) := (hfr_221 _ (by omega) (by omega) (by omega)).trans (q_ne (by omega) (q_ne (by omega) hn___5_208))
                    have hN2_221 : f_221 N2 = some (aQ E 9 (c + 1) (va_up gm c (some b_208))) := (hfr_221 _ (by omega) (by omega) (by omega)).trans (q_ne (by omega) q_eq)
                    have hr_221 : f_221 r = some (cDice s1_208) := (hfr_221 _ (by omega) (by omega) (by omega)).trans (q_ne (by omega) (q_ne (by omega) e0_208))
                    have hn_134_221 : f_221 n_134 = some (aI E 1 g1_208) := (hfr_221 _ (by omega) (by omega) (by omega)).trans (q_ne (by omega) (q_ne (by omega) e1_208))
                    have hb_208_221 : f_221 b_208 = some (aQ E 6 L_208.length (lf L_208)) := (hfr_221 _ (by omega) (by omega) (by omega)).trans (q_ne (by omega) (q_ne (by omega) hb208))
                    refine lv_bipush (v := 97) hx hb dL_drawn_224 (by decide) ?_
                    refine lv_iload hx hb dL_drawn_226 (lv_at hl 7 rfl) ?_
                    refine lv_iadd hx hb dL_drawn_228 ?_
                    refine lv_i2c (v := nI (97 + c)) hx hb dL_drawn_229 (ch97 c (by omega)) ?_
                    refine q_cq (va_runV (As := [.int (nI (97 + c))]) (rest := []) ⟨hx, hb, hml, hown, hts⟩ (kJ4_append_cf468 l E f_221 n_221 tb b1_221 m1_221 (97 + c) 2000 ((pnT Hs 0 ++ rcT Cs 0) ++ kt 4) e0_221 e1_221 (by (try simp only [List.length_append, List.length_nil, List.length_cons, pT_len, ktl_0, ktl_1, ktl_2, ktl_3, ktl_4, ktl_5, ktl_6, ktl_7, ktl_8, ktl_9, ktl_10, ktl_11, ktl_12, ktl_13, ktl_14, ktl_15, ktl_16, ktl_17, ktl_18, ktl_19, ktl_20, ktl_21, ktl_22, ktl_23, ktl_24, ktl_25, ktl_26, ktl_27, ktl_28, ktl_29, ktl_30, ktl_31, ktl_32, ktl_33, ktl_34, ktl_35, ktl_36, ktl_37, ktl_38, ktl_39, ktl_40, ktl_41, ktl_42, ktl_43, ktl_44, ktl_45, ktl_46, ktl_47, ktl_48, ktl_49]); omega) (by omega) (by omega) (by first | assumption | decide) (by repeat (first | exact okb_nil | assumption | exact kt_okb (by omega) | exact okb_pT (by omega) | exact dg_ok _ (by omega) | exact okb_one (by omega) | apply okb_app)) (by omega)) (cwV 1 hts gL_drawn_J4_append_cf468 rfl rfl rfl (by decide +kernel) ⟨(Nat.le_of_ble_eq_true rfl), (Nat.le_of_ble_eq_true rfl)⟩) (q_pV hA hW hS (ci := 1) rfl e0_221) rfl rfl hl.1 rfl (lv_room (Nat.le_of_ble_eq_true rfl)) dL_drawn_230 ⟨(by show _ ≤ 20000; omega), (by show _ ≤ 1400000; omega)⟩) hS (fun r_230 f_230 n_230 H locs hp hW hS => ?_)
                    obtain ⟨b1_230, m1_230, rfl, e0_230, e1_230, el_230, em4_230, eb_230, en_230, hfr_230⟩ := hp
                    have l_e0_230 := hW.lt e0_230
                    have l_e1_230 := hW.lt e1_230
                    have hn_230 : f_230 n = some (cLK 0 4 1 0 (some n_11) (some N2) (some (n + 3)) (some (n + 4)) (some (n + 5)) 0 0 0) := (hfr_230 _ (by omega) (by omega) (by omega)).trans hn_221
                    have hrej_230 : f_230 rej = some (aQ E 9 c gre) := (hfr_230 _ (by omega) (by omega) (by omega)).trans hrej_221
                    have hn_11_230 : f_230 n_11 = some (aQ E 8 pn gp) := (hfr_230 _ (by omega) (by omega) (by omega)).trans hn_11_221
                    have hn___3_230 : f_230 (n + 3) = some (aI E 6 (fun _ => 0)) := (hfr_230 _ (by omega) (by omega) (by omega)).trans hn___3_221
                    have hn___4_230 : f_230 (n + 4) = some (aI E 0 (fun _ => 0)) := (hfr_230 _ (by omega) (by omega) (by omega)).trans hn___4_221
                    have hn___5_230 : f_230 (n + 5) = some (aI E 0 (fun _ => 0)) := (hfr_230 _ (by omega) (by omega) (by omega)).trans hn___5_221
                    have hN2_230 : f_230 N2 = some (aQ E 9 (c + 1) (va_up gm c (some b_208))) := (hfr_230 _ (by omega) (by omega) (by omega)).trans hN2_221
                    have hr_230 : f_230 r = some (cDice s1_208) := (hfr_230 _ (by omega) (by omega) (by omega)).trans hr_221
                    have hn_134_230 : f_230 n_134 = some (aI E 1 g1_208) := (hfr_230 _ (by omega) (by omega) (by omega)).trans hn_134_221
                    have hb_208_230 : f_230 b_208 = some (aQ E 6 L_208.length (lf L_208)) := (hfr_230 _ (by omega) (by omega) (by omega)).trans hb_208_221
                    refine lv_aload hx hb dL_drawn_233 (lv_at hl 8 rfl) ?_
                    refine lv_iload hx hb dL_drawn_235 (lv_at hl 7 rfl) ?_
                    refine q_aaldA hx hb hA hW 9 rfl hN2_230 (vp_in_nI (by omega) (by omega)) dL_drawn_237 ?_
                    rw [show (va_up gm c (some b_208)) (nI c).toNatClampNeg = some b_208 from by rw [nI_clamp (by omega), va_up_self]]
                    refine q_cq (va_runS (As := [.ref b_208]) (rest := [.ref tb]) ⟨hx, hb, hml, hown, hts⟩ (kX13_texts_4 l E f_230 n_230 b_208 pn c RS (fun q => N2 + 1 ≤ q ∧ q < n_208) L_208 (by omega) (fun q (hq : N2 + 1 ≤ q ∧ q < n_208) => by omega) (by omega) (LB.to (fun q (hq : N2 + 1 ≤ q ∧ q < n_208) => ⟨hq, ((hfr_230 _ (by omega) (by omega) (by omega)).trans ((hfr_221 _ (by omega) (by omega) (by omega)).trans (q_ne (by omega) (q_ne (by omega) rfl))))⟩) (fun x hx => LACT.to (fun q (hq : N2 + 1 ≤ q ∧ q < n_208) => ⟨hq, ((hfr_230 _ (by omega) (by omega) (by omega)).trans ((hfr_221 _ (by omega) (by omega) (by omega)).trans (q_ne (by omega) (q_ne (by omega) rfl))))⟩) (Nat.le_refl _) (fun _ _ => rfl) 4 x hx) eL_208) (by omega)) (va_cwS 1 hts gL_drawn_X13_texts rfl rfl rfl (by decide +kernel) ⟨(Nat.le_of_ble_eq_true rfl), (Nat.le_of_ble_eq_true rfl)⟩) (q_pS hA hW hS) rfl rfl hl.1 rfl (lv_room (Nat.le_of_ble_eq_true rfl)) dL_drawn_238 ⟨(by show _ ≤ 20000; omega), (by show _ ≤ 1400000; omega)⟩) hS (fun r_238 f_238 n_238 H locs hp hW hS => ?_)
                    obtain ⟨r_238, rfl, e0_238, e1_238, er_238, en_238, hfr_238⟩ := hp
                    have l_e0_238 := hW.lt e0_238
                    have l_e1_238 := hW.lt e1_238
                    have hn_238 : f_238 n = some (cLK 0 4 1 0 (some n_11) (some N2) (some (n + 3)) (some (n + 4)) (some (n + 5)) 0 0 0) := (hfr_238 _ (by omega)).trans hn_230
                    have hrej_238 : f_238 rej = some (aQ E 9 c gre) := (hfr_238 _ (by omega)).trans hrej_230
                    have hn_11_238 : f_238 n_11 = some (aQ E 8 pn gp) := (hfr_238 _ (by omega)).trans hn_11_230
                    have hn___3_238 : f_238 (n + 3) = some (aI E 6 (fun _ => 0)) := (hfr_238 _ (by omega)).trans hn___3_230
                    have hn___4_238 : f_238 (n + 4) = some (aI E 0 (fun _ => 0)) := (hfr_238 _ (by omega)).trans hn___4_230
                    have hn___5_238 : f_238 (n + 5) = some (aI E 0 (fun _ => 0)) := (hfr_238 _ (by omega)).trans hn___5_230
                    have hN2_238 : f_238 N2 = some (aQ E 9 (c + 1) (va_up gm c (some b_208))) := (hfr_238 _ (by omega)).trans hN2_230
                    have hr_238 : f_238 r = some (cDice s1_208) := (hfr_238 _ (by omega)).trans hr_230
                    have hn_134_238 : f_238 n_134 = some (aI E 1 g1_208) := (hfr_238 _ (by omega)).trans hn_134_230
                    have hb_208_238 : f_238 b_208 = some (aQ E 6 L_208.length (lf L_208)) := (hfr_238 _ (by omega)).trans hb_208_230
                    have htb_238 : f_238 tb = some (cSB b1_230 (nI (((pnT Hs 0 ++ rcT Cs 0) ++ kt 4) ++ [nI (97 + c)]).length)) := (hfr_238 _ (by omega)).trans e0_230
                    have hb1_230_238 : f_238 b1_230 = some (aB E m1_230 (tx (((pnT Hs 0 ++ rcT Cs 0) ++ kt 4) ++ [nI (97 + c)]))) := (hfr_238 _ (by omega)).trans e1_230
                    refine q_cq (va_runV (As := [.ref r_238]) (rest := []) ⟨hx, hb, hml, hown, hts⟩ (kJ4_append_15ec4 l E f_238 n_238 tb b1_230 m1_230 r_238 (r_238 + 1) 2000 (((pnT Hs 0 ++ rcT Cs 0) ++ kt 4) ++ [nI (97 + c)]) (bT L_208) htb_238 hb1_230_238 e0_238 e1_238 (by (try simp only [List.length_append, List.length_nil, List.length_cons, pT_len, ktl_0, ktl_1, ktl_2, ktl_3, ktl_4, ktl_5, ktl_6, ktl_7, ktl_8, ktl_9, ktl_10, ktl_11, ktl_12, ktl_13, ktl_14, ktl_15, ktl_16, ktl_17, ktl_18, ktl_19, ktl_20, ktl_21, ktl_22, ktl_23, ktl_24, ktl_25, ktl_26, ktl_27, ktl_28, ktl_29, ktl_30, ktl_31, ktl_32, ktl_33, ktl_34, ktl_35, ktl_36, ktl_37, ktl_38, ktl_39, ktl_40, ktl_41, ktl_42, ktl_43, ktl_44, ktl_45, ktl_46, ktl_47, ktl_48, ktl_49]); omega) (by omega) (by omega) (by first | assumption | decide) (by repeat (first | exact okb_nil | assumption | exact kt_okb (by omega) | exact okb_pT (by omega) | exact dg_ok _ (by omega) | exact okb_one (by omega) | apply okb_app)) oL (by omega)) (cwV 1 hts gL_drawn_J4_append_15ec4 rfl rfl rfl (by decide +kernel) ⟨(Nat.le_of_ble_eq_true rfl), (Nat.le_of_ble_eq_true rfl)⟩) (q_pV hA hW hS (ci := 1) rfl htb_238) rfl rfl hl.1 rfl (lv_room (Nat.le_of_ble_eq_true rfl)) dL_drawn_241 ⟨(by show _ ≤ 20000; omega), (by show _ ≤ 1400000; omega)⟩) hS (fun r_241 f_241 n_241 H locs hp hW hS => ?_)
                    obtain ⟨b1_241, m1_241, rfl, e0_241, e1_241, el_241, em4_241, eb_241, en_241, hfr_241⟩ := hp
                    have l_e0_241 := hW.lt e0_241
                    have l_e1_241 := hW.lt e1_241
                    have hn_241 : f_241 n = some (cLK 0 4 1 0 (some n_11) (some N2) (some (n + 3)) (some (n + 4)) (some (n + 5)) 0 0 0) := (hfr_241 _ (by omega) (by omega) (by omega)).trans hn_238
                    have hrej_241 : f_241 rej = some (aQ E 9 c gre) := (hfr_241 _ (by omega) (by omega) (by omega)).trans hrej_238
                    have hn_11_241 : f_241 n_11 = some (aQ E 8 pn gp) := (hfr_241 _ (by omega) (by omega) (by omega)).trans hn_11_238
                    have hn___3_241 : f_241 (n + 3) = some (aI E 6 (fun _ => 0)) := (hfr_241 _ (by omega) (by omega) (by omega)).trans hn___3_238
                    have hn___4_241 : f_241 (n + 4) = some (aI E 0 (fun _ => 0)) := (hfr_241 _ (by omega) (by omega) (by omega)).trans hn___4_238
                    have hn___5_241 : f_241 (n + 5) = some (aI E 0 (fun _ => 0)) := (hfr_241 _ (by omega) (by omega) (by omega)).trans hn___5_238
                    have hN2_241 : f_241 N2 = some (aQ E 9 (c + 1) (va_up gm c (some b_208))) := (hfr_241 _ (by omega) (by omega) (by omega)).trans hN2_238
                    have hr_241 : f_241 r = some (cDice s1_208) := (hfr_241 _ (by omega) (by omega) (by omega)).trans hr_238
                    have hn_134_241 : f_241 n_134 = some (aI E 1 g1_208) := (hfr_241 _ (by omega) (by omega) (by omega)).trans hn_134_238
                    have hb_208_241 : f_241 b_208 = some (aQ E 6 L_208.length (lf L_208)) := (hfr_241 _ (by omega) (by omega) (by omega)).trans hb_208_238
                    have hr_238_241 : f_241 r_238 = some (cStr (r_238 + 1)) := (hfr_241 _ (by omega) (by omega) (by omega)).trans e0_238
                    have hr_238___1_241 : f_241 (r_238 + 1) = some (aB E ((bT L_208).length) (tx (bT L_208))) := (hfr_241 _ (by omega) (by omega) (by omega)).trans e1_238
                    refine va_ldcS (own := "HighRecipesLaw") hx hb hown (q_ldk hA (i := 30) (by decide)) dL_drawn_244 ?_
                    refine q_cq (va_runV (As := [.ref (E.2.2.2 (200 + 30))]) (rest := []) ⟨hx, hb, hml, hown, hts⟩ (kJ4_append_k l E f_241 n_241 tb b1_241 m1_241 30 2000 ((((pnT Hs 0 ++ rcT Cs 0) ++ kt 4) ++ [nI (97 + c)]) ++ (bT L_208)) e0_241 e1_241 (by (try simp only [List.length_append, List.length_nil, List.length_cons, pT_len, ktl_0, ktl_1, ktl_2, ktl_3, ktl_4, ktl_5, ktl_6, ktl_7, ktl_8, ktl_9, ktl_10, ktl_11, ktl_12, ktl_13, ktl_14, ktl_15, ktl_16, ktl_17, ktl_18, ktl_19, ktl_20, ktl_21, ktl_22, ktl_23, ktl_24, ktl_25, ktl_26, ktl_27, ktl_28, ktl_29, ktl_30, ktl_31, ktl_32, ktl_33, ktl_34, ktl_35, ktl_36, ktl_37, ktl_38, ktl_39, ktl_40, ktl_41, ktl_42, ktl_43, ktl_44, ktl_45, ktl_46, ktl_47, ktl_48, ktl_49]); omega) (by omega) (by omega) (by first | assumption | decide) (by repeat (first | exact okb_nil | assumption | exact kt_okb (by omega) | exact okb_pT (by omega) | exact dg_ok _ (by omega) | exact okb_one (by omega) | apply okb_app)) (by omega)) (cwV 1 hts gL_drawn_J4_append_15ec4 rfl rfl rfl (by decide +kernel) ⟨(Nat.le_of_ble_eq_true rfl), (Nat.le_of_ble_eq_true rfl)⟩) (q_pV hA hW hS (ci := 1) rfl e0_241) rfl rfl hl.1 rfl (lv_room (Nat.le_of_ble_eq_true rfl)) dL_drawn_246 ⟨(by show _ ≤ 20000; omega), (by show _ ≤ 1400000; omega)⟩) hS (fun r_246 f_246 n_246 H locs hp hW hS => ?_)
                    obtain ⟨b1_246, m1_246, rfl, e0_246, e1_246, el_246, em4_246, eb_246, en_246, hfr_246⟩ := hp
                    have l_e0_246 := hW.lt e0_246
                    have l_e1_246 := hW.lt e1_246
                    have hn_246 : f_246 n = some (cLK 0 4 1 0 (some n_11) (some N2) (some (n + 3)) (some (n + 4)) (some (n + 5)) 0 0 0) := (hfr_246 _ (by omega) (by omega) (by omega)).trans hn_241
                    have hrej_246 : f_246 rej = some (aQ E 9 c gre) := (hfr_246 _ (by omega) (by omega) (by omega)).trans hrej_241
                    have hn_11_246 : f_246 n_11 = some (aQ E 8 pn gp) := (hfr_246 _ (by omega) (by omega) (by omega)).trans hn_11_241
                    have hn___3_246 : f_246 (n + 3) = some (aI E 6 (fun _ => 0)) := (hfr_246 _ (by omega) (by omega) (by omega)).trans hn___3_241
                    have hn___4_246 : f_246 (n + 4) = some (aI E 0 (fun _ => 0)) := (hfr_246 _ (by omega) (by omega) (by omega)).trans hn___4_241
                    have hn___5_246 : f_246 (n + 5) = some (aI E 0 (fun _ => 0)) := (hfr_246 _ (by omega) (by omega) (by omega)).trans hn___5_241
                    have hN2_246 : f_246 N2 = some (aQ E 9 (c + 1) (va_up gm c (some b_208))) := (hfr_246 _ (by omega) (by omega) (by omega)).trans hN2_241
                    have hr_246 : f_246 r = some (cDice s1_208) := (hfr_246 _ (by omega) (by omega) (by omega)).trans hr_241
                    have hn_134_246 : f_246 n_134 = some (aI E 1 g1_208) := (hfr_246 _ (by omega) (by omega) (by omega)).trans hn_134_241
                    have hb_208_246 : f_246 b_208 = some (aQ E 6 L_208.length (lf L_208)) := (hfr_246 _ (by omega) (by omega) (by omega)).trans hb_208_241
                    have hr_238_246 : f_246 r_238 = some (cStr (r_238 + 1)) := (hfr_246 _ (by omega) (by omega) (by omega)).trans hr_238_241
                    have hr_238___1_246 : f_246 (r_238 + 1) = some (aB E ((bT L_208).length) (tx (bT L_208))) := (hfr_246 _ (by omega) (by omega) (by omega)).trans hr_238___1_241
                    refine lv_pop hx hb dL_drawn_249 rfl ?_
                    refine lv_iinc (v := nI (c + 1)) (lv' := [(7, .int (nI (c + 1))), (0, .ref r), (1, .ref tb), (2, .int 14), (3, .ref n), (4, .int (nI pn)), (5, .int (nI NR)), (6, .ref n_134), (8, .ref N2), (9, .int (nI o))]) hx hb dL_drawn_250 hl (k := 7) rfl (nI_1 c) (by decide) rfl (fun ls hl => ?_)
                    refine lv_goto (tgt := 152) hx hb dL_drawn_253 (by decide) ?_
                    refine W.widen (k := 60 + 5300 * (c + 1) + 221 * rcC (Cs ++ [L_208])) (n := 90000 + 37000 * (c + 1) + 70000 * rcC (Cs ++ [L_208])) (by rw [rcC_app]; omega) (by rw [rcC_app]; omega) ?_
                    exact ihO f_246 n_246 (c + 1) s1_208 b1_246 m1_246 (Cs ++ [L_208]) (fun r => if r = c then bS L_208 else RS r) (fun q => P q ∨ (N2 + 1 ≤ q ∧ q < n_208) ∨ q = N2) g1_208 (va_up gm c (some b_208)) N2 hr_246 (by rw [← (rc_eq (T := pnT Hs 0) (L := L_208) hcl)]; exact e0_246) (by rw [← (rc_eq (T := pnT Hs 0) (L := L_208) hcl)]; exact e1_246) hn_246 hN2_246 hn_134_246 hn_11_246 hn___3_246 hn___4_246 hn___5_246 (fun i hi => by have h8 := hpr2 i hi; obtain ⟨gr, e1, e2⟩ := hrow2 i hi; exact ⟨gr, (show _ = F2 (prj i) from ((hfr_246 _ (by omega) (by omega) (by omega)).trans ((hfr_241 _ (by omega) (by omega) (by omega)).trans ((hfr_238 _ (by omega)).trans ((hfr_230 _ (by omega) (by omega) (by omega)).trans ((hfr_221 _ (by omega) (by omega) (by omega)).trans (q_ne (by omega) (q_ne (by omega) ((hfr_208 _ (by omega) (by omega) (by omega)).trans (q_ne (by omega) rfl)))))))))).trans e1, e2⟩) (fun i hi => by have h8 := hpr2 i hi; omega) (by rw [rcC_app, ← Nat.sub_sub]; exact eg_208) (by rw [rcC_app]; omega) (by rw [List.length_append, hcl]; rfl) (RCI.step hRC hcl (fun q hq => by have h8 := hP q hq; exact ⟨Or.inl hq, ((hfr_246 _ (by omega) (by omega) (by omega)).trans ((hfr_241 _ (by omega) (by omega) (by omega)).trans ((hfr_238 _ (by omega)).trans ((hfr_230 _ (by omega) (by omega) (by omega)).trans ((hfr_221 _ (by omega) (by omega) (by omega)).trans (q_ne (by omega) (q_ne (by omega) ((hfr_208 _ (by omega) (by omega) (by omega)).trans (q_ne (by omega) rfl)))))))))⟩) (fun z hz => (va_up_ne _ _ (by omega)).trans (hgm z (by omega))) (va_up_self ..) (LB.to (fun q (hq : N2 + 1 ≤ q ∧ q < n_208) => ⟨Or.inr (Or.inl hq), ((hfr_246 _ (by omega) (by omega) (by omega)).trans ((hfr_241 _ (by omega) (by omega) (by omega)).trans ((hfr_238 _ (by omega)).trans ((hfr_230 _ (by omega) (by omega) (by omega)).trans ((hfr_221 _ (by omega) (by omega) (by omega)).trans (q_ne (by omega) (q_ne (by omega) rfl)))))))⟩) (fun x hx => LACT.to (fun q (hq : N2 + 1 ≤ q ∧ q < n_208) => ⟨Or.inr (Or.inl hq), ((hfr_246 _ (by omega) (by omega) (by omega)).trans ((hfr_241 _ (by omega) (by omega) (by omega)).trans ((hfr_238 _ (by omega)).trans ((hfr_230 _ (by omega) (by omega) (by omega)).trans ((hfr_221 _ (by omega) (by omega) (by omega)).trans (q_ne (by omega) (q_ne (by omega) rfl)))))))⟩) (Nat.le_refl _) (fun _ _ => rfl) 4 x hx) eL_208)) (fun q hq => by rcases hq with h8 | h8 | h8; (have h7 := hP q h8; omega); (omega); (omega)) (Or.inr (Or.inr rfl)) (fun L hL => by rcases List.mem_append.mp hL with h8 | h8; (exact hCl L h8); (rw [List.mem_singleton.mp h8]; exact ⟨by omega, oL⟩)) (by rw [← (rc_eq (T := pnT Hs 0) (L := L_208) hcl)]; assumption) (by omega) (by omega) (by omega) (by omega) (by omega) hclt (fun z9 g0 g1 g2 g3 => ((hfr_246 _ (by omega) (by omega) (by omega)).trans ((hfr_241 _ (by omega) (by omega) (by omega)).trans ((hfr_238 _ (by omega)).trans ((hfr_230 _ (by omega) (by omega) (by omega)).trans ((hfr_221 _ (by omega) (by omega) (by omega)).trans (q_ne (by omega) (q_ne (by omega) ((hfr_208 _ (by omega) (by omega) (by omega)).trans (q_ne (by omega) ((hfr_K152 _ (by omega) (by omega) (by omega) (by omega)).trans rfl))))))))))) (by omega) _ _ _ hW hS (lv_sub hl [1, 2, 3, 4, 5, 6, 7, 0] rfl)
                  · have hol : o < c := q_gtn (by omega) c_175
                    obtain ⟨Lo, hLo⟩ : ∃ L, Cs[o]? = some L := ⟨_, List.getElem?_eq_getElem (by omega)⟩
                    obtain ⟨bo, hbo, hLB, -⟩ := hRC o Lo hLo
                    have hfo := hLB.2.1
                    have hPo := hP _ hLB.1
                    refine lv_aload hx hb dL_drawn_178 (lv_at hl 8 rfl) ?_
                    refine lv_iload hx hb dL_drawn_180 (lv_at hl 9 rfl) ?_
                    refine lv_aload_n hx hb dL_drawn_182 rfl (lv_at hl 3 rfl) ?_
                    refine q_get hx hb hts hown hA hW iX15 (q_ne (by omega) hk2) rfl 5 (by decide) (hts (.fieldLink RL 79 "HighRecipesLaw$Kitchen" "recipes" "[[LHighRecipesLaw$Act;") (by decide +kernel)) (fun _ h9 => h9) (v := .ref rej) rfl dL_drawn_183 ?_
                    refine lv_iload hx hb dL_drawn_186 (lv_at hl 9 rfl) ?_
                    refine q_aaldA hx hb hA hW 9 rfl (q_ne (by omega) hre2) (vp_in_nI hol (by omega)) dL_drawn_188 ?_
                    rw [show gre (nI o).toNatClampNeg = some bo from by rw [nI_clamp (by omega)]; exact hbo]
                    refine q_aastA hx hb hA hW hS 9 6 hA.2.2.2.2.2.2.2.2.2.2.2.2.2.2 rfl rfl (q_fc9 hA) q_eq (q_ne (by omega) hfo) (vp_in_nI (by omega) (by omega)) dL_drawn_189 (fun H locs hW hS => ?_)
                    rw [show (nI o).toNatClampNeg = o from (nI_clamp (by omega))] at hW
                    rw [q_upup] at hW
                    have hW : q_W E (va_up F2 N2 (some (aQ E 9 (c + 1) (va_up gm o (some bo))))) (N2 + 1) H := hW
                    refine lv_iinc (v := nI (o + 1)) (lv' := [(9, .int (nI (o + 1))), (0, .ref r), (1, .ref tb), (2, .int 14), (3, .ref n), (4, .int (nI pn)), (5, .int (nI NR)), (6, .ref n_134), (7, .int (nI c)), (8, .ref N2)]) hx hb dL_drawn_190 hl (k := 9) rfl (nI_1 o) (by decide) rfl (fun ls hl => ?_)
                    refine lv_goto (tgt := 171) hx hb dL_drawn_193 (by decide) ?_
                    exact ih (o + 1) (va_up gm o (some bo)) hol (fun z hz => by by_cases e9 : z = o; (rw [e9, va_up_self]; exact hbo.symm); (rw [va_up_ne _ _ e9]; exact hgm z (by omega))) (by omega) _ _ _ hW hS (lv_sub hl [1, 2, 3, 4, 5, 6, 7, 8, 9, 0] rfl)
              exact K171 _ 0 (fun _ => none) (Nat.zero_le _) (fun z hz => absurd hz (Nat.not_lt_zero _)) (Nat.lt_succ_self _) _ _ _ hW hS (lv_sub hl [2, 3, 4, 5, 6, 7, 8, 9, 1, 0] rfl)
        refine W.widen (k := 60 + 5300 * 0 + 221 * rcC ([] : List (List LT))) (n := 90000 + 37000 * 0 + 70000 * rcC ([] : List (List LT))) (by show _ ≤ 60 + 5300 * 0 + 221 * 0; omega) (by show _ ≤ 90000 + 37000 * 0 + 70000 * 0; omega) ?_
        exact K152 _ (va_up f_134 n_134 (some (aI E 1 (upd (fun _ => 0) 0 14)))) (n_134 + 1) 0 s1_134 bj mj ([] : List (List LT)) (fun _ => k_nil) (fun q => q = n + 2) (upd (fun _ => 0) 0 14) (fun _ => none) (n + 2) (q_ne (by omega) e0_134) (by rw [(show pnT Hs 0 ++ rcT ([] : List (List LT)) 0 = pnT Hs 0 from List.append_nil _)]; exact (q_ne (by omega) htb_134)) (by rw [(show pnT Hs 0 ++ rcT ([] : List (List LT)) 0 = pnT Hs 0 from List.append_nil _)]; exact (q_ne (by omega) hbj_134)) (q_ne (by omega) hn_134) (q_ne (by omega) hn___2_134) q_eq (q_ne (by omega) hn_11_134) (q_ne (by omega) hn___3_134) (q_ne (by omega) hn___4_134) (q_ne (by omega) hn___5_134) (fun i hi => by have h8 := hpr i (by omega); obtain ⟨gr, e1, e2⟩ := hrow i (by omega); exact ⟨gr, (show _ = F (prj i) from (q_ne (by omega) ((hfr_134 _ (by omega)).trans rfl))).trans e1, e2⟩) (fun i hi => by have h8 := hpr i (by omega); omega) rfl (Nat.zero_le _) rfl (fun j L hL => by cases hL) (fun q hq => by have hq : q = n + 2 := hq; omega) rfl (fun L hL => absurd hL List.not_mem_nil) (by rw [(show pnT Hs 0 ++ rcT ([] : List (List LT)) 0 = pnT Hs 0 from List.append_nil _)]; assumption) (by omega) (by omega) (by omega) (by omega) (by omega) (Nat.zero_le _) (fun z9 g0 g1 g2 g3 => (q_ne (by omega) ((hfr_134 _ (by omega)).trans ((hfr_K29 _ (by omega) (by omega) (by omega) (by omega)).trans rfl)))) (Nat.lt_succ_self _) _ _ _ hW hS (lv_sub hl [3, 4, 5, 6, 7, 2, 1, 0] rfl)
      · have hlt : p < pn := q_gtn (by omega) c_33
        refine lv_aload_n hx hb dL_drawn_36 rfl (lv_at hl 3 rfl) ?_
        refine q_get hx hb hts hown hA hW iX15 hk9 rfl 4 (by decide) (hts (.fieldLink RL 58 "HighRecipesLaw$Kitchen" "pans" "[[I") (by decide +kernel)) (fun _ h9 => h9) (v := .ref n_11) rfl dL_drawn_37 ?_
        refine lv_iload hx hb dL_drawn_40 (lv_at hl 5 rfl) ?_
        refine lv_iconst (v := 5) hx hb dL_drawn_42 (by decide) ?_
        refine q_newa (atype := .int) hx hb hA hW hS (hts (.arrayClass .int) (by decide +kernel)) (ty := .int) rfl 0 rfl (fun C h9 => by cases h9) (N' := 5) (a0 := (5, .inl (fun _ => 0))) (fun _ => rfl) (by decide) (by decide) (Nat.le_of_ble_eq_true rfl) (by show _ ≤ 20000; omega) (by show _ ≤ 1400000; omega) dL_drawn_43 (fun H hW hS => ?_)
        have hW : q_W E (va_up F N (some (aI E 5 (fun _ => 0)))) (N + 1) H := hW
        refine lv_dup hx hb dL_drawn_45 rfl ?_
        refine lv_iconst (v := 0) hx hb dL_drawn_46 (by decide) ?_
        refine lv_iconst (v := 1) hx hb dL_drawn_47 (by decide) ?_
        refine lv_aload_n hx hb dL_drawn_48 rfl (lv_at hl 0 rfl) ?_
        refine lv_aload_n hx hb dL_drawn_49 rfl (lv_at hl 0 rfl) ?_
        refine lv_iconst (v := 2) hx hb dL_drawn_50 (by decide) ?_
        refine q_ci (va_runV (As := [.int 2]) (rest := [.ref r, .int 1, .int 0, .ref N, .ref N, .int (nI p), .ref n_11]) ⟨hx, hb, hml, hown, hts⟩ (kX14_next l E (va_up F N (some (aI E 5 (fun _ => 0)))) (N + 1) r 2 sj (q_ne (by omega) hr9) (by decide) (by decide)) (cwV 1 hts gL_drawn_X14_next rfl rfl rfl (by decide +kernel) ⟨(Nat.le_of_ble_eq_true rfl), (Nat.le_of_ble_eq_true rfl)⟩) (q_pV hA hW hS (ci := 14) rfl (q_ne (by omega) hr9)) rfl rfl hl.1 rfl (lv_room (Nat.le_of_ble_eq_true rfl)) dL_drawn_51 ⟨(by show _ ≤ 20000; omega), (by show _ ≤ 1400000; omega)⟩) hS (fun r_51 f_51 n_51 H locs hp hW hS => ?_)
        obtain ⟨j_51, s1_51, rfl, e0_51, ej_51, en_51, hfr_51⟩ := hp
        have l_e0_51 := hW.lt e0_51
        have htb_51 : f_51 tb = some (cSB bj (nI (pnT Hs 0).length)) := (hfr_51 _ (by omega)).trans (q_ne (by omega) htb9)
        have hbj_51 : f_51 bj = some (aB E mj (tx (pnT Hs 0))) := (hfr_51 _ (by omega)).trans (q_ne (by omega) hbb9)
        have hn_51 : f_51 n = some (cLK 0 4 1 0 (some n_11) (some (n + 2)) (some (n + 3)) (some (n + 4)) (some (n + 5)) 0 0 0) := (hfr_51 _ (by omega)).trans (q_ne (by omega) hk9)
        have hn_11_51 : f_51 n_11 = some (aQ E 8 pn gp) := (hfr_51 _ (by omega)).trans (q_ne (by omega) hpa9)
        have hn___2_51 : f_51 (n + 2) = some (aQ E 9 0 (fun _ => none)) := (hfr_51 _ (by omega)).trans (q_ne (by omega) hre9)
        have hn___3_51 : f_51 (n + 3) = some (aI E 6 (fun _ => 0)) := (hfr_51 _ (by omega)).trans (q_ne (by omega) hki9)
        have hn___4_51 : f_51 (n + 4) = some (aI E 0 (fun _ => 0)) := (hfr_51 _ (by omega)).trans (q_ne (by omega) hwa9)
        have hn___5_51 : f_51 (n + 5) = some (aI E 0 (fun _ => 0)) := (hfr_51 _ (by omega)).trans (q_ne (by omega) hno9)
        have hN_51 : f_51 N = some (aI E 5 (fun _ => 0)) := (hfr_51 _ (by omega)).trans q_eq
        refine lv_if_ne (tgt := 63) hx hb dL_drawn_54 (by decide) (fun c_54 => ?_) (fun c_54 => ?_)
        · refine lv_bipush (v := 40) hx hb dL_drawn_63 (by decide) ?_
          refine q_ci (va_runV (As := [.int 40]) (rest := [.int 1, .int 0, .ref N, .ref N, .int (nI p), .ref n_11]) ⟨hx, hb, hml, hown, hts⟩ (kX14_next l E f_51 n_51 r 40 s1_51 e0_51 (by decide) (by decide)) (cwV 1 hts gL_drawn_X14_next rfl rfl rfl (by decide +kernel) ⟨(Nat.le_of_ble_eq_true rfl), (Nat.le_of_ble_eq_true rfl)⟩) (q_pV hA hW hS (ci := 14) rfl e0_51) rfl rfl hl.1 rfl (lv_room (Nat.le_of_ble_eq_true rfl)) dL_drawn_65 ⟨(by show _ ≤ 20000; omega), (by show _ ≤ 1400000; omega)⟩) hS (fun r_65 f_65 n_65 H locs hp hW hS => ?_)
          obtain ⟨j_65, s1_65, rfl, e0_65, ej_65, en_65, hfr_65⟩ := hp
          have l_e0_65 := hW.lt e0_65
          have htb_65 : f_65 tb = some (cSB bj (nI (pnT Hs 0).length)) := (hfr_65 _ (by omega)).trans htb_51
          have hbj_65 : f_65 bj = some (aB E mj (tx (pnT Hs 0))) := (hfr_65 _ (by omega)).trans hbj_51
          have hn_65 : f_65 n = some (cLK 0 4 1 0 (some n_11) (some (n + 2)) (some (n + 3)) (some (n + 4)) (some (n + 5)) 0 0 0) := (hfr_65 _ (by omega)).trans hn_51
          have hn_11_65 : f_65 n_11 = some (aQ E 8 pn gp) := (hfr_65 _ (by omega)).trans hn_11_51
          have hn___2_65 : f_65 (n + 2) = some (aQ E 9 0 (fun _ => none)) := (hfr_65 _ (by omega)).trans hn___2_51
          have hn___3_65 : f_65 (n + 3) = some (aI E 6 (fun _ => 0)) := (hfr_65 _ (by omega)).trans hn___3_51
          have hn___4_65 : f_65 (n + 4) = some (aI E 0 (fun _ => 0)) := (hfr_65 _ (by omega)).trans hn___4_51
          have hn___5_65 : f_65 (n + 5) = some (aI E 0 (fun _ => 0)) := (hfr_65 _ (by omega)).trans hn___5_51
          have hN_65 : f_65 N = some (aI E 5 (fun _ => 0)) := (hfr_65 _ (by omega)).trans hN_51
          refine lv_iadd hx hb dL_drawn_68 ?_
          rw [show 1 + nI j_65 = nI (1 + j_65) from nI_add 1 j_65]
          refine q_iast hx hb hA hW hS hN_65 (vp_in_nI (n := 0) (by decide) (by decide)) dL_drawn_69 (fun H locs hW hS => ?_)
          rw [show (0 : Int32).toNatClampNeg = 0 from (by decide)] at hW
          have hW : q_W E (va_up f_65 N (some (aI E 5 (upd (fun _ => 0) 0 (nI (1 + j_65)))))) n_65 H := hW
          refine lv_dup hx hb dL_drawn_70 rfl ?_
          refine lv_iconst (v := 1) hx hb dL_drawn_71 (by decide) ?_
          refine lv_iconst (v := 0) hx hb dL_drawn_72 (by decide) ?_
          refine q_iast hx hb hA hW hS q_eq (vp_in_nI (n := 1) (by decide) (by decide)) dL_drawn_73 (fun H locs hW hS => ?_)
          rw [show (1 : Int32).toNatClampNeg = 1 from (by decide)] at hW
          rw [q_upup] at hW
          have hW : q_W E (va_up f_65 N (some (aI E 5 (upd (upd (fun _ => 0) 0 (nI (1 + j_65))) 1 0)))) n_65 H := hW
          refine lv_dup hx hb dL_drawn_74 rfl ?_
          refine lv_iconst (v := 2) hx hb dL_drawn_75 (by decide) ?_
          refine lv_iconst (v := 0) hx hb dL_drawn_76 (by decide) ?_
          refine q_iast hx hb hA hW hS q_eq (vp_in_nI (n := 2) (by decide) (by decide)) dL_drawn_77 (fun H locs hW hS => ?_)
          rw [show (2 : Int32).toNatClampNeg = 2 from (by decide)] at hW
          rw [q_upup] at hW
          have hW : q_W E (va_up f_65 N (some (aI E 5 (upd (upd (upd (fun _ => 0) 0 (nI (1 + j_65))) 1 0) 2 0)))) n_65 H := hW
          refine lv_dup hx hb dL_drawn_78 rfl ?_
          refine lv_iconst (v := 3) hx hb dL_drawn_79 (by decide) ?_
          refine lv_bipush (v := 20) hx hb dL_drawn_80 (by decide) ?_
          refine q_iast hx hb hA hW hS q_eq (vp_in_nI (n := 3) (by decide) (by decide)) dL_drawn_82 (fun H locs hW hS => ?_)
          rw [show (3 : Int32).toNatClampNeg = 3 from (by decide)] at hW
          rw [q_upup] at hW
          have hW : q_W E (va_up f_65 N (some (aI E 5 (upd (upd (upd (upd (fun _ => 0) 0 (nI (1 + j_65))) 1 0) 2 0) 3 20)))) n_65 H := hW
          refine lv_dup hx hb dL_drawn_83 rfl ?_
          refine lv_iconst (v := 4) hx hb dL_drawn_84 (by decide) ?_
          refine lv_iconst (v := 0) hx hb dL_drawn_85 (by decide) ?_
          refine q_iast hx hb hA hW hS q_eq (vp_in_nI (n := 4) (by decide) (by decide)) dL_drawn_86 (fun H locs hW hS => ?_)
          rw [show (4 : Int32).toNatClampNeg = 4 from (by decide)] at hW
          rw [q_upup] at hW
          have hW : q_W E (va_up f_65 N (some (aI E 5 (upd (upd (upd (upd (upd (fun _ => 0) 0 (nI (1 + j_65))) 1 0) 2 0) 3 20) 4 0)))) n_65 H := hW
          refine q_aastA hx hb hA hW hS 8 0 hA.2.2.2.2.2.2.2.2.2.2.2.2.2.1 rfl rfl (q_fc8 hA) (q_ne (by omega) hn_11_65) q_eq (vp_in_nI hlt (by omega)) dL_drawn_87 (fun H locs hW hS => ?_)
          rw [show (nI p).toNatClampNeg = p from (nI_clamp (by omega))] at hW
          have hW : q_W E (va_up (va_up f_65 N (some (aI E 5 (upd (upd (upd (upd (upd (fun _ => 0) 0 (nI (1 + j_65))) 1 0) 2 0) 3 20) 4 0)))) n_11 (some (aQ E 8 pn (va_up gp p (some N))))) n_65 H := hW
          refine lv_aload_n hx hb dL_drawn_88 rfl (lv_at hl 1 rfl) ?_
          refine va_ldcS (own := "HighRecipesLaw") hx hb hown (q_ldk hA (i := 0) (by decide)) dL_drawn_89 ?_
          refine q_cq (va_runV (As := [.ref (E.2.2.2 (200 + 0))]) (rest := []) ⟨hx, hb, hml, hown, hts⟩ (kJ4_append_k l E (va_up (va_up f_65 N (some (aI E 5 (upd (upd (upd (upd (upd (fun _ => 0) 0 (nI (1 + j_65))) 1 0) 2 0) 3 20) 4 0)))) n_11 (some (aQ E 8 pn (va_up gp p (some N))))) n_65 tb bj mj 0 2000 (pnT Hs 0) (q_ne (by omega) (q_ne (by omega) htb_65)) (q_ne (by omega) (q_ne (by omega) hbj_65)) (by (try simp only [List.length_append, List.length_nil, List.length_cons, pT_len, ktl_0, ktl_1, ktl_2, ktl_3, ktl_4, ktl_5, ktl_6, ktl_7, ktl_8, ktl_9, ktl_10, ktl_11, ktl_12, ktl_13, ktl_14, ktl_15, ktl_16, ktl_17, ktl_18, ktl_19, ktl_20, ktl_21, ktl_22, ktl_23, ktl_24, ktl_25, ktl_26, ktl_27, ktl_28, ktl_29, ktl_30, ktl_31, ktl_32, ktl_33, ktl_34, ktl_35, ktl_36, ktl_37, ktl_38, ktl_39, ktl_40, ktl_41, ktl_42, ktl_43, ktl_44, ktl_45, ktl_46, ktl_47, ktl_48, ktl_49]); omega) (by omega) (by omega) (by first | assumption | decide) (by repeat (first | exact okb_nil | assumption | exact kt_okb (by omega) | exact okb_pT (by omega) | exact dg_ok _ (by omega) | exact okb_one (by omega) | apply okb_app)) (by omega)) (cwV 1 hts gL_drawn_J4_append_15ec4 rfl rfl rfl (by decide +kernel) ⟨(Nat.le_of_ble_eq_true rfl), (Nat.le_of_ble_eq_true rfl)⟩) (q_pV hA hW hS (ci := 1) rfl (q_ne (by omega) (q_ne (by omega) htb_65))) rfl rfl hl.1 rfl (lv_room (Nat.le_of_ble_eq_true rfl)) dL_drawn_91 ⟨(by show _ ≤ 20000; omega), (by show _ ≤ 1400000; omega)⟩) hS (fun r_91 f_91 n_91 H locs hp hW hS => ?_)
          obtain ⟨b1_91, m1_91, rfl, e0_91, e1_91, el_91, em4_91, eb_91, en_91, hfr_91⟩ := hp
          have l_e0_91 := hW.lt e0_91
          have l_e1_91 := hW.lt e1_91
          have hn_91 : f_91 n = some (cLK 0 4 1 0 (some n_11) (some (n + 2)) (some (n + 3)) (some (n + 4)) (some (n + 5)) 0 0 0) := (hfr_91 _ (by omega) (by omega) (by omega)).trans (q_ne (by omega) (q_ne (by omega) hn_65))
          have hn_11_91 : f_91 n_11 = some (aQ E 8 pn (va_up gp p (some N))) := (hfr_91 _ (by omega) (by omega) (by omega)).trans q_eq
          have hn___2_91 : f_91 (n + 2) = some (aQ E 9 0 (fun _ => none)) := (hfr_91 _ (by omega) (by omega) (by omega)).trans (q_ne (by omega) (q_ne (by omega) hn___2_65))
          have hn___3_91 : f_91 (n + 3) = some (aI E 6 (fun _ => 0)) := (hfr_91 _ (by omega) (by omega) (by omega)).trans (q_ne (by omega) (q_ne (by omega) hn___3_65))
          have hn___4_91 : f_91 (n + 4) = some (aI E 0 (fun _ => 0)) := (hfr_91 _ (by omega) (by omega) (by omega)).trans (q_ne (by omega) (q_ne (by omega) hn___4_65))
          have hn___5_91 : f_91 (n + 5) = some (aI E 0 (fun _ => 0)) := (hfr_91 _ (by omega) (by omega) (by omega)).trans (q_ne (by omega) (q_ne (by omega) hn___5_65))
          have hN_91 : f_91 N = some (aI E 5 (upd (upd (upd (upd (upd (fun _ => 0) 0 (nI (1 + j_65))) 1 0) 2 0) 3 20) 4 0)) := (hfr_91 _ (by omega) (by omega) (by omega)).trans (q_ne (by omega) q_eq)
          have hr_91 : f_91 r = some (cDice s1_65) := (hfr_91 _ (by omega) (by omega) (by omega)).trans (q_ne (by omega) (q_ne (by omega) e0_65))
          refine lv_iload hx hb dL_drawn_94 (lv_at hl 5 rfl) ?_
          refine q_cq (va_runS (As := [.int (nI p)]) (rest := [.ref tb]) ⟨hx, hb, hml, hown, hts⟩ (kL_pan l E f_91 n_91 p (by omega)) (va_cwS 1 hts gL_drawn_L_pan rfl rfl rfl (by decide +kernel) ⟨(Nat.le_of_ble_eq_true rfl), (Nat.le_of_ble_eq_true rfl)⟩) (q_pS hA hW hS) rfl rfl hl.1 rfl (lv_room (Nat.le_of_ble_eq_true rfl)) dL_drawn_96 ⟨(by show _ ≤ 20000; omega), (by show _ ≤ 1400000; omega)⟩) hS (fun r_96 f_96 n_96 H locs hp hW hS => ?_)
          obtain ⟨r_96, rfl, e0_96, e1_96, er_96, en_96, hfr_96⟩ := hp
          have l_e0_96 := hW.lt e0_96
          have l_e1_96 := hW.lt e1_96
          have hn_96 : f_96 n = some (cLK 0 4 1 0 (some n_11) (some (n + 2)) (some (n + 3)) (some (n + 4)) (some (n + 5)) 0 0 0) := (hfr_96 _ (by omega)).trans hn_91
          have hn_11_96 : f_96 n_11 = some (aQ E 8 pn (va_up gp p (some N))) := (hfr_96 _ (by omega)).trans hn_11_91
          have hn___2_96 : f_96 (n + 2) = some (aQ E 9 0 (fun _ => none)) := (hfr_96 _ (by omega)).trans hn___2_91
          have hn___3_96 : f_96 (n + 3) = some (aI E 6 (fun _ => 0)) := (hfr_96 _ (by omega)).trans hn___3_91
          have hn___4_96 : f_96 (n + 4) = some (aI E 0 (fun _ => 0)) := (hfr_96 _ (by omega)).trans hn___4_91
          have hn___5_96 : f_96 (n + 5) = some (aI E 0 (fun _ => 0)) := (hfr_96 _ (by omega)).trans hn___5_91
          have hN_96 : f_96 N = some (aI E 5 (upd (upd (upd (upd (upd (fun _ => 0) 0 (nI (1 + j_65))) 1 0) 2 0) 3 20) 4 0)) := (hfr_96 _ (by omega)).trans hN_91
          have hr_96 : f_96 r = some (cDice s1_65) := (hfr_96 _ (by omega)).trans hr_91
          have htb_96 : f_96 tb = some (cSB b1_91 (nI ((pnT Hs 0) ++ kt 0).length)) := (hfr_96 _ (by omega)).trans e0_91
          have hb1_91_96 : f_96 b1_91 = some (aB E m1_91 (tx ((pnT Hs 0) ++ kt 0))) := (hfr_96 _ (by omega)).trans e1_91
          refine q_cq (va_runV (As := [.ref r_96]) (rest := []) ⟨hx, hb, hml, hown, hts⟩ (kJ4_append_15ec4 l E f_96 n_96 tb b1_91 m1_91 r_96 (r_96 + 1) 2000 ((pnT Hs 0) ++ kt 0) (pT p) htb_96 hb1_91_96 e0_96 e1_96 (by (try simp only [List.length_append, List.length_nil, List.length_cons, pT_len, ktl_0, ktl_1, ktl_2, ktl_3, ktl_4, ktl_5, ktl_6, ktl_7, ktl_8, ktl_9, ktl_10, ktl_11, ktl_12, ktl_13, ktl_14, ktl_15, ktl_16, ktl_17, ktl_18, ktl_19, ktl_20, ktl_21, ktl_22, ktl_23, ktl_24, ktl_25, ktl_26, ktl_27, ktl_28, ktl_29, ktl_30, ktl_31, ktl_32, ktl_33, ktl_34, ktl_35, ktl_36, ktl_37, ktl_38, ktl_39, ktl_40, ktl_41, ktl_42, ktl_43, ktl_44, ktl_45, ktl_46, ktl_47, ktl_48, ktl_49]); omega) (by omega) (by omega) (by first | assumption | decide) (by repeat (first | exact okb_nil | assumption | exact kt_okb (by omega) | exact okb_pT (by omega) | exact dg_ok _ (by omega) | exact okb_one (by omega) | apply okb_app)) (by repeat (first | exact okb_nil | assumption | exact kt_okb (by omega) | exact okb_pT (by omega) | exact dg_ok _ (by omega) | exact okb_one (by omega) | apply okb_app)) (by omega)) (cwV 1 hts gL_drawn_J4_append_15ec4 rfl rfl rfl (by decide +kernel) ⟨(Nat.le_of_ble_eq_true rfl), (Nat.le_of_ble_eq_true rfl)⟩) (q_pV hA hW hS (ci := 1) rfl htb_96) rfl rfl hl.1 rfl (lv_room (Nat.le_of_ble_eq_true rfl)) dL_drawn_99 ⟨(by show _ ≤ 20000; omega), (by show _ ≤ 1400000; omega)⟩) hS (fun r_99 f_99 n_99 H locs hp hW hS => ?_)
          obtain ⟨b1_99, m1_99, rfl, e0_99, e1_99, el_99, em4_99, eb_99, en_99, hfr_99⟩ := hp
          have l_e0_99 := hW.lt e0_99
          have l_e1_99 := hW.lt e1_99
          have hn_99 : f_99 n = some (cLK 0 4 1 0 (some n_11) (some (n + 2)) (some (n + 3)) (some (n + 4)) (some (n + 5)) 0 0 0) := (hfr_99 _ (by omega) (by omega) (by omega)).trans hn_96
          have hn_11_99 : f_99 n_11 = some (aQ E 8 pn (va_up gp p (some N))) := (hfr_99 _ (by omega) (by omega) (by omega)).trans hn_11_96
          have hn___2_99 : f_99 (n + 2) = some (aQ E 9 0 (fun _ => none)) := (hfr_99 _ (by omega) (by omega) (by omega)).trans hn___2_96
          have hn___3_99 : f_99 (n + 3) = some (aI E 6 (fun _ => 0)) := (hfr_99 _ (by omega) (by omega) (by omega)).trans hn___3_96
          have hn___4_99 : f_99 (n + 4) = some (aI E 0 (fun _ => 0)) := (hfr_99 _ (by omega) (by omega) (by omega)).trans hn___4_96
          have hn___5_99 : f_99 (n + 5) = some (aI E 0 (fun _ => 0)) := (hfr_99 _ (by omega) (by omega) (by omega)).trans hn___5_96
          have hN_99 : f_99 N = some (aI E 5 (upd (upd (upd (upd (upd (fun _ => 0) 0 (nI (1 + j_65))) 1 0) 2 0) 3 20) 4 0)) := (hfr_99 _ (by omega) (by omega) (by omega)).trans hN_96
          have hr_99 : f_99 r = some (cDice s1_65) := (hfr_99 _ (by omega) (by omega) (by omega)).trans hr_96
          have hr_96_99 : f_99 r_96 = some (cStr (r_96 + 1)) := (hfr_99 _ (by omega) (by omega) (by omega)).trans e0_96
          have hr_96___1_99 : f_99 (r_96 + 1) = some (aB E ((pT p).length) (tx (pT p))) := (hfr_99 _ (by omega) (by omega) (by omega)).trans e1_96
          refine va_ldcS (own := "HighRecipesLaw") hx hb hown (q_ldk hA (i := 2) (by decide)) dL_drawn_102 ?_
          refine q_cq (va_runV (As := [.ref (E.2.2.2 (200 + 2))]) (rest := []) ⟨hx, hb, hml, hown, hts⟩ (kJ4_append_k l E f_99 n_99 tb b1_99 m1_99 2 2000 (((pnT Hs 0) ++ kt 0) ++ (pT p)) e0_99 e1_99 (by (try simp only [List.length_append, List.length_nil, List.length_cons, pT_len, ktl_0, ktl_1, ktl_2, ktl_3, ktl_4, ktl_5, ktl_6, ktl_7, ktl_8, ktl_9, ktl_10, ktl_11, ktl_12, ktl_13, ktl_14, ktl_15, ktl_16, ktl_17, ktl_18, ktl_19, ktl_20, ktl_21, ktl_22, ktl_23, ktl_24, ktl_25, ktl_26, ktl_27, ktl_28, ktl_29, ktl_30, ktl_31, ktl_32, ktl_33, ktl_34, ktl_35, ktl_36, ktl_37, ktl_38, ktl_39, ktl_40, ktl_41, ktl_42, ktl_43, ktl_44, ktl_45, ktl_46, ktl_47, ktl_48, ktl_49]); omega) (by omega) (by omega) (by first | assumption | decide) (by repeat (first | exact okb_nil | assumption | exact kt_okb (by omega) | exact okb_pT (by omega) | exact dg_ok _ (by omega) | exact okb_one (by omega) | apply okb_app)) (by omega)) (cwV 1 hts gL_drawn_J4_append_15ec4 rfl rfl rfl (by decide +kernel) ⟨(Nat.le_of_ble_eq_true rfl), (Nat.le_of_ble_eq_true rfl)⟩) (q_pV hA hW hS (ci := 1) rfl e0_99) rfl rfl hl.1 rfl (lv_room (Nat.le_of_ble_eq_true rfl)) dL_drawn_104 ⟨(by show _ ≤ 20000; omega), (by show _ ≤ 1400000; omega)⟩) hS (fun r_104 f_104 n_104 H locs hp hW hS => ?_)
          obtain ⟨b1_104, m1_104, rfl, e0_104, e1_104, el_104, em4_104, eb_104, en_104, hfr_104⟩ := hp
          have l_e0_104 := hW.lt e0_104
          have l_e1_104 := hW.lt e1_104
          have hn_104 : f_104 n = some (cLK 0 4 1 0 (some n_11) (some (n + 2)) (some (n + 3)) (some (n + 4)) (some (n + 5)) 0 0 0) := (hfr_104 _ (by omega) (by omega) (by omega)).trans hn_99
          have hn_11_104 : f_104 n_11 = some (aQ E 8 pn (va_up gp p (some N))) := (hfr_104 _ (by omega) (by omega) (by omega)).trans hn_11_99
          have hn___2_104 : f_104 (n + 2) = some (aQ E 9 0 (fun _ => none)) := (hfr_104 _ (by omega) (by omega) (by omega)).trans hn___2_99
          have hn___3_104 : f_104 (n + 3) = some (aI E 6 (fun _ => 0)) := (hfr_104 _ (by omega) (by omega) (by omega)).trans hn___3_99
          have hn___4_104 : f_104 (n + 4) = some (aI E 0 (fun _ => 0)) := (hfr_104 _ (by omega) (by omega) (by omega)).trans hn___4_99
          have hn___5_104 : f_104 (n + 5) = some (aI E 0 (fun _ => 0)) := (hfr_104 _ (by omega) (by omega) (by omega)).trans hn___5_99
          have hN_104 : f_104 N = some (aI E 5 (upd (upd (upd (upd (upd (fun _ => 0) 0 (nI (1 + j_65))) 1 0) 2 0) 3 20) 4 0)) := (hfr_104 _ (by omega) (by omega) (by omega)).trans hN_99
          have hr_104 : f_104 r = some (cDice s1_65) := (hfr_104 _ (by omega) (by omega) (by omega)).trans hr_99
          have hr_96_104 : f_104 r_96 = some (cStr (r_96 + 1)) := (hfr_104 _ (by omega) (by omega) (by omega)).trans hr_96_99
          have hr_96___1_104 : f_104 (r_96 + 1) = some (aB E ((pT p).length) (tx (pT p))) := (hfr_104 _ (by omega) (by omega) (by omega)).trans hr_96___1_99
          refine lv_aload_n hx hb dL_drawn_107 rfl (lv_at hl 3 rfl) ?_
          refine q_get hx hb hts hown hA hW iX15 hn_104 rfl 4 (by decide) (hts (.fieldLink RL 58 "HighRecipesLaw$Kitchen" "pans" "[[I") (by decide +kernel)) (fun _ h9 => h9) (v := .ref n_11) rfl dL_drawn_108 ?_
          refine lv_iload hx hb dL_drawn_111 (lv_at hl 5 rfl) ?_
          refine q_aaldA hx hb hA hW 8 rfl hn_11_104 (vp_in_nI hlt (by omega)) dL_drawn_113 ?_
          rw [show (va_up gp p (some N)) (nI p).toNatClampNeg = some N from by rw [nI_clamp (by omega), va_up_self]]
          refine lv_iconst (v := 0) hx hb dL_drawn_114 (by decide) ?_
          refine q_iald hx hb hA hW hN_104 (vp_in_nI (n := 0) (by decide) (by decide)) dL_drawn_115 ?_
          rw [show (upd (upd (upd (upd (upd (fun _ => 0) 0 (nI (1 + j_65))) 1 0) 2 0) 3 20) 4 0) (0 : Int32).toNatClampNeg = nI (1 + j_65) from rfl]
          have ldg9 := dg_len (1 + j_65)
          refine q_cq (va_runV (As := [.int (nI (1 + j_65))]) (rest := []) ⟨hx, hb, hml, hown, hts⟩ (kJ4_append_bf812 l E f_104 n_104 tb b1_104 m1_104 (1 + j_65) 2000 ((((pnT Hs 0) ++ kt 0) ++ (pT p)) ++ kt 2) e0_104 e1_104 (by (try simp only [List.length_append, List.length_nil, List.length_cons, pT_len, ktl_0, ktl_1, ktl_2, ktl_3, ktl_4, ktl_5, ktl_6, ktl_7, ktl_8, ktl_9, ktl_10, ktl_11, ktl_12, ktl_13, ktl_14, ktl_15, ktl_16, ktl_17, ktl_18, ktl_19, ktl_20, ktl_21, ktl_22, ktl_23, ktl_24, ktl_25, ktl_26, ktl_27, ktl_28, ktl_29, ktl_30, ktl_31, ktl_32, ktl_33, ktl_34, ktl_35, ktl_36, ktl_37, ktl_38, ktl_39, ktl_40, ktl_41, ktl_42, ktl_43, ktl_44, ktl_45, ktl_46, ktl_47, ktl_48, ktl_49]); omega) (by omega) (by omega) (by first | assumption | decide) (by repeat (first | exact okb_nil | assumption | exact kt_okb (by omega) | exact okb_pT (by omega) | exact dg_ok _ (by omega) | exact okb_one (by omega) | apply okb_app)) (by omega)) (cwV 1 hts gL_drawn_J4_append_bf812 rfl rfl rfl (by decide +kernel) ⟨(Nat.le_of_ble_eq_true rfl), (Nat.le_of_ble_eq_true rfl)⟩) (q_pV hA hW hS (ci := 1) rfl e0_104) rfl rfl hl.1 rfl (lv_room (Nat.le_of_ble_eq_true rfl)) dL_drawn_116 ⟨(by show _ ≤ 20000; omega), (by show _ ≤ 1400000; omega)⟩) hS (fun r_116 f_116 n_116 H locs hp hW hS => ?_)
          obtain ⟨b1_116, m1_116, rfl, e0_116, e1_116, el_116, em4_116, eb_116, en_116, hfr_116⟩ := hp
          have l_e0_116 := hW.lt e0_116
          have l_e1_116 := hW.lt e1_116
          have hn_116 : f_116 n = some (cLK 0 4 1 0 (some n_11) (some (n + 2)) (some (n + 3)) (some (n + 4)) (some (n + 5)) 0 0 0) := (hfr_116 _ (by omega) (by omega) (by omega)).trans hn_104
          have hn_11_116 : f_116 n_11 = some (aQ E 8 pn (va_up gp p (some N))) := (hfr_116 _ (by omega) (by omega) (by omega)).trans hn_11_104
          have hn___2_116 : f_116 (n + 2) = some (aQ E 9 0 (fun _ => none)) := (hfr_116 _ (by omega) (by omega) (by omega)).trans hn___2_104
          have hn___3_116 : f_116 (n + 3) = some (aI E 6 (fun _ => 0)) := (hfr_116 _ (by omega) (by omega) (by omega)).trans hn___3_104
          have hn___4_116 : f_116 (n + 4) = some (aI E 0 (fun _ => 0)) := (hfr_116 _ (by omega) (by omega) (by omega)).trans hn___4_104
          have hn___5_116 : f_116 (n + 5) = some (aI E 0 (fun _ => 0)) := (hfr_116 _ (by omega) (by omega) (by omega)).trans hn___5_104
          have hN_116 : f_116 N = some (aI E 5 (upd (upd (upd (upd (upd (fun _ => 0) 0 (nI (1 + j_65))) 1 0) 2 0) 3 20) 4 0)) := (hfr_116 _ (by omega) (by omega) (by omega)).trans hN_104
          have hr_116 : f_116 r = some (cDice s1_65) := (hfr_116 _ (by omega) (by omega) (by omega)).trans hr_104
          have hr_96_116 : f_116 r_96 = some (cStr (r_96 + 1)) := (hfr_116 _ (by omega) (by omega) (by omega)).trans hr_96_104
          have hr_96___1_116 : f_116 (r_96 + 1) = some (aB E ((pT p).length) (tx (pT p))) := (hfr_116 _ (by omega) (by omega) (by omega)).trans hr_96___1_104
          refine va_ldcS (own := "HighRecipesLaw") hx hb hown (q_ldk hA (i := 3) (by decide)) dL_drawn_119 ?_
          refine q_cq (va_runV (As := [.ref (E.2.2.2 (200 + 3))]) (rest := []) ⟨hx, hb, hml, hown, hts⟩ (kJ4_append_k l E f_116 n_116 tb b1_116 m1_116 3 2000 (((((pnT Hs 0) ++ kt 0) ++ (pT p)) ++ kt 2) ++ dg (1 + j_65)) e0_116 e1_116 (by (try simp only [List.length_append, List.length_nil, List.length_cons, pT_len, ktl_0, ktl_1, ktl_2, ktl_3, ktl_4, ktl_5, ktl_6, ktl_7, ktl_8, ktl_9, ktl_10, ktl_11, ktl_12, ktl_13, ktl_14, ktl_15, ktl_16, ktl_17, ktl_18, ktl_19, ktl_20, ktl_21, ktl_22, ktl_23, ktl_24, ktl_25, ktl_26, ktl_27, ktl_28, ktl_29, ktl_30, ktl_31, ktl_32, ktl_33, ktl_34, ktl_35, ktl_36, ktl_37, ktl_38, ktl_39, ktl_40, ktl_41, ktl_42, ktl_43, ktl_44, ktl_45, ktl_46, ktl_47, ktl_48, ktl_49]); omega) (by omega) (by omega) (by first | assumption | decide) (by repeat (first | exact okb_nil | assumption | exact kt_okb (by omega) | exact okb_pT (by omega) | exact dg_ok _ (by omega) | exact okb_one (by omega) | apply okb_app)) (by omega)) (cwV 1 hts gL_drawn_J4_append_15ec4 rfl rfl rfl (by decide +kernel) ⟨(Nat.le_of_ble_eq_true rfl), (Nat.le_of_ble_eq_true rfl)⟩) (q_pV hA hW hS (ci := 1) rfl e0_116) rfl rfl hl.1 rfl (lv_room (Nat.le_of_ble_eq_true rfl)) dL_drawn_121 ⟨(by show _ ≤ 20000; omega), (by show _ ≤ 1400000; omega)⟩) hS (fun r_121 f_121 n_121 H locs hp hW hS => ?_)
          obtain ⟨b1_121, m1_121, rfl, e0_121, e1_121, el_121, em4_121, eb_121, en_121, hfr_121⟩ := hp
          have l_e0_121 := hW.lt e0_121
          have l_e1_121 := hW.lt e1_121
          have hn_121 : f_121 n = some (cLK 0 4 1 0 (some n_11) (some (n + 2)) (some (n + 3)) (some (n + 4)) (some (n + 5)) 0 0 0) := (hfr_121 _ (by omega) (by omega) (by omega)).trans hn_116
          have hn_11_121 : f_121 n_11 = some (aQ E 8 pn (va_up gp p (some N))) := (hfr_121 _ (by omega) (by omega) (by omega)).trans hn_11_116
          have hn___2_121 : f_121 (n + 2) = some (aQ E 9 0 (fun _ => none)) := (hfr_121 _ (by omega) (by omega) (by omega)).trans hn___2_116
          have hn___3_121 : f_121 (n + 3) = some (aI E 6 (fun _ => 0)) := (hfr_121 _ (by omega) (by omega) (by omega)).trans hn___3_116
          have hn___4_121 : f_121 (n + 4) = some (aI E 0 (fun _ => 0)) := (hfr_121 _ (by omega) (by omega) (by omega)).trans hn___4_116
          have hn___5_121 : f_121 (n + 5) = some (aI E 0 (fun _ => 0)) := (hfr_121 _ (by omega) (by omega) (by omega)).trans hn___5_116
          have hN_121 : f_121 N = some (aI E 5 (upd (upd (upd (upd (upd (fun _ => 0) 0 (nI (1 + j_65))) 1 0) 2 0) 3 20) 4 0)) := (hfr_121 _ (by omega) (by omega) (by omega)).trans hN_116
          have hr_121 : f_121 r = some (cDice s1_65) := (hfr_121 _ (by omega) (by omega) (by omega)).trans hr_116
          have hr_96_121 : f_121 r_96 = some (cStr (r_96 + 1)) := (hfr_121 _ (by omega) (by omega) (by omega)).trans hr_96_116
          have hr_96___1_121 : f_121 (r_96 + 1) = some (aB E ((pT p).length) (tx (pT p))) := (hfr_121 _ (by omega) (by omega) (by omega)).trans hr_96___1_116
          refine lv_pop hx hb dL_drawn_124 rfl ?_
          refine lv_iinc (v := nI (p + 1)) (lv' := [(5, .int (nI (p + 1))), (0, .ref r), (1, .ref tb), (2, .int 14), (3, .ref n), (4, .int (nI pn))]) hx hb dL_drawn_125 hl (k := 5) rfl (nI_1 p) (by decide) rfl (fun ls hl => ?_)
          refine lv_goto (tgt := 29) hx hb dL_drawn_128 (by decide) ?_
          refine W.widen (k := 8 + 12 * (p + 1)) (n := 60 + 20300 * (p + 1)) (by omega) (by omega) ?_
          exact ih f_121 n_121 (p + 1) s1_65 b1_121 m1_121 (Hs ++ [1 + j_65]) (va_up gp p (some N)) (fun i => if i = p then N else prj i) hr_121 (by rw [← (pn_eq (h := 1 + j_65) hHp)]; exact e0_121) (by rw [← (pn_eq (h := 1 + j_65) hHp)]; exact e1_121) hn_121 hn_11_121 hn___2_121 hn___3_121 hn___4_121 hn___5_121 (fun i hi => by by_cases e9 : i = p; (subst e9; rw [va_up_self]; exact congrArg some (if_pos rfl).symm); (rw [va_up_ne _ _ e9]; exact (hgp i (by omega)).trans (congrArg some (if_neg e9).symm))) (fun i hi => by by_cases e9 : i = p; (subst e9; rw [if_pos rfl]; exact ⟨_, hN_121, (show _ = nI ((Hs ++ [1 + j_65]).getD i 0) from by rw [← hHp, getD_last]; rfl), rfl, rfl, rfl, rfl⟩); (have h8 := hpr i (by omega); obtain ⟨gr, e1, e2, e3⟩ := hrow i (by omega); rw [if_neg e9]; exact ⟨gr, (show _ = F (prj i) from ((hfr_121 _ (by omega) (by omega) (by omega)).trans ((hfr_116 _ (by omega) (by omega) (by omega)).trans ((hfr_104 _ (by omega) (by omega) (by omega)).trans ((hfr_99 _ (by omega) (by omega) (by omega)).trans ((hfr_96 _ (by omega)).trans ((hfr_91 _ (by omega) (by omega) (by omega)).trans (q_ne (by omega) (q_ne (by omega) ((hfr_65 _ (by omega)).trans ((hfr_51 _ (by omega)).trans (q_ne (by omega) rfl)))))))))))).trans e1, e2.trans (by rw [getD_app (by omega)]), e3⟩)) (fun i hi => by by_cases e9 : i = p; (rw [if_pos e9]; omega); (rw [if_neg e9]; have h8 := hpr i (by omega); omega)) (fun i j hi hj e9 => by by_cases e7 : i = p; (by_cases e8 : j = p; (omega); (rw [if_pos e7, if_neg e8] at e9; have h8 := hpr j (by omega); omega)); (by_cases e8 : j = p; (rw [if_neg e7, if_pos e8] at e9; have h8 := hpr i (by omega); omega); (rw [if_neg e7, if_neg e8] at e9; exact hpd i j (by omega) (by omega) e9))) (by rw [List.length_append, hHp]; rfl) (fun h hh => by rcases List.mem_append.mp hh with h8 | h8; (exact hHr h h8); (rw [List.mem_singleton.mp h8]; omega)) (by rw [← (pn_eq (h := 1 + j_65) hHp)]; assumption) (by omega) (by omega) (by omega) (by omega) hlt (fun z9 g0 g1 g2 g3 => ((hfr_121 _ (by omega) (by omega) (by omega)).trans ((hfr_116 _ (by omega) (by omega) (by omega)).trans ((hfr_104 _ (by omega) (by omega) (by omega)).trans ((hfr_99 _ (by omega) (by omega) (by omega)).trans ((hfr_96 _ (by omega)).trans ((hfr_91 _ (by omega) (by omega) (by omega)).trans (q_ne (by omega) (q_ne (by omega) ((hfr_65 _ (by omega)).trans ((hfr_51 _ (by omega)).trans (q_ne (by omega) ((hfr_K29 _ (by omega) (by omega) (by omega) (by omega)).trans rfl))))))))))))) (by omega) _ _ _ hW hS (lv_sub hl [1, 2, 3, 4, 5, 0] rfl)
        · refine lv_sipush (v := 200) hx hb dL_drawn_57 (by decide) ?_
          refine lv_goto (tgt := 65) hx hb dL_drawn_60 (by decide) ?_
          refine q_ci (va_runV (As := [.int 200]) (rest := [.int 1, .int 0, .ref N, .ref N, .int (nI p), .ref n_11]) ⟨hx, hb, hml, hown, hts⟩ (kX14_next l E f_51 n_51 r 200 s1_51 e0_51 (by decide) (by decide)) (cwV 1 hts gL_drawn_X14_next rfl rfl rfl (by decide +kernel) ⟨(Nat.le_of_ble_eq_true rfl), (Nat.le_of_ble_eq_true rfl)⟩) (q_pV hA hW hS (ci := 14) rfl e0_51) rfl rfl hl.1 rfl (lv_room (Nat.le_of_ble_eq_true rfl)) dL_drawn_65 ⟨(by show _ ≤ 20000; omega), (by show _ ≤ 1400000; omega)⟩) hS (fun r_65 f_65 n_65 H locs hp hW hS => ?_)
          obtain ⟨j_65, s1_65, rfl, e0_65, ej_65, en_65, hfr_65⟩ := hp
          have l_e0_65 := hW.lt e0_65
          have htb_65 : f_65 tb = some (cSB bj (nI (pnT Hs 0).length)) := (hfr_65 _ (by omega)).trans htb_51
          have hbj_65 : f_65 bj = some (aB E mj (tx (pnT Hs 0))) := (hfr_65 _ (by omega)).trans hbj_51
          have hn_65 : f_65 n = some (cLK 0 4 1 0 (some n_11) (some (n + 2)) (some (n + 3)) (some (n + 4)) (some (n + 5)) 0 0 0) := (hfr_65 _ (by omega)).trans hn_51
          have hn_11_65 : f_65 n_11 = some (aQ E 8 pn gp) := (hfr_65 _ (by omega)).trans hn_11_51
          have hn___2_65 : f_65 (n + 2) = some (aQ E 9 0 (fun _ => none)) := (hfr_65 _ (by omega)).trans hn___2_51
          have hn___3_65 : f_65 (n + 3) = some (aI E 6 (fun _ => 0)) := (hfr_65 _ (by omega)).trans hn___3_51
          have hn___4_65 : f_65 (n + 4) = some (aI E 0 (fun _ => 0)) := (hfr_65 _ (by omega)).trans hn___4_51
          have hn___5_65 : f_65 (n + 5) = some (aI E 0 (fun _ => 0)) := (hfr_65 _ (by omega)).trans hn___5_51
          have hN_65 : f_65 N = some (aI E 5 (fun _ => 0)) := (hfr_65 _ (by omega)).trans hN_51
          refine lv_iadd hx hb dL_drawn_68 ?_
          rw [show 1 + nI j_65 = nI (1 + j_65) from nI_add 1 j_65]
          refine q_iast hx hb hA hW hS hN_65 (vp_in_nI (n := 0) (by decide) (by decide)) dL_drawn_69 (fun H locs hW hS => ?_)
          rw [show (0 : Int32).toNatClampNeg = 0 from (by decide)] at hW
          have hW : q_W E (va_up f_65 N (some (aI E 5 (upd (fun _ => 0) 0 (nI (1 + j_65)))))) n_65 H := hW
          refine lv_dup hx hb dL_drawn_70 rfl ?_
          refine lv_iconst (v := 1) hx hb dL_drawn_71 (by decide) ?_
          refine lv_iconst (v := 0) hx hb dL_drawn_72 (by decide) ?_
          refine q_iast hx hb hA hW hS q_eq (vp_in_nI (n := 1) (by decide) (by decide)) dL_drawn_73 (fun H locs hW hS => ?_)
          rw [show (1 : Int32).toNatClampNeg = 1 from (by decide)] at hW
          rw [q_upup] at hW
          have hW : q_W E (va_up f_65 N (some (aI E 5 (upd (upd (fun _ => 0) 0 (nI (1 + j_65))) 1 0)))) n_65 H := hW
          refine lv_dup hx hb dL_drawn_74 rfl ?_
          refine lv_iconst (v := 2) hx hb dL_drawn_75 (by decide) ?_
          refine lv_iconst (v := 0) hx hb dL_drawn_76 (by decide) ?_
          refine q_iast hx hb hA hW hS q_eq (vp_in_nI (n := 2) (by decide) (by decide)) dL_drawn_77 (fun H locs hW hS => ?_)
          rw [show (2 : Int32).toNatClampNeg = 2 from (by decide)] at hW
          rw [q_upup] at hW
          have hW : q_W E (va_up f_65 N (some (aI E 5 (upd (upd (upd (fun _ => 0) 0 (nI (1 + j_65))) 1 0) 2 0)))) n_65 H := hW
          refine lv_dup hx hb dL_drawn_78 rfl ?_
          refine lv_iconst (v := 3) hx hb dL_drawn_79 (by decide) ?_
          refine lv_bipush (v := 20) hx hb dL_drawn_80 (by decide) ?_
          refine q_iast hx hb hA hW hS q_eq (vp_in_nI (n := 3) (by decide) (by decide)) dL_drawn_82 (fun H locs hW hS => ?_)
          rw [show (3 : Int32).toNatClampNeg = 3 from (by decide)] at hW
          rw [q_upup] at hW
          have hW : q_W E (va_up f_65 N (some (aI E 5 (upd (upd (upd (upd (fun _ => 0) 0 (nI (1 + j_65))) 1 0) 2 0) 3 20)))) n_65 H := hW
          refine lv_dup hx hb dL_drawn_83 rfl ?_
          refine lv_iconst (v := 4) hx hb dL_drawn_84 (by decide) ?_
          refine lv_iconst (v := 0) hx hb dL_drawn_85 (by decide) ?_
          refine q_iast hx hb hA hW hS q_eq (vp_in_nI (n := 4) (by decide) (by decide)) dL_drawn_86 (fun H locs hW hS => ?_)
          rw [show (4 : Int32).toNatClampNeg = 4 from (by decide)] at hW
          rw [q_upup] at hW
          have hW : q_W E (va_up f_65 N (some (aI E 5 (upd (upd (upd (upd (upd (fun _ => 0) 0 (nI (1 + j_65))) 1 0) 2 0) 3 20) 4 0)))) n_65 H := hW
          refine q_aastA hx hb hA hW hS 8 0 hA.2.2.2.2.2.2.2.2.2.2.2.2.2.1 rfl rfl (q_fc8 hA) (q_ne (by omega) hn_11_65) q_eq (vp_in_nI hlt (by omega)) dL_drawn_87 (fun H locs hW hS => ?_)
          rw [show (nI p).toNatClampNeg = p from (nI_clamp (by omega))] at hW
          have hW : q_W E (va_up (va_up f_65 N (some (aI E 5 (upd (upd (upd (upd (upd (fun _ => 0) 0 (nI (1 + j_65))) 1 0) 2 0) 3 20) 4 0)))) n_11 (some (aQ E 8 pn (va_up gp p (some N))))) n_65 H := hW
          refine lv_aload_n hx hb dL_drawn_88 rfl (lv_at hl 1 rfl) ?_
          refine va_ldcS (own := "HighRecipesLaw") hx hb hown (q_ldk hA (i := 0) (by decide)) dL_drawn_89 ?_
          refine q_cq (va_runV (As := [.ref (E.2.2.2 (200 + 0))]) (rest := []) ⟨hx, hb, hml, hown, hts⟩ (kJ4_append_k l E (va_up (va_up f_65 N (some (aI E 5 (upd (upd (upd (upd (upd (fun _ => 0) 0 (nI (1 + j_65))) 1 0) 2 0) 3 20) 4 0)))) n_11 (some (aQ E 8 pn (va_up gp p (some N))))) n_65 tb bj mj 0 2000 (pnT Hs 0) (q_ne (by omega) (q_ne (by omega) htb_65)) (q_ne (by omega) (q_ne (by omega) hbj_65)) (by (try simp only [List.length_append, List.length_nil, List.length_cons, pT_len, ktl_0, ktl_1, ktl_2, ktl_3, ktl_4, ktl_5, ktl_6, ktl_7, ktl_8, ktl_9, ktl_10, ktl_11, ktl_12, ktl_13, ktl_14, ktl_15, ktl_16, ktl_17, ktl_18, ktl_19, ktl_20, ktl_21, ktl_22, ktl_23, ktl_24, ktl_25, ktl_26, ktl_27, ktl_28, ktl_29, ktl_30, ktl_31, ktl_32, ktl_33, ktl_34, ktl_35, ktl_36, ktl_37, ktl_38, ktl_39, ktl_40, ktl_41, ktl_42, ktl_43, ktl_44, ktl_45, ktl_46, ktl_47, ktl_48, ktl_49]); omega) (by omega) (by omega) (by first | assumption | decide) (by repeat (first | exact okb_nil | assumption | exact kt_okb (by omega) | exact okb_pT (by omega) | exact dg_ok _ (by omega) | exact okb_one (by omega) | apply okb_app)) (by omega)) (cwV 1 hts gL_drawn_J4_append_15ec4 rfl rfl rfl (by decide +kernel) ⟨(Nat.le_of_ble_eq_true rfl), (Nat.le_of_ble_eq_true rfl)⟩) (q_pV hA hW hS (ci := 1) rfl (q_ne (by omega) (q_ne (by omega) htb_65))) rfl rfl hl.1 rfl (lv_room (Nat.le_of_ble_eq_true rfl)) dL_drawn_91 ⟨(by show _ ≤ 20000; omega), (by show _ ≤ 1400000; omega)⟩) hS (fun r_91 f_91 n_91 H locs hp hW hS => ?_)
          obtain ⟨b1_91, m1_91, rfl, e0_91, e1_91, el_91, em4_91, eb_91, en_91, hfr_91⟩ := hp
          have l_e0_91 := hW.lt e0_91
          have l_e1_91 := hW.lt e1_91
          have hn_91 : f_91 n = some (cLK 0 4 1 0 (some n_11) (some (n + 2)) (some (n + 3)) (some (n + 4)) (some (n + 5)) 0 0 0) := (hfr_91 _ (by omega) (by omega) (by omega)).trans (q_ne (by omega) (q_ne (by omega) hn_65))
          have hn_11_91 : f_91 n_11 = some (aQ E 8 pn (va_up gp p (some N))) := (hfr_91 _ (by omega) (by omega) (by omega)).trans q_eq
          have hn___2_91 : f_91 (n + 2) = some (aQ E 9 0 (fun _ => none)) := (hfr_91 _ (by omega) (by omega) (by omega)).trans (q_ne (by omega) (q_ne (by omega) hn___2_65))
          have hn___3_91 : f_91 (n + 3) = some (aI E 6 (fun _ => 0)) := (hfr_91 _ (by omega) (by omega) (by omega)).trans (q_ne (by omega) (q_ne (by omega) hn___3_65))
          have hn___4_91 : f_91 (n + 4) = some (aI E 0 (fun _ => 0)) := (hfr_91 _ (by omega) (by omega) (by omega)).trans (q_ne (by omega) (q_ne (by omega) hn___4_65))
          have hn___5_91 : f_91 (n + 5) = some (aI E 0 (fun _ => 0)) := (hfr_91 _ (by omega) (by omega) (by omega)).trans (q_ne (by omega) (q_ne (by omega) hn___5_65))
          have hN_91 : f_91 N = some (aI E 5 (upd (upd (upd (upd (upd (fun _ => 0) 0 (nI (1 + j_65))) 1 0) 2 0) 3 20) 4 0)) := (hfr_91 _ (by omega) (by omega) (by omega)).trans (q_ne (by omega) q_eq)
          have hr_91 : f_91 r = some (cDice s1_65) := (hfr_91 _ (by omega) (by omega) (by omega)).trans (q_ne (by omega) (q_ne (by omega) e0_65))
          refine lv_iload hx hb dL_drawn_94 (lv_at hl 5 rfl) ?_
          refine q_cq (va_runS (As := [.int (nI p)]) (rest := [.ref tb]) ⟨hx, hb, hml, hown, hts⟩ (kL_pan l E f_91 n_91 p (by omega)) (va_cwS 1 hts gL_drawn_L_pan rfl rfl rfl (by decide +kernel) ⟨(Nat.le_of_ble_eq_true rfl), (Nat.le_of_ble_eq_true rfl)⟩) (q_pS hA hW hS) rfl rfl hl.1 rfl (lv_room (Nat.le_of_ble_eq_true rfl)) dL_drawn_96 ⟨(by show _ ≤ 20000; omega), (by show _ ≤ 1400000; omega)⟩) hS (fun r_96 f_96 n_96 H locs hp hW hS => ?_)
          obtain ⟨r_96, rfl, e0_96, e1_96, er_96, en_96, hfr_96⟩ := hp
          have l_e0_96 := hW.lt e0_96
          have l_e1_96 := hW.lt e1_96
          have hn_96 : f_96 n = some (cLK 0 4 1 0 (some n_11) (some (n + 2)) (some (n + 3)) (some (n + 4)) (some (n + 5)) 0 0 0) := (hfr_96 _ (by omega)).trans hn_91
          have hn_11_96 : f_96 n_11 = some (aQ E 8 pn (va_up gp p (some N))) := (hfr_96 _ (by omega)).trans hn_11_91
          have hn___2_96 : f_96 (n + 2) = some (aQ E 9 0 (fun _ => none)) := (hfr_96 _ (by omega)).trans hn___2_91
          have hn___3_96 : f_96 (n + 3) = some (aI E 6 (fun _ => 0)) := (hfr_96 _ (by omega)).trans hn___3_91
          have hn___4_96 : f_96 (n + 4) = some (aI E 0 (fun _ => 0)) := (hfr_96 _ (by omega)).trans hn___4_91
          have hn___5_96 : f_96 (n + 5) = some (aI E 0 (fun _ => 0)) := (hfr_96 _ (by omega)).trans hn___5_91
          have hN_96 : f_96 N = some (aI E 5 (upd (upd (upd (upd (upd (fun _ => 0) 0 (nI (1 + j_65))) 1 0) 2 0) 3 20) 4 0)) := (hfr_96 _ (by omega)).trans hN_91
          have hr_96 : f_96 r = some (cDice s1_65) := (hfr_96 _ (by omega)).trans hr_91
          have htb_96 : f_96 tb = some (cSB b1_91 (nI ((pnT Hs 0) ++ kt 0).length)) := (hfr_96 _ (by omega)).trans e0_91
          have hb1_91_96 : f_96 b1_91 = some (aB E m1_91 (tx ((pnT Hs 0) ++ kt 0))) := (hfr_96 _ (by omega)).trans e1_91
          refine q_cq (va_runV (As := [.ref r_96]) (rest := []) ⟨hx, hb, hml, hown, hts⟩ (kJ4_append_15ec4 l E f_96 n_96 tb b1_91 m1_91 r_96 (r_96 + 1) 2000 ((pnT Hs 0) ++ kt 0) (pT p) htb_96 hb1_91_96 e0_96 e1_96 (by (try simp only [List.length_append, List.length_nil, List.length_cons, pT_len, ktl_0, ktl_1, ktl_2, ktl_3, ktl_4, ktl_5, ktl_6, ktl_7, ktl_8, ktl_9, ktl_10, ktl_11, ktl_12, ktl_13, ktl_14, ktl_15, ktl_16, ktl_17, ktl_18, ktl_19, ktl_20, ktl_21, ktl_22, ktl_23, ktl_24, ktl_25, ktl_26, ktl_27, ktl_28, ktl_29, ktl_30, ktl_31, ktl_32, ktl_33, ktl_34, ktl_35, ktl_36, ktl_37, ktl_38, ktl_39, ktl_40, ktl_41, ktl_42, ktl_43, ktl_44, ktl_45, ktl_46, ktl_47, ktl_48, ktl_49]); omega) (by omega) (by omega) (by first | assumption | decide) (by repeat (first | exact okb_nil | assumption | exact kt_okb (by omega) | exact okb_pT (by omega) | exact dg_ok _ (by omega) | exact okb_one (by omega) | apply okb_app)) (by repeat (first | exact okb_nil | assumption | exact kt_okb (by omega) | exact okb_pT (by omega) | exact dg_ok _ (by omega) | exact okb_one (by omega) | apply okb_app)) (by omega)) (cwV 1 hts gL_drawn_J4_append_15ec4 rfl rfl rfl (by decide +kernel) ⟨(Nat.le_of_ble_eq_true rfl), (Nat.le_of_ble_eq_true rfl)⟩) (q_pV hA hW hS (ci := 1) rfl htb_96) rfl rfl hl.1 rfl (lv_room (Nat.le_of_ble_eq_true rfl)) dL_drawn_99 ⟨(by show _ ≤ 20000; omega), (by show _ ≤ 1400000; omega)⟩) hS (fun r_99 f_99 n_99 H locs hp hW hS => ?_)
          obtain ⟨b1_99, m1_99, rfl, e0_99, e1_99, el_99, em4_99, eb_99, en_99, hfr_99⟩ := hp
          have l_e0_99 := hW.lt e0_99
          have l_e1_99 := hW.lt e1_99
          have hn_99 : f_99 n = some (cLK 0 4 1 0 (some n_11) (some (n + 2)) (some (n + 3)) (some (n + 4)) (some (n + 5)) 0 0 0) := (hfr_99 _ (by omega) (by omega) (by omega)).trans hn_96
          have hn_11_99 : f_99 n_11 = some (aQ E 8 pn (va_up gp p (some N))) := (hfr_99 _ (by omega) (by omega) (by omega)).trans hn_11_96
          have hn___2_99 : f_99 (n + 2) = some (aQ E 9 0 (fun _ => none)) := (hfr_99 _ (by omega) (by omega) (by omega)).trans hn___2_96
          have hn___3_99 : f_99 (n + 3) = some (aI E 6 (fun _ => 0)) := (hfr_99 _ (by omega) (by omega) (by omega)).trans hn___3_96
          have hn___4_99 : f_99 (n + 4) = some (aI E 0 (fun _ => 0)) := (hfr_99 _ (by omega) (by omega) (by omega)).trans hn___4_96
          have hn___5_99 : f_99 (n + 5) = some (aI E 0 (fun _ => 0)) := (hfr_99 _ (by omega) (by omega) (by omega)).trans hn___5_96
          have hN_99 : f_99 N = some (aI E 5 (upd (upd (upd (upd (upd (fun _ => 0) 0 (nI (1 + j_65))) 1 0) 2 0) 3 20) 4 0)) := (hfr_99 _ (by omega) (by omega) (by omega)).trans hN_96
          have hr_99 : f_99 r = some (cDice s1_65) := (hfr_99 _ (by omega) (by omega) (by omega)).trans hr_96
          have hr_96_99 : f_99 r_96 = some (cStr (r_96 + 1)) := (hfr_99 _ (by omega) (by omega) (by omega)).trans e0_96
          have hr_96___1_99 : f_99 (r_96 + 1) = some (aB E ((pT p).length) (tx (pT p))) := (hfr_99 _ (by omega) (by omega) (by omega)).trans e1_96
          refine va_ldcS (own := "HighRecipesLaw") hx hb hown (q_ldk hA (i := 2) (by decide)) dL_drawn_102 ?_
          refine q_cq (va_runV (As := [.ref (E.2.2.2 (200 + 2))]) (rest := []) ⟨hx, hb, hml, hown, hts⟩ (kJ4_append_k l E f_99 n_99 tb b1_99 m1_99 2 2000 (((pnT Hs 0) ++ kt 0) ++ (pT p)) e0_99 e1_99 (by (try simp only [List.length_append, List.length_nil, List.length_cons, pT_len, ktl_0, ktl_1, ktl_2, ktl_3, ktl_4, ktl_5, ktl_6, ktl_7, ktl_8, ktl_9, ktl_10, ktl_11, ktl_12, ktl_13, ktl_14, ktl_15, ktl_16, ktl_17, ktl_18, ktl_19, ktl_20, ktl_21, ktl_22, ktl_23, ktl_24, ktl_25, ktl_26, ktl_27, ktl_28, ktl_29, ktl_30, ktl_31, ktl_32, ktl_33, ktl_34, ktl_35, ktl_36, ktl_37, ktl_38, ktl_39, ktl_40, ktl_41, ktl_42, ktl_43, ktl_44, ktl_45, ktl_46, ktl_47, ktl_48, ktl_49]); omega) (by omega) (by omega) (by first | assumption | decide) (by repeat (first | exact okb_nil | assumption | exact kt_okb (by omega) | exact okb_pT (by omega) | exact dg_ok _ (by omega) | exact okb_one (by omega) | apply okb_app)) (by omega)) (cwV 1 hts gL_drawn_J4_append_15ec4 rfl rfl rfl (by decide +kernel) ⟨(Nat.le_of_ble_eq_true rfl), (Nat.le_of_ble_eq_true rfl)⟩) (q_pV hA hW hS (ci := 1) rfl e0_99) rfl rfl hl.1 rfl (lv_room (Nat.le_of_ble_eq_true rfl)) dL_drawn_104 ⟨(by show _ ≤ 20000; omega), (by show _ ≤ 1400000; omega)⟩) hS (fun r_104 f_104 n_104 H locs hp hW hS => ?_)
          obtain ⟨b1_104, m1_104, rfl, e0_104, e1_104, el_104, em4_104, eb_104, en_104, hfr_104⟩ := hp
          have l_e0_104 := hW.lt e0_104
          have l_e1_104 := hW.lt e1_104
          have hn_104 : f_104 n = some (cLK 0 4 1 0 (some n_11) (some (n + 2)) (some (n + 3)) (some (n + 4)) (some (n + 5)) 0 0 0) := (hfr_104 _ (by omega) (by omega) (by omega)).trans hn_99
          have hn_11_104 : f_104 n_11 = some (aQ E 8 pn (va_up gp p (some N))) := (hfr_104 _ (by omega) (by omega) (by omega)).trans hn_11_99
          have hn___2_104 : f_104 (n + 2) = some (aQ E 9 0 (fun _ => none)) := (hfr_104 _ (by omega) (by omega) (by omega)).trans hn___2_99
          have hn___3_104 : f_104 (n + 3) = some (aI E 6 (fun _ => 0)) := (hfr_104 _ (by omega) (by omega) (by omega)).trans hn___3_99
          have hn___4_104 : f_104 (n + 4) = some (aI E 0 (fun _ => 0)) := (hfr_104 _ (by omega) (by omega) (by omega)).trans hn___4_99
          have hn___5_104 : f_104 (n + 5) = some (aI E 0 (fun _ => 0)) := (hfr_104 _ (by omega) (by omega) (by omega)).trans hn___5_99
          have hN_104 : f_104 N = some (aI E 5 (upd (upd (upd (upd (upd (fun _ => 0) 0 (nI (1 + j_65))) 1 0) 2 0) 3 20) 4 0)) := (hfr_104 _ (by omega) (by omega) (by omega)).trans hN_99
          have hr_104 : f_104 r = some (cDice s1_65) := (hfr_104 _ (by omega) (by omega) (by omega)).trans hr_99
          have hr_96_104 : f_104 r_96 = some (cStr (r_96 + 1)) := (hfr_104 _ (by omega) (by omega) (by omega)).trans hr_96_99
          have hr_96___1_104 : f_104 (r_96 + 1) = some (aB E ((pT p).length) (tx (pT p))) := (hfr_104 _ (by omega) (by omega) (by omega)).trans hr_96___1_99
          refine lv_aload_n hx hb dL_drawn_107 rfl (lv_at hl 3 rfl) ?_
          refine q_get hx hb hts hown hA hW iX15 hn_104 rfl 4 (by decide) (hts (.fieldLink RL 58 "HighRecipesLaw$Kitchen" "pans" "[[I") (by decide +kernel)) (fun _ h9 => h9) (v := .ref n_11) rfl dL_drawn_108 ?_
          refine lv_iload hx hb dL_drawn_111 (lv_at hl 5 rfl) ?_
          refine q_aaldA hx hb hA hW 8 rfl hn_11_104 (vp_in_nI hlt (by omega)) dL_drawn_113 ?_
          rw [show (va_up gp p (some N)) (nI p).toNatClampNeg = some N from by rw [nI_clamp (by omega), va_up_self]]
          refine lv_iconst (v := 0) hx hb dL_drawn_114 (by decide) ?_
          refine q_iald hx hb hA hW hN_104 (vp_in_nI (n := 0) (by decide) (by decide)) dL_drawn_115 ?_
          rw [show (upd (upd (upd (upd (upd (fun _ => 0) 0 (nI (1 + j_65))) 1 0) 2 0) 3 20) 4 0) (0 : Int32).toNatClampNeg = nI (1 + j_65) from rfl]
          have ldg9 := dg_len (1 + j_65)
          refine q_cq (va_runV (As := [.int (nI (1 + j_65))]) (rest := []) ⟨hx, hb, hml, hown, hts⟩ (kJ4_append_bf812 l E f_104 n_104 tb b1_104 m1_104 (1 + j_65) 2000 ((((pnT Hs 0) ++ kt 0) ++ (pT p)) ++ kt 2) e0_104 e1_104 (by (try simp only [List.length_append, List.length_nil, List.length_cons, pT_len, ktl_0, ktl_1, ktl_2, ktl_3, ktl_4, ktl_5, ktl_6, ktl_7, ktl_8, ktl_9, ktl_10, ktl_11, ktl_12, ktl_13, ktl_14, ktl_15, ktl_16, ktl_17, ktl_18, ktl_19, ktl_20, ktl_21, ktl_22, ktl_23, ktl_24, ktl_25, ktl_26, ktl_27, ktl_28, ktl_29, ktl_30, ktl_31, ktl_32, ktl_33, ktl_34, ktl_35, ktl_36, ktl_37, ktl_38, ktl_39, ktl_40, ktl_41, ktl_42, ktl_43, ktl_44, ktl_45, ktl_46, ktl_47, ktl_48, ktl_49]); omega) (by omega) (by omega) (by first | assumption | decide) (by repeat (first | exact okb_nil | assumption | exact kt_okb (by omega) | exact okb_pT (by omega) | exact dg_ok _ (by omega) | exact okb_one (by omega) | apply okb_app)) (by omega)) (cwV 1 hts gL_drawn_J4_append_bf812 rfl rfl rfl (by decide +kernel) ⟨(Nat.le_of_ble_eq_true rfl), (Nat.le_of_ble_eq_true rfl)⟩) (q_pV hA hW hS (ci := 1) rfl e0_104) rfl rfl hl.1 rfl (lv_room (Nat.le_of_ble_eq_true rfl)) dL_drawn_116 ⟨(by show _ ≤ 20000; omega), (by show _ ≤ 1400000; omega)⟩) hS (fun r_116 f_116 n_116 H locs hp hW hS => ?_)
          obtain ⟨b1_116, m1_116, rfl, e0_116, e1_116, el_116, em4_116, eb_116, en_116, hfr_116⟩ := hp
          have l_e0_116 := hW.lt e0_116
          have l_e1_116 := hW.lt e1_116
          have hn_116 : f_116 n = some (cLK 0 4 1 0 (some n_11) (some (n + 2)) (some (n + 3)) (some (n + 4)) (some (n + 5)) 0 0 0) := (hfr_116 _ (by omega) (by omega) (by omega)).trans hn_104
          have hn_11_116 : f_116 n_11 = some (aQ E 8 pn (va_up gp p (some N))) := (hfr_116 _ (by omega) (by omega) (by omega)).trans hn_11_104
          have hn___2_116 : f_116 (n + 2) = some (aQ E 9 0 (fun _ => none)) := (hfr_116 _ (by omega) (by omega) (by omega)).trans hn___2_104
          have hn___3_116 : f_116 (n + 3) = some (aI E 6 (fun _ => 0)) := (hfr_116 _ (by omega) (by omega) (by omega)).trans hn___3_104
          have hn___4_116 : f_116 (n + 4) = some (aI E 0 (fun _ => 0)) := (hfr_116 _ (by omega) (by omega) (by omega)).trans hn___4_104
          have hn___5_116 : f_116 (n + 5) = some (aI E 0 (fun _ => 0)) := (hfr_116 _ (by omega) (by omega) (by omega)).trans hn___5_104
          have hN_116 : f_116 N = some (aI E 5 (upd (upd (upd (upd (upd (fun _ => 0) 0 (nI (1 + j_65))) 1 0) 2 0) 3 20) 4 0)) := (hfr_116 _ (by omega) (by omega) (by omega)).trans hN_104
          have hr_116 : f_116 r = some (cDice s1_65) := (hfr_116 _ (by omega) (by omega) (by omega)).trans hr_104
          have hr_96_116 : f_116 r_96 = some (cStr (r_96 + 1)) := (hfr_116 _ (by omega) (by omega) (by omega)).trans hr_96_104
          have hr_96___1_116 : f_116 (r_96 + 1) = some (aB E ((pT p).length) (tx (pT p))) := (hfr_116 _ (by omega) (by omega) (by omega)).trans hr_96___1_104
          refine va_ldcS (own := "HighRecipesLaw") hx hb hown (q_ldk hA (i := 3) (by decide)) dL_drawn_119 ?_
          refine q_cq (va_runV (As := [.ref (E.2.2.2 (200 + 3))]) (rest := []) ⟨hx, hb, hml, hown, hts⟩ (kJ4_append_k l E f_116 n_116 tb b1_116 m1_116 3 2000 (((((pnT Hs 0) ++ kt 0) ++ (pT p)) ++ kt 2) ++ dg (1 + j_65)) e0_116 e1_116 (by (try simp only [List.length_append, List.length_nil, List.length_cons, pT_len, ktl_0, ktl_1, ktl_2, ktl_3, ktl_4, ktl_5, ktl_6, ktl_7, ktl_8, ktl_9, ktl_10, ktl_11, ktl_12, ktl_13, ktl_14, ktl_15, ktl_16, ktl_17, ktl_18, ktl_19, ktl_20, ktl_21, ktl_22, ktl_23, ktl_24, ktl_25, ktl_26, ktl_27, ktl_28, ktl_29, ktl_30, ktl_31, ktl_32, ktl_33, ktl_34, ktl_35, ktl_36, ktl_37, ktl_38, ktl_39, ktl_40, ktl_41, ktl_42, ktl_43, ktl_44, ktl_45, ktl_46, ktl_47, ktl_48, ktl_49]); omega) (by omega) (by omega) (by first | assumption | decide) (by repeat (first | exact okb_nil | assumption | exact kt_okb (by omega) | exact okb_pT (by omega) | exact dg_ok _ (by omega) | exact okb_one (by omega) | apply okb_app)) (by omega)) (cwV 1 hts gL_drawn_J4_append_15ec4 rfl rfl rfl (by decide +kernel) ⟨(Nat.le_of_ble_eq_true rfl), (Nat.le_of_ble_eq_true rfl)⟩) (q_pV hA hW hS (ci := 1) rfl e0_116) rfl rfl hl.1 rfl (lv_room (Nat.le_of_ble_eq_true rfl)) dL_drawn_121 ⟨(by show _ ≤ 20000; omega), (by show _ ≤ 1400000; omega)⟩) hS (fun r_121 f_121 n_121 H locs hp hW hS => ?_)
          obtain ⟨b1_121, m1_121, rfl, e0_121, e1_121, el_121, em4_121, eb_121, en_121, hfr_121⟩ := hp
          have l_e0_121 := hW.lt e0_121
          have l_e1_121 := hW.lt e1_121
          have hn_121 : f_121 n = some (cLK 0 4 1 0 (some n_11) (some (n + 2)) (some (n + 3)) (some (n + 4)) (some (n + 5)) 0 0 0) := (hfr_121 _ (by omega) (by omega) (by omega)).trans hn_116
          have hn_11_121 : f_121 n_11 = some (aQ E 8 pn (va_up gp p (some N))) := (hfr_121 _ (by omega) (by omega) (by omega)).trans hn_11_116
          have hn___2_121 : f_121 (n + 2) = some (aQ E 9 0 (fun _ => none)) := (hfr_121 _ (by omega) (by omega) (by omega)).trans hn___2_116
          have hn___3_121 : f_121 (n + 3) = some (aI E 6 (fun _ => 0)) := (hfr_121 _ (by omega) (by omega) (by omega)).trans hn___3_116
          have hn___4_121 : f_121 (n + 4) = some (aI E 0 (fun _ => 0)) := (hfr_121 _ (by omega) (by omega) (by omega)).trans hn___4_116
          have hn___5_121 : f_121 (n + 5) = some (aI E 0 (fun _ => 0)) := (hfr_121 _ (by omega) (by omega) (by omega)).trans hn___5_116
          have hN_121 : f_121 N = some (aI E 5 (upd (upd (upd (upd (upd (fun _ => 0) 0 (nI (1 + j_65))) 1 0) 2 0) 3 20) 4 0)) := (hfr_121 _ (by omega) (by omega) (by omega)).trans hN_116
          have hr_121 : f_121 r = some (cDice s1_65) := (hfr_121 _ (by omega) (by omega) (by omega)).trans hr_116
          have hr_96_121 : f_121 r_96 = some (cStr (r_96 + 1)) := (hfr_121 _ (by omega) (by omega) (by omega)).trans hr_96_116
          have hr_96___1_121 : f_121 (r_96 + 1) = some (aB E ((pT p).length) (tx (pT p))) := (hfr_121 _ (by omega) (by omega) (by omega)).trans hr_96___1_116
          refine lv_pop hx hb dL_drawn_124 rfl ?_
          refine lv_iinc (v := nI (p + 1)) (lv' := [(5, .int (nI (p + 1))), (0, .ref r), (1, .ref tb), (2, .int 14), (3, .ref n), (4, .int (nI pn))]) hx hb dL_drawn_125 hl (k := 5) rfl (nI_1 p) (by decide) rfl (fun ls hl => ?_)
          refine lv_goto (tgt := 29) hx hb dL_drawn_128 (by decide) ?_
          refine W.widen (k := 8 + 12 * (p + 1)) (n := 60 + 20300 * (p + 1)) (by omega) (by omega) ?_
          exact ih f_121 n_121 (p + 1) s1_65 b1_121 m1_121 (Hs ++ [1 + j_65]) (va_up gp p (some N)) (fun i => if i = p then N else prj i) hr_121 (by rw [← (pn_eq (h := 1 + j_65) hHp)]; exact e0_121) (by rw [← (pn_eq (h := 1 + j_65) hHp)]; exact e1_121) hn_121 hn_11_121 hn___2_121 hn___3_121 hn___4_121 hn___5_121 (fun i hi => by by_cases e9 : i = p; (subst e9; rw [va_up_self]; exact congrArg some (if_pos rfl).symm); (rw [va_up_ne _ _ e9]; exact (hgp i (by omega)).trans (congrArg some (if_neg e9).symm))) (fun i hi => by by_cases e9 : i = p; (subst e9; rw [if_pos rfl]; exact ⟨_, hN_121, (show _ = nI ((Hs ++ [1 + j_65]).getD i 0) from by rw [← hHp, getD_last]; rfl), rfl, rfl, rfl, rfl⟩); (have h8 := hpr i (by omega); obtain ⟨gr, e1, e2, e3⟩ := hrow i (by omega); rw [if_neg e9]; exact ⟨gr, (show _ = F (prj i) from ((hfr_121 _ (by omega) (by omega) (by omega)).trans ((hfr_116 _ (by omega) (by omega) (by omega)).trans ((hfr_104 _ (by omega) (by omega) (by omega)).trans ((hfr_99 _ (by omega) (by omega) (by omega)).trans ((hfr_96 _ (by omega)).trans ((hfr_91 _ (by omega) (by omega) (by omega)).trans (q_ne (by omega) (q_ne (by omega) ((hfr_65 _ (by omega)).trans ((hfr_51 _ (by omega)).trans (q_ne (by omega) rfl)))))))))))).trans e1, e2.trans (by rw [getD_app (by omega)]), e3⟩)) (fun i hi => by by_cases e9 : i = p; (rw [if_pos e9]; omega); (rw [if_neg e9]; have h8 := hpr i (by omega); omega)) (fun i j hi hj e9 => by by_cases e7 : i = p; (by_cases e8 : j = p; (omega); (rw [if_pos e7, if_neg e8] at e9; have h8 := hpr j (by omega); omega)); (by_cases e8 : j = p; (rw [if_neg e7, if_pos e8] at e9; have h8 := hpr i (by omega); omega); (rw [if_neg e7, if_neg e8] at e9; exact hpd i j (by omega) (by omega) e9))) (by rw [List.length_append, hHp]; rfl) (fun h hh => by rcases List.mem_append.mp hh with h8 | h8; (exact hHr h h8); (rw [List.mem_singleton.mp h8]; omega)) (by rw [← (pn_eq (h := 1 + j_65) hHp)]; assumption) (by omega) (by omega) (by omega) (by omega) hlt (fun z9 g0 g1 g2 g3 => ((hfr_121 _ (by omega) (by omega) (by omega)).trans ((hfr_116 _ (by omega) (by omega) (by omega)).trans ((hfr_104 _ (by omega) (by omega) (by omega)).trans ((hfr_99 _ (by omega) (by omega) (by omega)).trans ((hfr_96 _ (by omega)).trans ((hfr_91 _ (by omega) (by omega) (by omega)).trans (q_ne (by omega) (q_ne (by omega) ((hfr_65 _ (by omega)).trans ((hfr_51 _ (by omega)).trans (q_ne (by omega) ((hfr_K29 _ (by omega) (by omega) (by omega) (by omega)).trans rfl))))))))))))) (by omega) _ _ _ hW hS (lv_sub hl [1, 2, 3, 4, 5, 0] rfl)
  refine W.widen (k := 8 + 12 * 0) (n := 60 + 20300 * 0) (by omega) (by omega) ?_
  exact K29 _ (va_up (va_up f_11 n_11 (some (aQ E 8 pn (fun _ => none)))) n (some (cLK 0 4 1 0 (some n_11) (some ((n + 1) + 1)) (some ((n + 1) + 2)) (some ((n + 1) + 3)) (some ((n + 1) + 4)) 0 0 0))) (n_11 + 1) 0 s1_11 bb m ([] : List Nat) (fun _ => none) (fun _ => 0) (q_ne (by omega) (q_ne (by omega) e0_11)) (show _ = some (cSB bb (nI ([] : List Int32).length)) from (q_ne (by omega) (q_ne (by omega) htb_11))) (show _ = some (aB E m (tx ([] : List Int32))) from (q_ne (by omega) (q_ne (by omega) hbb_11))) q_eq (q_ne (by omega) q_eq) (q_ne (by omega) (q_ne (by omega) hn___2_11)) (q_ne (by omega) (q_ne (by omega) hn___3_11)) (q_ne (by omega) (q_ne (by omega) hn___4_11)) (q_ne (by omega) (q_ne (by omega) hn___5_11)) (fun i hi => absurd hi (Nat.not_lt_zero _)) (fun i hi => absurd hi (Nat.not_lt_zero _)) (fun i hi => absurd hi (Nat.not_lt_zero _)) (fun i j hi => absurd hi (Nat.not_lt_zero _)) rfl (fun h hh => absurd hh List.not_mem_nil) (Nat.zero_le _) hm4 (Or.inl rfl) (by omega) (by omega) (Nat.zero_le _) (fun z9 g0 g1 g2 g3 => (q_ne (by omega) (q_ne (by omega) ((hfr_11 _ (by omega)).trans ((hfr_4 _ (by omega) (by omega)).trans (q_ne (by omega) rfl)))))) (Nat.lt_succ_self _) _ _ _ hW hS (lv_sub hl [3, 4, 5, 2, 1, 0] rfl)

