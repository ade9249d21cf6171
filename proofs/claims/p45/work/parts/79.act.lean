/-! something by hand, or a recipe: class and law's kitchen go on alike -/
theorem b_in1 {j L : Nat} (hL : L < 2 ^ 31) (h1 : 1 ≤ j) (h : j ≤ L) : b_in (nI j) 1 (nI L) = true := by
  unfold b_in
  rw [show decide (nI j < 1) = false from decide_eq_false (nI_nlt (a := j) (b := 1) h1 (by omega)), decide_eq_false (nI_nlt h hL)]
  rfl
theorem JA.more {E : q_E} {a c nb r k : Nat} {s : Int32} {X : Nat → Prop} {f : q_H} {n BB pn NR : Nat} {ac : Int32} {hd vm vk : q_V} {RS : Nat → q_S} (h : JA E a c nb r k s X f n BB pn NR ac hd vm vk RS) {BC : Nat} (hB : BB ≤ BC) : JA E a c nb r k s X f n BC pn NR ac hd vm vk RS := by
  obtain ⟨Qm, Qw, P, pa, re, ki, wa, no, pr, b, w, L, g, cnt, hM, ⟨BBw, gw, pnw, rcw, acw, hdw, vw, RSw, hWm⟩, hK, hs, hR, hO, hr, ⟨n1_, n2_, n3_, n4_, n5_⟩, ⟨x1_, x2_, x3_⟩, ⟨y1_, y2_, y3_⟩, hgm, hgk, ⟨d1_, d2_, d3_, d4_, rfl⟩, hcn, hac⟩ := h
  exact ⟨Qm, Qw, P, pa, re, ki, wa, no, pr, b, w, _, _, cnt, hM.frame (fun _ _ => rfl) (Nat.le_refl _) hB, ⟨BBw, gw, pnw, rcw, acw, hdw, vw, RSw, hWm⟩, hK, hs, hR, hO, hr, ⟨n1_, n2_, n3_, n4_, n5_⟩, ⟨x1_, x2_, x3_⟩, ⟨y1_, y2_, y3_⟩, hgm.more hB, hgk.more hB, ⟨d1_, d2_, d3_, d4_, rfl⟩, hcn, hac⟩
theorem JA.xr {E : q_E} {a c nb r k : Nat} {s : Int32} {X : Nat → Prop} {f : q_H} {n BB pn NR : Nat} {ac : Int32} {hd vm vk : q_V} {RS : Nat → q_S} (h : JA E a c nb r k s X f n BB pn NR ac hd vm vk RS) : ∀ q, X q → q ≠ r := by
  obtain ⟨Qm, Qw, P, pa, re, ki, wa, no, pr, b, w, L, g, cnt, hM, ⟨BBw, gw, pnw, rcw, acw, hdw, vw, RSw, hWm⟩, hK, hs, hR, hO, hr, ⟨n1_, n2_, n3_, n4_, n5_⟩, ⟨x1_, x2_, x3_⟩, ⟨y1_, y2_, y3_⟩, hgm, hgk, ⟨d1_, d2_, d3_, d4_, rfl⟩, hcn, hac⟩ := h
  exact fun q hq => x3_ q (Or.inr (Or.inr hq))
theorem JA.ne {E : q_E} {a c nb r k : Nat} {s : Int32} {X : Nat → Prop} {f : q_H} {n BB pn NR : Nat} {ac : Int32} {hd vm vk : q_V} {RS : Nat → q_S} (h : JA E a c nb r k s X f n BB pn NR ac hd vm vk RS) : k ≠ r := by
  obtain ⟨Qm, Qw, P, pa, re, ki, wa, no, pr, b, w, L, g, cnt, hM, ⟨BBw, gw, pnw, rcw, acw, hdw, vw, RSw, hWm⟩, hK, hs, hR, hO, hr, ⟨n1_, n2_, n3_, n4_, n5_⟩, ⟨x1_, x2_, x3_⟩, ⟨y1_, y2_, y3_⟩, hgm, hgk, ⟨d1_, d2_, d3_, d4_, rfl⟩, hcn, hac⟩ := h
  omega

theorem JA.vcook {E : q_E} {a c nb r k : Nat} {s : Int32} {X : Nat → Prop} {f : q_H} {n BB pn NR : Nat} {ac : Int32} {hd vm vk : q_V} {RS : Nat → q_S} (h : JA E a c nb r k s X f n BB pn NR ac hd vm vk RS) {r9 : Nat} (hB : BB ≤ 2 ^ 29) (hr9 : r9 < NR) : VG (BB + 100) pn hd (RS r9 hd (vk, 0, (-1))).1 := by
  obtain ⟨Qm, Qw, P, pa, re, ki, wa, no, pr, b, w, L, g, cnt, hM, ⟨BBw, gw, pnw, rcw, acw, hdw, vw, RSw, hWm⟩, hK, hs, hR, hO, hr, ⟨n1_, n2_, n3_, n4_, n5_⟩, ⟨x1_, x2_, x3_⟩, ⟨y1_, y2_, y3_⟩, hgm, hgk, ⟨d1_, d2_, d3_, d4_, rfl⟩, hcn, hac⟩ := h
  exact VG.cook hR hgk hB hr9

set_option maxHeartbeats 4000000 in
set_option maxRecDepth 100000 in
theorem kL_act (l : Launch) (E : q_E) (f : q_H) (n : Nat) (a c nb r k : Nat) (s : Int32) (X : Nat → Prop) (BB pn NR : Nat) (ac : Int32) (hd v : q_V) (RS : Nat → q_S)  (hJ : JA E a c nb r k s X f n BB pn NR ac hd v v RS) (hB : BB ≤ 2 ^ 28) : Met l yL_act wsL_act ({ frames := 600, cells := 101, slots := 2006, locals := 22000 }) (q_P E [.ref a, .ref k, .ref r] f n) (q_Qi E (fun r0 f1 n1 => ∃ (v1 : q_V) (s1 : Int32), 1 = r0 ∧ JA E a c nb r k s1 X f1 n1 (BB + 100) pn NR ac hd v1 v1 RS ∧ n ≤ n1 ∧ ∀ z9, X z9 → f1 z9 = f z9)) 101 2006 (q_ge E) := by
  refine Met.ofW (cc := cL_act) (maxL := 10) (ret := (some .boolean)) (by decide) rfl ?_
  intro p0_ e0_ s0_ m0_ args0_ below0_ meth0_ c0_ s1_ B0_ hml hv
  obtain ⟨rfl, hA, hW⟩ := hv
  have hx := B0_.exec
  have hb := B0_.bytes
  have hr := B0_.returns
  have hts := atoms_spec (ws := wsL_act) B0_.pre
  have hown : s0_.vm.findClass RL = some m0_.cls := findClass_of_methodNamed B0_.named
  have hlocks := B0_.notSynchronized
  have hS : va_S (q_ge E) s0_.heap s0_.heap [] := va_S.rf
  have iX15 : ∀ w ∈ wsX150, w ∈ wsL_act := by decide +kernel
  have hl := lv_entry ([.ref a, .ref k, .ref r]) (n := 10) (Nat.le_of_ble_eq_true rfl)
  rw [lg_entry_eq]
  generalize (lg_sl ([.ref a, .ref k, .ref r]) ++ List.replicate (10 - (lg_sl ([.ref a, .ref k, .ref r])).length) Slot.unset).toArray = ls at hl ⊢
  have hl : lv_has ls 10 [(0, .ref a), (1, .ref k), (2, .ref r)] := hl
  obtain ⟨hp1, hp4, hN1, hN3, hgm, -, y1, y2, y3⟩ := hJ.num
  have hr0 := hJ.dice
  have hkr := hJ.ne
  have hvo := hgm.1
  refine lv_aload_n hx hb dL_act_0 rfl (lv_at hl 2 rfl) ?_
  refine lv_aload_n hx hb dL_act_1 rfl (lv_at hl 1 rfl) ?_
  obtain ⟨P_2, pa_2, re_2, ki_2, wa_2, no_2, pr_2, b_2, w_2, hK_2, hs_2, hR_2, hO_2, hXk_2, hck_2⟩ := hJ.k
  obtain ⟨hk0_2, ⟨gk_2, hki_2, hkv_2⟩, ⟨gw_2, hwa_2, hwv_2⟩, ⟨gn_2, hno_2, hnv_2⟩, ⟨gp_2, hpa_2, hpv_2⟩, hrow_2⟩ := id hK_2
  obtain ⟨gre_2, hPre_2, hre_2, -⟩ := id hR_2
  have lk_2 := hW.lt hk0_2
  have lki_2 := hW.lt hki_2
  have lwa_2 := hW.lt hwa_2
  have lno_2 := hW.lt hno_2
  have lpa_2 := hW.lt hpa_2
  have nk_2 := hJ.ne
  have npa_2 := ne_ab hJ.dice hpa_2
  have nre_2 := ne_ab hJ.dice hre_2
  have nki_2 := ne_ab hJ.dice hki_2
  have nwa_2 := ne_ab hJ.dice hwa_2
  have nno_2 := ne_ab hJ.dice hno_2
  refine q_get hx hb hts hown hA hW iX15 hk0_2 rfl 4 (by decide) (hts (.fieldLink RL 58 "HighRecipesLaw$Kitchen" "pans" "[[I") (by decide +kernel)) (fun _ h9 => h9) (v := .ref pa_2) rfl dL_act_2 ?_
  refine q_alen hx hb hA hW 8 rfl hpa_2 (v := nI pn) rfl dL_act_5 ?_
  have hlt_6 : ∀ q x, (f) q = some x → q < n := fun q x e => hW.lt e
  refine q_ci (va_runV (As := [.int (nI pn)]) (rest := []) ⟨hx, hb, hml, hown, hts⟩ (kX14_next l E f n r pn s hr0 (by omega) (by omega)) (cwV 1 hts gL_act_X14_next rfl rfl rfl (by decide +kernel) ⟨(Nat.le_of_ble_eq_true rfl), (Nat.le_of_ble_eq_true rfl)⟩) (q_pV hA hW hS (ci := 14) rfl hr0) rfl rfl hl.1 rfl (lv_room (Nat.le_of_ble_eq_true rfl)) dL_act_6 ⟨(by show _ ≤ 101; omega), (by show _ ≤ 2006; omega)⟩) hS (fun r_6 f_6 n_6 H locs hp hW hS => ?_)
  obtain ⟨j_6, s1_6, rfl, e0_6, ej_6, en_6, hfr_6⟩ := hp
  have l_e0_6 := hW.lt e0_6
  have hk_6 : f_6 k = some (cLK (v 0) (v 1) (v 2) (v 3) (some pa_2) (some re_2) (some ki_2) (some wa_2) (some no_2) (v 5) (nI b_2) w_2) := (hfr_6 _ (by omega)).trans hk0_2
  have hpa_2_6 : f_6 pa_2 = some (aQ E 8 pn gp_2) := (hfr_6 _ (by omega)).trans hpa_2
  have hre_2_6 : f_6 re_2 = some (aQ E 9 NR gre_2) := (hfr_6 _ (by omega)).trans hre_2
  have hJ_6 : JA E a c nb r k s1_6 X f_6 n_6 BB pn NR ac hd v v RS := hJ.out hlt_6 (fun q h1 h2 => hfr_6 q h2) (Nat.le_of_eq en_6.symm) e0_6 (fun q hq => Or.inl hq)
  refine lv_istore_n (lv' := [(3, .int (nI j_6)), (0, .ref a), (1, .ref k), (2, .ref r)]) hx hb dL_act_9 rfl hl (by decide) rfl (fun ls hl => ?_)
  refine lv_aload_n hx hb dL_act_10 rfl (lv_at hl 3 rfl) ?_
  refine lv_bipush (v := 13) hx hb dL_act_11 (by decide) ?_
  have hlt_13 : ∀ q x, (f_6) q = some x → q < n_6 := fun q x e => hW.lt e
  refine q_ci (va_runV (As := [.int 13]) (rest := []) ⟨hx, hb, hml, hown, hts⟩ (kX14_next l E f_6 n_6 r 13 s1_6 e0_6 (by omega) (by omega)) (cwV 1 hts gL_act_X14_next rfl rfl rfl (by decide +kernel) ⟨(Nat.le_of_ble_eq_true rfl), (Nat.le_of_ble_eq_true rfl)⟩) (q_pV hA hW hS (ci := 14) rfl e0_6) rfl rfl hl.1 rfl (lv_room (Nat.le_of_ble_eq_true rfl)) dL_act_13 ⟨(by show _ ≤ 101; omega), (by show _ ≤ 2006; omega)⟩) hS (fun r_13 f_13 n_13 H locs hp hW hS => ?_)
  obtain ⟨j_13, s1_13, rfl, e0_13, ej_13, en_13, hfr_13⟩ := hp
  have l_e0_13 := hW.lt e0_13
  have hk_13 : f_13 k = some (cLK (v 0) (v 1) (v 2) (v 3) (some pa_2) (some re_2) (some ki_2) (some wa_2) (some no_2) (v 5) (nI b_2) w_2) := (hfr_13 _ (by omega)).trans hk_6
  have hpa_2_13 : f_13 pa_2 = some (aQ E 8 pn gp_2) := (hfr_13 _ (by omega)).trans hpa_2_6
  have hre_2_13 : f_13 re_2 = some (aQ E 9 NR gre_2) := (hfr_13 _ (by omega)).trans hre_2_6
  have hJ_13 : JA E a c nb r k s1_13 X f_13 n_13 BB pn NR ac hd v v RS := hJ_6.out hlt_13 (fun q h1 h2 => hfr_13 q h2) (Nat.le_of_eq en_13.symm) e0_13 (fun q hq => Or.inl hq)
  have hj13 := ej_13
  rcases (show j_13 = 0 ∨ j_13 = 1 ∨ j_13 = 2 ∨ j_13 = 3 ∨ j_13 = 4 ∨ j_13 = 5 ∨ j_13 = 6 ∨ j_13 = 7 ∨ j_13 = 8 ∨ j_13 = 9 ∨ j_13 = 10 ∨ j_13 = 11 ∨ j_13 = 12 by omega) with hjv | hjv | hjv | hjv | hjv | hjv | hjv | hjv | hjv | hjv | hjv | hjv | hjv
  · rw [show nI j_13 = 0 from by rw [hjv]; decide]
    refine lv_tableIn (x := 0) (off := 48) (tgt := 64) hx hb dL_act_16 (by decide) (by decide) (by decide) (by decide) ?_
    refine lv_aload_n hx hb dL_act_64 rfl (lv_at hl 2 rfl) ?_
    obtain ⟨P_65, pa_65, re_65, ki_65, wa_65, no_65, pr_65, b_65, w_65, hK_65, hs_65, hR_65, hO_65, hXk_65, hck_65⟩ := hJ_13.k
    obtain ⟨hk0_65, ⟨gk_65, hki_65, hkv_65⟩, ⟨gw_65, hwa_65, hwv_65⟩, ⟨gn_65, hno_65, hnv_65⟩, ⟨gp_65, hpa_65, hpv_65⟩, hrow_65⟩ := id hK_65
    obtain ⟨gre_65, hPre_65, hre_65, -⟩ := id hR_65
    have lk_65 := hW.lt hk0_65
    have lki_65 := hW.lt hki_65
    have lwa_65 := hW.lt hwa_65
    have lno_65 := hW.lt hno_65
    have lpa_65 := hW.lt hpa_65
    have nk_65 := hJ_13.ne
    have npa_65 := ne_ab hJ_13.dice hpa_65
    have nre_65 := ne_ab hJ_13.dice hre_65
    have nki_65 := ne_ab hJ_13.dice hki_65
    have nwa_65 := ne_ab hJ_13.dice hwa_65
    have nno_65 := ne_ab hJ_13.dice hno_65
    refine q_get hx hb hts hown hA hW iX15 hk0_65 rfl 0 (by decide) (hts (.fieldLink RL 97 "HighRecipesLaw$Kitchen" "altitude" "I") (by decide +kernel)) (fun _ h9 => h9) (v := .int (v 0)) rfl dL_act_65 ?_
    refine lv_istore (lv' := [(4, .int (v 0)), (3, .int (nI j_6)), (0, .ref a), (1, .ref k), (2, .ref r)]) hx hb dL_act_68 hl (by decide) rfl (fun ls hl => ?_)
    refine lv_aload_n hx hb dL_act_70 rfl (lv_at hl 3 rfl) ?_
    refine lv_aload_n hx hb dL_act_71 rfl (lv_at hl 4 rfl) ?_
    refine lv_bipush (v := 61) hx hb dL_act_72 (by decide) ?_
    have hlt_74 : ∀ q x, (f_13) q = some x → q < n_13 := fun q x e => hW.lt e
    refine q_ci (va_runV (As := [.int 61]) (rest := [.ref k]) ⟨hx, hb, hml, hown, hts⟩ (kX14_next l E f_13 n_13 r 61 s1_13 e0_13 (by omega) (by omega)) (cwV 1 hts gL_act_X14_next rfl rfl rfl (by decide +kernel) ⟨(Nat.le_of_ble_eq_true rfl), (Nat.le_of_ble_eq_true rfl)⟩) (q_pV hA hW hS (ci := 14) rfl e0_13) rfl rfl hl.1 rfl (lv_room (Nat.le_of_ble_eq_true rfl)) dL_act_74 ⟨(by show _ ≤ 101; omega), (by show _ ≤ 2006; omega)⟩) hS (fun r_74 f_74 n_74 H locs hp hW hS => ?_)
    obtain ⟨j_74, s1_74, rfl, e0_74, ej_74, en_74, hfr_74⟩ := hp
    have l_e0_74 := hW.lt e0_74
    have hk_74 : f_74 k = some (cLK (v 0) (v 1) (v 2) (v 3) (some pa_65) (some re_65) (some ki_65) (some wa_65) (some no_65) (v 5) (nI b_65) w_65) := (hfr_74 _ (by omega)).trans hk0_65
    have hpa_2_74 : f_74 pa_2 = some (aQ E 8 pn gp_2) := (hfr_74 _ (by omega)).trans hpa_2_13
    have hre_2_74 : f_74 re_2 = some (aQ E 9 NR gre_2) := (hfr_74 _ (by omega)).trans hre_2_13
    have hpa_65_74 : f_74 pa_65 = some (aQ E 8 pn gp_65) := (hfr_74 _ (by omega)).trans hpa_65
    have hre_65_74 : f_74 re_65 = some (aQ E 9 NR gre_65) := (hfr_74 _ (by omega)).trans hre_65
    have hJ_74 : JA E a c nb r k s1_74 X f_74 n_74 BB pn NR ac hd v v RS := hJ_13.out hlt_74 (fun q h1 h2 => hfr_74 q h2) (Nat.le_of_eq en_74.symm) e0_74 (fun q hq => Or.inl hq)
    obtain ⟨P_77, pa_77, re_77, ki_77, wa_77, no_77, pr_77, b_77, w_77, hK_77, hs_77, hR_77, hO_77, hXk_77, hck_77⟩ := hJ_74.k
    obtain ⟨hk0_77, ⟨gk_77, hki_77, hkv_77⟩, ⟨gw_77, hwa_77, hwv_77⟩, ⟨gn_77, hno_77, hnv_77⟩, ⟨gp_77, hpa_77, hpv_77⟩, hrow_77⟩ := id hK_77
    obtain ⟨gre_77, hPre_77, hre_77, -⟩ := id hR_77
    have lk_77 := hW.lt hk0_77
    have lki_77 := hW.lt hki_77
    have lwa_77 := hW.lt hwa_77
    have lno_77 := hW.lt hno_77
    have lpa_77 := hW.lt hpa_77
    have nk_77 := hJ_74.ne
    have npa_77 := ne_ab hJ_74.dice hpa_77
    have nre_77 := ne_ab hJ_74.dice hre_77
    have nki_77 := ne_ab hJ_74.dice hki_77
    have nwa_77 := ne_ab hJ_74.dice hwa_77
    have nno_77 := ne_ab hJ_74.dice hno_77
    have hr8 := hJ_74.dice
    have lr8 := hW.lt hr8
    refine q_cv (va_runV (As := [.int (nI j_74)]) (rest := []) ⟨hx, hb, hml, hown, hts⟩ (kX15_climb l E f_74 n_74 k pa_77 re_77 ki_77 wa_77 no_77 pn pr_77 hd v b_77 w_77 j_74 hK_77 hs_77 (by omega) (by omega) hvo) (cwV 1 hts gL_act_X15_climb rfl rfl rfl (by decide +kernel) ⟨(Nat.le_of_ble_eq_true rfl), (Nat.le_of_ble_eq_true rfl)⟩) (q_pV hA hW hS (ci := 15) rfl hk0_77) rfl rfl hl.1 rfl (lv_room (Nat.le_of_ble_eq_true rfl)) dL_act_77 ⟨(by show _ ≤ 101; omega), (by show _ ≤ 2006; omega)⟩) hS (fun f_77 n_77 H locs hp hW hS => ?_)
    obtain ⟨eK_77, en_77, hfr_77⟩ := hp
    have hr_77 : f_77 r = some (cDice s1_74) := (hfr_77 _ (fun e => hkr e.symm) (fun i hi e => by obtain ⟨gr8, e8, -⟩ := hrow_77 i hi; exact ne_ab hr8 e8 e.symm) (by omega)).trans e0_74
    obtain ⟨hJ_77, hX_77, hnn_77⟩ := hck_77 f_77 n_77 (BB) ((z_move v (nI j_74) pn, b_77, w_77)) (by omega) ⟨wa_77, no_77, pr_77, eK_77, hs_77, PRN.rf, (by omega), (fun z a1 a2 a3 a4 a5 => hfr_77 z a1 a4 a5)⟩ (hgm.move (by omega))
    refine lv_aload_n hx hb dL_act_80 rfl (lv_at hl 2 rfl) ?_
    refine lv_aload_n hx hb dL_act_81 rfl (lv_at hl 3 rfl) ?_
    obtain ⟨P_82, pa_82, re_82, ki_82, wa_82, no_82, pr_82, b_82, w_82, hK_82, hs_82, hR_82, hO_82, hXk_82, hck_82⟩ := hJ_77.k
    obtain ⟨hk0_82, ⟨gk_82, hki_82, hkv_82⟩, ⟨gw_82, hwa_82, hwv_82⟩, ⟨gn_82, hno_82, hnv_82⟩, ⟨gp_82, hpa_82, hpv_82⟩, hrow_82⟩ := id hK_82
    obtain ⟨gre_82, hPre_82, hre_82, -⟩ := id hR_82
    have lk_82 := hW.lt hk0_82
    have lki_82 := hW.lt hki_82
    have lwa_82 := hW.lt hwa_82
    have lno_82 := hW.lt hno_82
    have lpa_82 := hW.lt hpa_82
    have nk_82 := hJ_77.ne
    have npa_82 := ne_ab hJ_77.dice hpa_82
    have nre_82 := ne_ab hJ_77.dice hre_82
    have nki_82 := ne_ab hJ_77.dice hki_82
    have nwa_82 := ne_ab hJ_77.dice hwa_82
    have nno_82 := ne_ab hJ_77.dice hno_82
    refine q_get hx hb hts hown hA hW iX15 hk0_82 rfl 0 (by decide) (hts (.fieldLink RL 97 "HighRecipesLaw$Kitchen" "altitude" "I") (by decide +kernel)) (fun _ h9 => h9) (v := .int ((z_move v (nI j_74) pn) 0)) rfl dL_act_82 ?_
    rw [show (z_move v (nI j_74) pn) 0 = nI j_74 from rfl]
    refine q_ci (va_runV (As := [.int (nI j_74)]) (rest := []) ⟨hx, hb, hml, hown, hts⟩ (ja_setAltitude l E f_77 n_77 a c nb r k s1_74 X BB pn NR ac hd v (z_move v (nI j_74) pn) RS (nI j_74) hJ_77 (fun q x e => hW.lt e) (b_in_nI (L := 60) (by decide) (by omega)) (hgm.move (by omega))) (cwV 1 hts gL_act_X12_setAltitude rfl rfl rfl (by decide +kernel) ⟨(Nat.le_of_ble_eq_true rfl), (Nat.le_of_ble_eq_true rfl)⟩) (q_pV hA hW hS (ci := 12) rfl (Classical.choose_spec (Classical.choose_spec (Classical.choose_spec (Classical.choose_spec (Classical.choose_spec (Classical.choose_spec (Classical.choose_spec hJ_77.cell)))))))) rfl rfl hl.1 rfl (lv_room (Nat.le_of_ble_eq_true rfl)) dL_act_85 ⟨(by show _ ≤ 101; omega), (by show _ ≤ 2006; omega)⟩) hS (fun r_85 f_85 n_85 H locs hp hW hS => ?_)
    obtain ⟨rfl, eJ_85, en_85, hfr_85⟩ := hp
    refine lv_iload hx hb dL_act_88 (lv_at hl 0 rfl) ?_
    refine lv_icmp_ne (tgt := 97) hx hb dL_act_90 (by decide) (fun c_90 => False.elim ((fun h9 => h9 rfl) c_90)) (fun c_90 => ?_)
    refine lv_iconst (v := 1) hx hb dL_act_93 (by decide) ?_
    refine lv_goto (tgt := 98) hx hb dL_act_94 (by decide) ?_
    exact q_zret hx hb hr hlocks hW hS rfl ⟨z_move v (nI j_74) pn, s1_74, rfl, (eJ_85.more (Nat.le_add_right _ _)), (by omega), (fun _ hq => ((hfr_85 _ hq).trans ((hX_77 _ hq).trans ((hfr_74 _ (hJ_13.xr _ hq)).trans ((hfr_13 _ (hJ_6.xr _ hq)).trans (hfr_6 _ (hJ.xr _ hq)))))))⟩ (by show _ ≤ 101; omega) (by show _ ≤ 2006; omega) dL_act_98
  · rw [show nI j_13 = 1 from by rw [hjv]; decide]
    refine lv_tableIn (x := 1) (off := 83) (tgt := 99) hx hb dL_act_16 (by decide) (by decide) (by decide) (by decide) ?_
    refine lv_aload_n hx hb dL_act_99 rfl (lv_at hl 2 rfl) ?_
    obtain ⟨P_100, pa_100, re_100, ki_100, wa_100, no_100, pr_100, b_100, w_100, hK_100, hs_100, hR_100, hO_100, hXk_100, hck_100⟩ := hJ_13.k
    obtain ⟨hk0_100, ⟨gk_100, hki_100, hkv_100⟩, ⟨gw_100, hwa_100, hwv_100⟩, ⟨gn_100, hno_100, hnv_100⟩, ⟨gp_100, hpa_100, hpv_100⟩, hrow_100⟩ := id hK_100
    obtain ⟨gre_100, hPre_100, hre_100, -⟩ := id hR_100
    have lk_100 := hW.lt hk0_100
    have lki_100 := hW.lt hki_100
    have lwa_100 := hW.lt hwa_100
    have lno_100 := hW.lt hno_100
    have lpa_100 := hW.lt hpa_100
    have nk_100 := hJ_13.ne
    have npa_100 := ne_ab hJ_13.dice hpa_100
    have nre_100 := ne_ab hJ_13.dice hre_100
    have nki_100 := ne_ab hJ_13.dice hki_100
    have nwa_100 := ne_ab hJ_13.dice hwa_100
    have nno_100 := ne_ab hJ_13.dice hno_100
    refine q_get hx hb hts hown hA hW iX15 hk0_100 rfl 1 (by decide) (hts (.fieldLink RL 108 "HighRecipesLaw$Kitchen" "servings" "I") (by decide +kernel)) (fun _ h9 => h9) (v := .int (v 1)) rfl dL_act_100 ?_
    refine lv_istore (lv' := [(4, .int (v 1)), (3, .int (nI j_6)), (0, .ref a), (1, .ref k), (2, .ref r)]) hx hb dL_act_103 hl (by decide) rfl (fun ls hl => ?_)
    refine lv_aload_n hx hb dL_act_105 rfl (lv_at hl 3 rfl) ?_
    refine lv_iconst (v := 1) hx hb dL_act_106 (by decide) ?_
    refine lv_aload_n hx hb dL_act_107 rfl (lv_at hl 4 rfl) ?_
    refine lv_bipush (v := 12) hx hb dL_act_108 (by decide) ?_
    have hlt_110 : ∀ q x, (f_13) q = some x → q < n_13 := fun q x e => hW.lt e
    refine q_ci (va_runV (As := [.int 12]) (rest := [.int 1, .ref k]) ⟨hx, hb, hml, hown, hts⟩ (kX14_next l E f_13 n_13 r 12 s1_13 e0_13 (by omega) (by omega)) (cwV 1 hts gL_act_X14_next rfl rfl rfl (by decide +kernel) ⟨(Nat.le_of_ble_eq_true rfl), (Nat.le_of_ble_eq_true rfl)⟩) (q_pV hA hW hS (ci := 14) rfl e0_13) rfl rfl hl.1 rfl (lv_room (Nat.le_of_ble_eq_true rfl)) dL_act_110 ⟨(by show _ ≤ 101; omega), (by show _ ≤ 2006; omega)⟩) hS (fun r_110 f_110 n_110 H locs hp hW hS => ?_)
    obtain ⟨j_110, s1_110, rfl, e0_110, ej_110, en_110, hfr_110⟩ := hp
    have l_e0_110 := hW.lt e0_110
    have hk_110 : f_110 k = some (cLK (v 0) (v 1) (v 2) (v 3) (some pa_100) (some re_100) (some ki_100) (some wa_100) (some no_100) (v 5) (nI b_100) w_100) := (hfr_110 _ (by omega)).trans hk0_100
    have hpa_2_110 : f_110 pa_2 = some (aQ E 8 pn gp_2) := (hfr_110 _ (by omega)).trans hpa_2_13
    have hre_2_110 : f_110 re_2 = some (aQ E 9 NR gre_2) := (hfr_110 _ (by omega)).trans hre_2_13
    have hpa_100_110 : f_110 pa_100 = some (aQ E 8 pn gp_100) := (hfr_110 _ (by omega)).trans hpa_100
    have hre_100_110 : f_110 re_100 = some (aQ E 9 NR gre_100) := (hfr_110 _ (by omega)).trans hre_100
    have hJ_110 : JA E a c nb r k s1_110 X f_110 n_110 BB pn NR ac hd v v RS := hJ_13.out hlt_110 (fun q h1 h2 => hfr_110 q h2) (Nat.le_of_eq en_110.symm) e0_110 (fun q hq => Or.inl hq)
    refine lv_iadd hx hb dL_act_113 ?_
    rw [show 1 + nI j_110 = nI (1 + j_110) from nI_add 1 j_110]
    obtain ⟨P_114, pa_114, re_114, ki_114, wa_114, no_114, pr_114, b_114, w_114, hK_114, hs_114, hR_114, hO_114, hXk_114, hck_114⟩ := hJ_110.k
    obtain ⟨hk0_114, ⟨gk_114, hki_114, hkv_114⟩, ⟨gw_114, hwa_114, hwv_114⟩, ⟨gn_114, hno_114, hnv_114⟩, ⟨gp_114, hpa_114, hpv_114⟩, hrow_114⟩ := id hK_114
    obtain ⟨gre_114, hPre_114, hre_114, -⟩ := id hR_114
    have lk_114 := hW.lt hk0_114
    have lki_114 := hW.lt hki_114
    have lwa_114 := hW.lt hwa_114
    have lno_114 := hW.lt hno_114
    have lpa_114 := hW.lt hpa_114
    have nk_114 := hJ_110.ne
    have npa_114 := ne_ab hJ_110.dice hpa_114
    have nre_114 := ne_ab hJ_110.dice hre_114
    have nki_114 := ne_ab hJ_110.dice hki_114
    have nwa_114 := ne_ab hJ_110.dice hwa_114
    have nno_114 := ne_ab hJ_110.dice hno_114
    refine q_put hx hb hts hown hA hW hS iX15 tyX15 tyX15_ok nmX15 hk0_114 rfl 1 (by decide) (hts (.fieldLink RL 108 "HighRecipesLaw$Kitchen" "servings" "I") (by decide +kernel)) (fun _ h9 => h9) rfl rfl rfl (Nat.le_of_ble_eq_true rfl) dL_act_114 (fun H locs hW hS => ?_)
    have hW : q_W E (va_up f_110 k (some (cLK (v 0) (nI (1 + j_110)) (v 2) (v 3) (some pa_114) (some re_114) (some ki_114) (some wa_114) (some no_114) (v 5) (nI b_114) w_114))) n_110 H := hW
    obtain ⟨hJ_114, hX_114, -⟩ := hck_114 _ n_110 BB (upd v 1 (nI (1 + j_110)), b_114, w_114) (Nat.le_refl _) ⟨wa_114, no_114, pr_114, (LK.head (b' := b_114) (w' := w_114) hK_114 (v' := upd v 1 (nI (1 + j_110))) rfl (fun q hq => if_neg (by omega))), hs_114, PRN.rf, Nat.le_refl _, (fun z a1 a2 a3 a4 a5 => va_up_ne _ _ a1)⟩ (hgm.serv (by omega) (by omega))
    refine lv_aload_n hx hb dL_act_117 rfl (lv_at hl 2 rfl) ?_
    refine lv_aload_n hx hb dL_act_118 rfl (lv_at hl 3 rfl) ?_
    refine q_get hx hb hts hown hA hW iX15 q_eq rfl 1 (by decide) (hts (.fieldLink RL 108 "HighRecipesLaw$Kitchen" "servings" "I") (by decide +kernel)) (fun _ h9 => h9) (v := .int (nI (1 + j_110))) rfl dL_act_119 ?_
    refine q_ci (va_runV (As := [.int (nI (1 + j_110))]) (rest := []) ⟨hx, hb, hml, hown, hts⟩ (ja_setServings l E (va_up f_110 k (some (cLK (v 0) (nI (1 + j_110)) (v 2) (v 3) (some pa_114) (some re_114) (some ki_114) (some wa_114) (some no_114) (v 5) (nI b_114) w_114))) n_110 a c nb r k s1_110 X BB pn NR ac hd v (upd v 1 (nI (1 + j_110))) RS (nI (1 + j_110)) hJ_114 (fun q x e => hW.lt e) (b_in1 (L := 12) (by decide) (by omega) (by omega)) (hgm.serv (by omega) (by omega))) (cwV 1 hts gL_act_X12_setServings rfl rfl rfl (by decide +kernel) ⟨(Nat.le_of_ble_eq_true rfl), (Nat.le_of_ble_eq_true rfl)⟩) (q_pV hA hW hS (ci := 12) rfl (Classical.choose_spec (Classical.choose_spec (Classical.choose_spec (Classical.choose_spec (Classical.choose_spec (Classical.choose_spec (Classical.choose_spec hJ_114.cell)))))))) rfl rfl hl.1 rfl (lv_room (Nat.le_of_ble_eq_true rfl)) dL_act_122 ⟨(by show _ ≤ 101; omega), (by show _ ≤ 2006; omega)⟩) hS (fun r_122 f_122 n_122 H locs hp hW hS => ?_)
    obtain ⟨rfl, eJ_122, en_122, hfr_122⟩ := hp
    refine lv_iload hx hb dL_act_125 (lv_at hl 0 rfl) ?_
    refine lv_icmp_ne (tgt := 134) hx hb dL_act_127 (by decide) (fun c_127 => False.elim ((fun h9 => h9 rfl) c_127)) (fun c_127 => ?_)
    refine lv_iconst (v := 1) hx hb dL_act_130 (by decide) ?_
    refine lv_goto (tgt := 135) hx hb dL_act_131 (by decide) ?_
    exact q_zret hx hb hr hlocks hW hS rfl ⟨upd v 1 (nI (1 + j_110)), s1_110, rfl, (eJ_122.more (Nat.le_add_right _ _)), (by omega), (fun _ hq => ((hfr_122 _ hq).trans ((hX_114 _ hq).trans ((hfr_110 _ (hJ_13.xr _ hq)).trans ((hfr_13 _ (hJ_6.xr _ hq)).trans (hfr_6 _ (hJ.xr _ hq)))))))⟩ (by show _ ≤ 101; omega) (by show _ ≤ 2006; omega) dL_act_135
  · rw [show nI j_13 = 2 from by rw [hjv]; decide]
    refine lv_tableIn (x := 2) (off := 120) (tgt := 136) hx hb dL_act_16 (by decide) (by decide) (by decide) (by decide) ?_
    refine lv_aload_n hx hb dL_act_136 rfl (lv_at hl 2 rfl) ?_
    obtain ⟨P_137, pa_137, re_137, ki_137, wa_137, no_137, pr_137, b_137, w_137, hK_137, hs_137, hR_137, hO_137, hXk_137, hck_137⟩ := hJ_13.k
    obtain ⟨hk0_137, ⟨gk_137, hki_137, hkv_137⟩, ⟨gw_137, hwa_137, hwv_137⟩, ⟨gn_137, hno_137, hnv_137⟩, ⟨gp_137, hpa_137, hpv_137⟩, hrow_137⟩ := id hK_137
    obtain ⟨gre_137, hPre_137, hre_137, -⟩ := id hR_137
    have lk_137 := hW.lt hk0_137
    have lki_137 := hW.lt hki_137
    have lwa_137 := hW.lt hwa_137
    have lno_137 := hW.lt hno_137
    have lpa_137 := hW.lt hpa_137
    have nk_137 := hJ_13.ne
    have npa_137 := ne_ab hJ_13.dice hpa_137
    have nre_137 := ne_ab hJ_13.dice hre_137
    have nki_137 := ne_ab hJ_13.dice hki_137
    have nwa_137 := ne_ab hJ_13.dice hwa_137
    have nno_137 := ne_ab hJ_13.dice hno_137
    refine q_get hx hb hts hown hA hW iX15 hk0_137 rfl 2 (by decide) (hts (.fieldLink RL 114 "HighRecipesLaw$Kitchen" "spoon" "I") (by decide +kernel)) (fun _ h9 => h9) (v := .int (v 2)) rfl dL_act_137 ?_
    refine lv_istore (lv' := [(4, .int (v 2)), (3, .int (nI j_6)), (0, .ref a), (1, .ref k), (2, .ref r)]) hx hb dL_act_140 hl (by decide) rfl (fun ls hl => ?_)
    refine lv_aload_n hx hb dL_act_142 rfl (lv_at hl 3 rfl) ?_
    refine lv_iconst (v := 1) hx hb dL_act_143 (by decide) ?_
    refine lv_aload_n hx hb dL_act_144 rfl (lv_at hl 4 rfl) ?_
    refine lv_bipush (v := 10) hx hb dL_act_145 (by decide) ?_
    have hlt_147 : ∀ q x, (f_13) q = some x → q < n_13 := fun q x e => hW.lt e
    refine q_ci (va_runV (As := [.int 10]) (rest := [.int 1, .ref k]) ⟨hx, hb, hml, hown, hts⟩ (kX14_next l E f_13 n_13 r 10 s1_13 e0_13 (by omega) (by omega)) (cwV 1 hts gL_act_X14_next rfl rfl rfl (by decide +kernel) ⟨(Nat.le_of_ble_eq_true rfl), (Nat.le_of_ble_eq_true rfl)⟩) (q_pV hA hW hS (ci := 14) rfl e0_13) rfl rfl hl.1 rfl (lv_room (Nat.le_of_ble_eq_true rfl)) dL_act_147 ⟨(by show _ ≤ 101; omega), (by show _ ≤ 2006; omega)⟩) hS (fun r_147 f_147 n_147 H locs hp hW hS => ?_)
    obtain ⟨j_147, s1_147, rfl, e0_147, ej_147, en_147, hfr_147⟩ := hp
    have l_e0_147 := hW.lt e0_147
    have hk_147 : f_147 k = some (cLK (v 0) (v 1) (v 2) (v 3) (some pa_137) (some re_137) (some ki_137) (some wa_137) (some no_137) (v 5) (nI b_137) w_137) := (hfr_147 _ (by omega)).trans hk0_137
    have hpa_2_147 : f_147 pa_2 = some (aQ E 8 pn gp_2) := (hfr_147 _ (by omega)).trans hpa_2_13
    have hre_2_147 : f_147 re_2 = some (aQ E 9 NR gre_2) := (hfr_147 _ (by omega)).trans hre_2_13
    have hpa_137_147 : f_147 pa_137 = some (aQ E 8 pn gp_137) := (hfr_147 _ (by omega)).trans hpa_137
    have hre_137_147 : f_147 re_137 = some (aQ E 9 NR gre_137) := (hfr_147 _ (by omega)).trans hre_137
    have hJ_147 : JA E a c nb r k s1_147 X f_147 n_147 BB pn NR ac hd v v RS := hJ_13.out hlt_147 (fun q h1 h2 => hfr_147 q h2) (Nat.le_of_eq en_147.symm) e0_147 (fun q hq => Or.inl hq)
    refine lv_iadd hx hb dL_act_150 ?_
    rw [show 1 + nI j_147 = nI (1 + j_147) from nI_add 1 j_147]
    obtain ⟨P_151, pa_151, re_151, ki_151, wa_151, no_151, pr_151, b_151, w_151, hK_151, hs_151, hR_151, hO_151, hXk_151, hck_151⟩ := hJ_147.k
    obtain ⟨hk0_151, ⟨gk_151, hki_151, hkv_151⟩, ⟨gw_151, hwa_151, hwv_151⟩, ⟨gn_151, hno_151, hnv_151⟩, ⟨gp_151, hpa_151, hpv_151⟩, hrow_151⟩ := id hK_151
    obtain ⟨gre_151, hPre_151, hre_151, -⟩ := id hR_151
    have lk_151 := hW.lt hk0_151
    have lki_151 := hW.lt hki_151
    have lwa_151 := hW.lt hwa_151
    have lno_151 := hW.lt hno_151
    have lpa_151 := hW.lt hpa_151
    have nk_151 := hJ_147.ne
    have npa_151 := ne_ab hJ_147.dice hpa_151
    have nre_151 := ne_ab hJ_147.dice hre_151
    have nki_151 := ne_ab hJ_147.dice hki_151
    have nwa_151 := ne_ab hJ_147.dice hwa_151
    have nno_151 := ne_ab hJ_147.dice hno_151
    refine q_put hx hb hts hown hA hW hS iX15 tyX15 tyX15_ok nmX15 hk0_151 rfl 2 (by decide) (hts (.fieldLink RL 114 "HighRecipesLaw$Kitchen" "spoon" "I") (by decide +kernel)) (fun _ h9 => h9) rfl rfl rfl (Nat.le_of_ble_eq_true rfl) dL_act_151 (fun H locs hW hS => ?_)
    have hW : q_W E (va_up f_147 k (some (cLK (v 0) (v 1) (nI (1 + j_147)) (v 3) (some pa_151) (some re_151) (some ki_151) (some wa_151) (some no_151) (v 5) (nI b_151) w_151))) n_147 H := hW
    obtain ⟨hJ_151, hX_151, -⟩ := hck_151 _ n_147 BB (upd v 2 (nI (1 + j_147)), b_151, w_151) (Nat.le_refl _) ⟨wa_151, no_151, pr_151, (LK.head (b' := b_151) (w' := w_151) hK_151 (v' := upd v 2 (nI (1 + j_147))) rfl (fun q hq => if_neg (by omega))), hs_151, PRN.rf, Nat.le_refl _, (fun z a1 a2 a3 a4 a5 => va_up_ne _ _ a1)⟩ (hgm.spoon (by omega) (by omega))
    refine lv_aload_n hx hb dL_act_154 rfl (lv_at hl 2 rfl) ?_
    refine lv_aload_n hx hb dL_act_155 rfl (lv_at hl 3 rfl) ?_
    refine q_get hx hb hts hown hA hW iX15 q_eq rfl 2 (by decide) (hts (.fieldLink RL 114 "HighRecipesLaw$Kitchen" "spoon" "I") (by decide +kernel)) (fun _ h9 => h9) (v := .int (nI (1 + j_147))) rfl dL_act_156 ?_
    refine q_ci (va_runV (As := [.int (nI (1 + j_147))]) (rest := []) ⟨hx, hb, hml, hown, hts⟩ (ja_setSpoon l E (va_up f_147 k (some (cLK (v 0) (v 1) (nI (1 + j_147)) (v 3) (some pa_151) (some re_151) (some ki_151) (some wa_151) (some no_151) (v 5) (nI b_151) w_151))) n_147 a c nb r k s1_147 X BB pn NR ac hd v (upd v 2 (nI (1 + j_147))) RS (nI (1 + j_147)) hJ_151 (fun q x e => hW.lt e) (b_in1 (L := 10) (by decide) (by omega) (by omega)) (hgm.spoon (by omega) (by omega))) (cwV 1 hts gL_act_X12_setSpoon rfl rfl rfl (by decide +kernel) ⟨(Nat.le_of_ble_eq_true rfl), (Nat.le_of_ble_eq_true rfl)⟩) (q_pV hA hW hS (ci := 12) rfl (Classical.choose_spec (Classical.choose_spec (Classical.choose_spec (Classical.choose_spec (Classical.choose_spec (Classical.choose_spec (Classical.choose_spec hJ_151.cell)))))))) rfl rfl hl.1 rfl (lv_room (Nat.le_of_ble_eq_true rfl)) dL_act_159 ⟨(by show _ ≤ 101; omega), (by show _ ≤ 2006; omega)⟩) hS (fun r_159 f_159 n_159 H locs hp hW hS => ?_)
    obtain ⟨rfl, eJ_159, en_159, hfr_159⟩ := hp
    refine lv_iload hx hb dL_act_162 (lv_at hl 0 rfl) ?_
    refine lv_icmp_ne (tgt := 171) hx hb dL_act_164 (by decide) (fun c_164 => False.elim ((fun h9 => h9 rfl) c_164)) (fun c_164 => ?_)
    refine lv_iconst (v := 1) hx hb dL_act_167 (by decide) ?_
    refine lv_goto (tgt := 172) hx hb dL_act_168 (by decide) ?_
    exact q_zret hx hb hr hlocks hW hS rfl ⟨upd v 2 (nI (1 + j_147)), s1_147, rfl, (eJ_159.more (Nat.le_add_right _ _)), (by omega), (fun _ hq => ((hfr_159 _ hq).trans ((hX_151 _ hq).trans ((hfr_147 _ (hJ_13.xr _ hq)).trans ((hfr_13 _ (hJ_6.xr _ hq)).trans (hfr_6 _ (hJ.xr _ hq)))))))⟩ (by show _ ≤ 101; omega) (by show _ ≤ 2006; omega) dL_act_172
  · rw [show nI j_13 = 3 from by rw [hjv]; decide]
    refine lv_tableIn (x := 3) (off := 157) (tgt := 173) hx hb dL_act_16 (by decide) (by decide) (by decide) (by decide) ?_
    refine lv_iconst (v := 1) hx hb dL_act_173 (by decide) ?_
    refine lv_aload_n hx hb dL_act_174 rfl (lv_at hl 3 rfl) ?_
    refine lv_aload_n hx hb dL_act_175 rfl (lv_at hl 3 rfl) ?_
    refine lv_iconst (v := 3) hx hb dL_act_176 (by decide) ?_
    have hlt_177 : ∀ q x, (f_13) q = some x → q < n_13 := fun q x e => hW.lt e
    refine q_ci (va_runV (As := [.int 3]) (rest := [.ref r, .int 1]) ⟨hx, hb, hml, hown, hts⟩ (kX14_next l E f_13 n_13 r 3 s1_13 e0_13 (by omega) (by omega)) (cwV 1 hts gL_act_X14_next rfl rfl rfl (by decide +kernel) ⟨(Nat.le_of_ble_eq_true rfl), (Nat.le_of_ble_eq_true rfl)⟩) (q_pV hA hW hS (ci := 14) rfl e0_13) rfl rfl hl.1 rfl (lv_room (Nat.le_of_ble_eq_true rfl)) dL_act_177 ⟨(by show _ ≤ 101; omega), (by show _ ≤ 2006; omega)⟩) hS (fun r_177 f_177 n_177 H locs hp hW hS => ?_)
    obtain ⟨j_177, s1_177, rfl, e0_177, ej_177, en_177, hfr_177⟩ := hp
    have l_e0_177 := hW.lt e0_177
    have hk_177 : f_177 k = some (cLK (v 0) (v 1) (v 2) (v 3) (some pa_2) (some re_2) (some ki_2) (some wa_2) (some no_2) (v 5) (nI b_2) w_2) := (hfr_177 _ (by omega)).trans hk_13
    have hpa_2_177 : f_177 pa_2 = some (aQ E 8 pn gp_2) := (hfr_177 _ (by omega)).trans hpa_2_13
    have hre_2_177 : f_177 re_2 = some (aQ E 9 NR gre_2) := (hfr_177 _ (by omega)).trans hre_2_13
    have hJ_177 : JA E a c nb r k s1_177 X f_177 n_177 BB pn NR ac hd v v RS := hJ_13.out hlt_177 (fun q h1 h2 => hfr_177 q h2) (Nat.le_of_eq en_177.symm) e0_177 (fun q hq => Or.inl hq)
    refine lv_if_ne (tgt := 189) hx hb dL_act_180 (by decide) (fun c_180 => ?_) (fun c_180 => ?_)
    · refine lv_bipush (v := 30) hx hb dL_act_189 (by decide) ?_
      have hlt_191 : ∀ q x, (f_177) q = some x → q < n_177 := fun q x e => hW.lt e
      refine q_ci (va_runV (As := [.int 30]) (rest := [.int 1]) ⟨hx, hb, hml, hown, hts⟩ (kX14_next l E f_177 n_177 r 30 s1_177 e0_177 (by omega) (by omega)) (cwV 1 hts gL_act_X14_next rfl rfl rfl (by decide +kernel) ⟨(Nat.le_of_ble_eq_true rfl), (Nat.le_of_ble_eq_true rfl)⟩) (q_pV hA hW hS (ci := 14) rfl e0_177) rfl rfl hl.1 rfl (lv_room (Nat.le_of_ble_eq_true rfl)) dL_act_191 ⟨(by show _ ≤ 101; omega), (by show _ ≤ 2006; omega)⟩) hS (fun r_191 f_191 n_191 H locs hp hW hS => ?_)
      obtain ⟨j_191, s1_191, rfl, e0_191, ej_191, en_191, hfr_191⟩ := hp
      have l_e0_191 := hW.lt e0_191
      have hk_191 : f_191 k = some (cLK (v 0) (v 1) (v 2) (v 3) (some pa_2) (some re_2) (some ki_2) (some wa_2) (some no_2) (v 5) (nI b_2) w_2) := (hfr_191 _ (by omega)).trans hk_177
      have hpa_2_191 : f_191 pa_2 = some (aQ E 8 pn gp_2) := (hfr_191 _ (by omega)).trans hpa_2_177
      have hre_2_191 : f_191 re_2 = some (aQ E 9 NR gre_2) := (hfr_191 _ (by omega)).trans hre_2_177
      have hJ_191 : JA E a c nb r k s1_191 X f_191 n_191 BB pn NR ac hd v v RS := hJ_177.out hlt_191 (fun q h1 h2 => hfr_191 q h2) (Nat.le_of_eq en_191.symm) e0_191 (fun q hq => Or.inl hq)
      refine lv_iadd hx hb dL_act_194 ?_
      rw [show 1 + nI j_191 = nI (1 + j_191) from nI_add 1 j_191]
      refine lv_istore (lv' := [(4, .int (nI (1 + j_191))), (3, .int (nI j_6)), (0, .ref a), (1, .ref k), (2, .ref r)]) hx hb dL_act_195 hl (by decide) rfl (fun ls hl => ?_)
      refine lv_aload_n hx hb dL_act_197 rfl (lv_at hl 2 rfl) ?_
      refine lv_iload_n hx hb dL_act_198 rfl (lv_at hl 1 rfl) ?_
      refine lv_iload hx hb dL_act_199 (lv_at hl 0 rfl) ?_
      refine q_ci (va_runV (As := [.int (nI j_6), .int (nI (1 + j_191))]) (rest := []) ⟨hx, hb, hml, hown, hts⟩ (ja_pourWater l E f_191 n_191 a c nb r k s1_191 X BB pn NR ac hd v v RS j_6 (nI (1 + j_191)) hJ_191 (fun q x e => hW.lt e) ej_6 (b_in1 (L := 200) (by decide) (by omega) (by omega)) (hgm.fill ej_6 (by omega))) (cwV 2 hts gL_act_X12_pourWater rfl rfl rfl (by decide +kernel) ⟨(Nat.le_of_ble_eq_true rfl), (Nat.le_of_ble_eq_true rfl)⟩) (q_pV hA hW hS (ci := 12) rfl (Classical.choose_spec (Classical.choose_spec (Classical.choose_spec (Classical.choose_spec (Classical.choose_spec (Classical.choose_spec (Classical.choose_spec hJ_191.cell)))))))) rfl rfl hl.1 rfl (lv_room (Nat.le_of_ble_eq_true rfl)) dL_act_201 ⟨(by show _ ≤ 101; omega), (by show _ ≤ 2006; omega)⟩) hS (fun r_201 f_201 n_201 H locs hp hW hS => ?_)
      obtain ⟨rfl, eJ_201, en_201, hfr_201⟩ := hp
      refine lv_aload_n hx hb dL_act_204 rfl (lv_at hl 3 rfl) ?_
      refine lv_iload_n hx hb dL_act_205 rfl (lv_at hl 1 rfl) ?_
      refine lv_iconst (v := 0) hx hb dL_act_206 (by decide) ?_
      refine lv_iload hx hb dL_act_207 (lv_at hl 0 rfl) ?_
      obtain ⟨P_209, pa_209, re_209, ki_209, wa_209, no_209, pr_209, b_209, w_209, hK_209, hs_209, hR_209, hO_209, hXk_209, hck_209⟩ := eJ_201.k
      obtain ⟨hk0_209, ⟨gk_209, hki_209, hkv_209⟩, ⟨gw_209, hwa_209, hwv_209⟩, ⟨gn_209, hno_209, hnv_209⟩, ⟨gp_209, hpa_209, hpv_209⟩, hrow_209⟩ := id hK_209
      obtain ⟨gre_209, hPre_209, hre_209, -⟩ := id hR_209
      have lk_209 := hW.lt hk0_209
      have lki_209 := hW.lt hki_209
      have lwa_209 := hW.lt hwa_209
      have lno_209 := hW.lt hno_209
      have lpa_209 := hW.lt hpa_209
      have nk_209 := eJ_201.ne
      have npa_209 := ne_ab eJ_201.dice hpa_209
      have nre_209 := ne_ab eJ_201.dice hre_209
      have nki_209 := ne_ab eJ_201.dice hki_209
      have nwa_209 := ne_ab eJ_201.dice hwa_209
      have nno_209 := ne_ab eJ_201.dice hno_209
      have hr8 := eJ_201.dice
      have lr8 := hW.lt hr8
      refine q_ci (va_runV (As := [.int (nI j_6), .int 0, .int (nI (1 + j_191))]) (rest := [.int (z_frv hd v j_6 (nI (1 + j_191)))]) ⟨hx, hb, hml, hown, hts⟩ (kX15_pour_0 l E f_201 n_201 k pa_209 re_209 ki_209 wa_209 no_209 pn pr_209 hd v b_209 w_209 j_6 (nI (1 + j_191)) hK_209 hs_209 ej_6 (by omega) hvo.v (nI_pos' (by omega)) (hvo.room ej_6)) (cwV 3 hts gL_act_X15_pour rfl rfl rfl (by decide +kernel) ⟨(Nat.le_of_ble_eq_true rfl), (Nat.le_of_ble_eq_true rfl)⟩) (q_pV hA hW hS (ci := 15) rfl hk0_209) rfl rfl hl.1 rfl (lv_room (Nat.le_of_ble_eq_true rfl)) dL_act_209 ⟨(by show _ ≤ 101; omega), (by show _ ≤ 2006; omega)⟩) hS (fun r_209 f_209 n_209 H locs hp hW hS => ?_)
      obtain ⟨rfl, eK_209, en_209, hfr_209⟩ := hp
      obtain ⟨hJ_209, hX_209, hnn_209⟩ := hck_209 f_209 n_209 (BB) ((z_fillv hd v j_6 0 (nI (1 + j_191)), b_209, w_209)) (by omega) ⟨wa_209, no_209, pr_209, eK_209, hs_209, PRN.rf, (by omega), (fun z a1 a2 a3 a4 a5 => hfr_209 z (a4 _ ej_6))⟩ (hgm.fill ej_6 (by omega))
      refine lv_icmp_ne (tgt := 219) hx hb dL_act_212 (by decide) (fun c_212 => False.elim ((fun h9 => h9 rfl) c_212)) (fun c_212 => ?_)
      refine lv_iconst (v := 1) hx hb dL_act_215 (by decide) ?_
      refine lv_goto (tgt := 220) hx hb dL_act_216 (by decide) ?_
      exact q_zret hx hb hr hlocks hW hS rfl ⟨z_fillv hd v j_6 0 (nI (1 + j_191)), s1_191, rfl, (hJ_209.more (Nat.le_add_right _ _)), (by omega), (fun _ hq => ((hX_209 _ hq).trans ((hfr_201 _ hq).trans ((hfr_191 _ (hJ_177.xr _ hq)).trans ((hfr_177 _ (hJ_13.xr _ hq)).trans ((hfr_13 _ (hJ_6.xr _ hq)).trans (hfr_6 _ (hJ.xr _ hq))))))))⟩ (by show _ ≤ 101; omega) (by show _ ≤ 2006; omega) dL_act_220
    · refine lv_sipush (v := 200) hx hb dL_act_183 (by decide) ?_
      refine lv_goto (tgt := 191) hx hb dL_act_186 (by decide) ?_
      have hlt_191 : ∀ q x, (f_177) q = some x → q < n_177 := fun q x e => hW.lt e
      refine q_ci (va_runV (As := [.int 200]) (rest := [.int 1]) ⟨hx, hb, hml, hown, hts⟩ (kX14_next l E f_177 n_177 r 200 s1_177 e0_177 (by omega) (by omega)) (cwV 1 hts gL_act_X14_next rfl rfl rfl (by decide +kernel) ⟨(Nat.le_of_ble_eq_true rfl), (Nat.le_of_ble_eq_true rfl)⟩) (q_pV hA hW hS (ci := 14) rfl e0_177) rfl rfl hl.1 rfl (lv_room (Nat.le_of_ble_eq_true rfl)) dL_act_191 ⟨(by show _ ≤ 101; omega), (by show _ ≤ 2006; omega)⟩) hS (fun r_191 f_191 n_191 H locs hp hW hS => ?_)
      obtain ⟨j_191, s1_191, rfl, e0_191, ej_191, en_191, hfr_191⟩ := hp
      have l_e0_191 := hW.lt e0_191
      have hk_191 : f_191 k = some (cLK (v 0) (v 1) (v 2) (v 3) (some pa_2) (some re_2) (some ki_2) (some wa_2) (some no_2) (v 5) (nI b_2) w_2) := (hfr_191 _ (by omega)).trans hk_177
      have hpa_2_191 : f_191 pa_2 = some (aQ E 8 pn gp_2) := (hfr_191 _ (by omega)).trans hpa_2_177
      have hre_2_191 : f_191 re_2 = some (aQ E 9 NR gre_2) := (hfr_191 _ (by omega)).trans hre_2_177
      have hJ_191 : JA E a c nb r k s1_191 X f_191 n_191 BB pn NR ac hd v v RS := hJ_177.out hlt_191 (fun q h1 h2 => hfr_191 q h2) (Nat.le_of_eq en_191.symm) e0_191 (fun q hq => Or.inl hq)
      refine lv_iadd hx hb dL_act_194 ?_
      rw [show 1 + nI j_191 = nI (1 + j_191) from nI_add 1 j_191]
      refine lv_istore (lv' := [(4, .int (nI (1 + j_191))), (3, .int (nI j_6)), (0, .ref a), (1, .ref k), (2, .ref r)]) hx hb dL_act_195 hl (by decide) rfl (fun ls hl => ?_)
      refine lv_aload_n hx hb dL_act_197 rfl (lv_at hl 2 rfl) ?_
      refine lv_iload_n hx hb dL_act_198 rfl (lv_at hl 1 rfl) ?_
      refine lv_iload hx hb dL_act_199 (lv_at hl 0 rfl) ?_
      refine q_ci (va_runV (As := [.int (nI j_6), .int (nI (1 + j_191))]) (rest := []) ⟨hx, hb, hml, hown, hts⟩ (ja_pourWater l E f_191 n_191 a c nb r k s1_191 X BB pn NR ac hd v v RS j_6 (nI (1 + j_191)) hJ_191 (fun q x e => hW.lt e) ej_6 (b_in1 (L := 200) (by decide) (by omega) (by omega)) (hgm.fill ej_6 (by omega))) (cwV 2 hts gL_act_X12_pourWater rfl rfl rfl (by decide +kernel) ⟨(Nat.le_of_ble_eq_true rfl), (Nat.le_of_ble_eq_true rfl)⟩) (q_pV hA hW hS (ci := 12) rfl (Classical.choose_spec (Classical.choose_spec (Classical.choose_spec (Classical.choose_spec (Classical.choose_spec (Classical.choose_spec (Classical.choose_spec hJ_191.cell)))))))) rfl rfl hl.1 rfl (lv_room (Nat.le_of_ble_eq_true rfl)) dL_act_201 ⟨(by show _ ≤ 101; omega), (by show _ ≤ 2006; omega)⟩) hS (fun r_201 f_201 n_201 H locs hp hW hS => ?_)
      obtain ⟨rfl, eJ_201, en_201, hfr_201⟩ := hp
      refine lv_aload_n hx hb dL_act_204 rfl (lv_at hl 3 rfl) ?_
      refine lv_iload_n hx hb dL_act_205 rfl (lv_at hl 1 rfl) ?_
      refine lv_iconst (v := 0) hx hb dL_act_206 (by decide) ?_
      refine lv_iload hx hb dL_act_207 (lv_at hl 0 rfl) ?_
      obtain ⟨P_209, pa_209, re_209, ki_209, wa_209, no_209, pr_209, b_209, w_209, hK_209, hs_209, hR_209, hO_209, hXk_209, hck_209⟩ := eJ_201.k
      obtain ⟨hk0_209, ⟨gk_209, hki_209, hkv_209⟩, ⟨gw_209, hwa_209, hwv_209⟩, ⟨gn_209, hno_209, hnv_209⟩, ⟨gp_209, hpa_209, hpv_209⟩, hrow_209⟩ := id hK_209
      obtain ⟨gre_209, hPre_209, hre_209, -⟩ := id hR_209
      have lk_209 := hW.lt hk0_209
      have lki_209 := hW.lt hki_209
      have lwa_209 := hW.lt hwa_209
      have lno_209 := hW.lt hno_209
      have lpa_209 := hW.lt hpa_209
      have nk_209 := eJ_201.ne
      have npa_209 := ne_ab eJ_201.dice hpa_209
      have nre_209 := ne_ab eJ_201.dice hre_209
      have nki_209 := ne_ab eJ_201.dice hki_209
      have nwa_209 := ne_ab eJ_201.dice hwa_209
      have nno_209 := ne_ab eJ_201.dice hno_209
      have hr8 := eJ_201.dice
      have lr8 := hW.lt hr8
      refine q_ci (va_runV (As := [.int (nI j_6), .int 0, .int (nI (1 + j_191))]) (rest := [.int (z_frv hd v j_6 (nI (1 + j_191)))]) ⟨hx, hb, hml, hown, hts⟩ (kX15_pour_0 l E f_201 n_201 k pa_209 re_209 ki_209 wa_209 no_209 pn pr_209 hd v b_209 w_209 j_6 (nI (1 + j_191)) hK_209 hs_209 ej_6 (by omega) hvo.v (nI_pos' (by omega)) (hvo.room ej_6)) (cwV 3 hts gL_act_X15_pour rfl rfl rfl (by decide +kernel) ⟨(Nat.le_of_ble_eq_true rfl), (Nat.le_of_ble_eq_true rfl)⟩) (q_pV hA hW hS (ci := 15) rfl hk0_209) rfl rfl hl.1 rfl (lv_room (Nat.le_of_ble_eq_true rfl)) dL_act_209 ⟨(by show _ ≤ 101; omega), (by show _ ≤ 2006; omega)⟩) hS (fun r_209 f_209 n_209 H locs hp hW hS => ?_)
      obtain ⟨rfl, eK_209, en_209, hfr_209⟩ := hp
      obtain ⟨hJ_209, hX_209, hnn_209⟩ := hck_209 f_209 n_209 (BB) ((z_fillv hd v j_6 0 (nI (1 + j_191)), b_209, w_209)) (by omega) ⟨wa_209, no_209, pr_209, eK_209, hs_209, PRN.rf, (by omega), (fun z a1 a2 a3 a4 a5 => hfr_209 z (a4 _ ej_6))⟩ (hgm.fill ej_6 (by omega))
      refine lv_icmp_ne (tgt := 219) hx hb dL_act_212 (by decide) (fun c_212 => False.elim ((fun h9 => h9 rfl) c_212)) (fun c_212 => ?_)
      refine lv_iconst (v := 1) hx hb dL_act_215 (by decide) ?_
      refine lv_goto (tgt := 220) hx hb dL_act_216 (by decide) ?_
      exact q_zret hx hb hr hlocks hW hS rfl ⟨z_fillv hd v j_6 0 (nI (1 + j_191)), s1_191, rfl, (hJ_209.more (Nat.le_add_right _ _)), (by omega), (fun _ hq => ((hX_209 _ hq).trans ((hfr_201 _ hq).trans ((hfr_191 _ (hJ_177.xr _ hq)).trans ((hfr_177 _ (hJ_13.xr _ hq)).trans ((hfr_13 _ (hJ_6.xr _ hq)).trans (hfr_6 _ (hJ.xr _ hq))))))))⟩ (by show _ ≤ 101; omega) (by show _ ≤ 2006; omega) dL_act_220
  · rw [show nI j_13 = 4 from by rw [hjv]; decide]
    refine lv_tableIn (x := 4) (off := 157) (tgt := 173) hx hb dL_act_16 (by decide) (by decide) (by decide) (by decide) ?_
    refine lv_iconst (v := 1) hx hb dL_act_173 (by decide) ?_
    refine lv_aload_n hx hb dL_act_174 rfl (lv_at hl 3 rfl) ?_
    refine lv_aload_n hx hb dL_act_175 rfl (lv_at hl 3 rfl) ?_
    refine lv_iconst (v := 3) hx hb dL_act_176 (by decide) ?_
    have hlt_177 : ∀ q x, (f_13) q = some x → q < n_13 := fun q x e => hW.lt e
    refine q_ci (va_runV (As := [.int 3]) (rest := [.ref r, .int 1]) ⟨hx, hb, hml, hown, hts⟩ (kX14_next l E f_13 n_13 r 3 s1_13 e0_13 (by omega) (by omega)) (cwV 1 hts gL_act_X14_next rfl rfl rfl (by decide +kernel) ⟨(Nat.le_of_ble_eq_true rfl), (Nat.le_of_ble_eq_true rfl)⟩) (q_pV hA hW hS (ci := 14) rfl e0_13) rfl rfl hl.1 rfl (lv_room (Nat.le_of_ble_eq_true rfl)) dL_act_177 ⟨(by show _ ≤ 101; omega), (by show _ ≤ 2006; omega)⟩) hS (fun r_177 f_177 n_177 H locs hp hW hS => ?_)
    obtain ⟨j_177, s1_177, rfl, e0_177, ej_177, en_177, hfr_177⟩ := hp
    have l_e0_177 := hW.lt e0_177
    have hk_177 : f_177 k = some (cLK (v 0) (v 1) (v 2) (v 3) (some pa_2) (some re_2) (some ki_2) (some wa_2) (some no_2) (v 5) (nI b_2) w_2) := (hfr_177 _ (by omega)).trans hk_13
    have hpa_2_177 : f_177 pa_2 = some (aQ E 8 pn gp_2) := (hfr_177 _ (by omega)).trans hpa_2_13
    have hre_2_177 : f_177 re_2 = some (aQ E 9 NR gre_2) := (hfr_177 _ (by omega)).trans hre_2_13
    have hJ_177 : JA E a c nb r k s1_177 X f_177 n_177 BB pn NR ac hd v v RS := hJ_13.out hlt_177 (fun q h1 h2 => hfr_177 q h2) (Nat.le_of_eq en_177.symm) e0_177 (fun q hq => Or.inl hq)
    refine lv_if_ne (tgt := 189) hx hb dL_act_180 (by decide) (fun c_180 => ?_) (fun c_180 => ?_)
    · refine lv_bipush (v := 30) hx hb dL_act_189 (by decide) ?_
      have hlt_191 : ∀ q x, (f_177) q = some x → q < n_177 := fun q x e => hW.lt e
      refine q_ci (va_runV (As := [.int 30]) (rest := [.int 1]) ⟨hx, hb, hml, hown, hts⟩ (kX14_next l E f_177 n_177 r 30 s1_177 e0_177 (by omega) (by omega)) (cwV 1 hts gL_act_X14_next rfl rfl rfl (by decide +kernel) ⟨(Nat.le_of_ble_eq_true rfl), (Nat.le_of_ble_eq_true rfl)⟩) (q_pV hA hW hS (ci := 14) rfl e0_177) rfl rfl hl.1 rfl (lv_room (Nat.le_of_ble_eq_true rfl)) dL_act_191 ⟨(by show _ ≤ 101; omega), (by show _ ≤ 2006; omega)⟩) hS (fun r_191 f_191 n_191 H locs hp hW hS => ?_)
      obtain ⟨j_191, s1_191, rfl, e0_191, ej_191, en_191, hfr_191⟩ := hp
      have l_e0_191 := hW.lt e0_191
      have hk_191 : f_191 k = some (cLK (v 0) (v 1) (v 2) (v 3) (some pa_2) (some re_2) (some ki_2) (some wa_2) (some no_2) (v 5) (nI b_2) w_2) := (hfr_191 _ (by omega)).trans hk_177
      have hpa_2_191 : f_191 pa_2 = some (aQ E 8 pn gp_2) := (hfr_191 _ (by omega)).trans hpa_2_177
      have hre_2_191 : f_191 re_2 = some (aQ E 9 NR gre_2) := (hfr_191 _ (by omega)).trans hre_2_177
      have hJ_191 : JA E a c nb r k s1_191 X f_191 n_191 BB pn NR ac hd v v RS := hJ_177.out hlt_191 (fun q h1 h2 => hfr_191 q h2) (Nat.le_of_eq en_191.symm) e0_191 (fun q hq => Or.inl hq)
      refine lv_iadd hx hb dL_act_194 ?_
      rw [show 1 + nI j_191 = nI (1 + j_191) from nI_add 1 j_191]
      refine lv_istore (lv' := [(4, .int (nI (1 + j_191))), (3, .int (nI j_6)), (0, .ref a), (1, .ref k), (2, .ref r)]) hx hb dL_act_195 hl (by decide) rfl (fun ls hl => ?_)
      refine lv_aload_n hx hb dL_act_197 rfl (lv_at hl 2 rfl) ?_
      refine lv_iload_n hx hb dL_act_198 rfl (lv_at hl 1 rfl) ?_
      refine lv_iload hx hb dL_act_199 (lv_at hl 0 rfl) ?_
      refine q_ci (va_runV (As := [.int (nI j_6), .int (nI (1 + j_191))]) (rest := []) ⟨hx, hb, hml, hown, hts⟩ (ja_pourWater l E f_191 n_191 a c nb r k s1_191 X BB pn NR ac hd v v RS j_6 (nI (1 + j_191)) hJ_191 (fun q x e => hW.lt e) ej_6 (b_in1 (L := 200) (by decide) (by omega) (by omega)) (hgm.fill ej_6 (by omega))) (cwV 2 hts gL_act_X12_pourWater rfl rfl rfl (by decide +kernel) ⟨(Nat.le_of_ble_eq_true rfl), (Nat.le_of_ble_eq_true rfl)⟩) (q_pV hA hW hS (ci := 12) rfl (Classical.choose_spec (Classical.choose_spec (Classical.choose_spec (Classical.choose_spec (Classical.choose_spec (Classical.choose_spec (Classical.choose_spec hJ_191.cell)))))))) rfl rfl hl.1 rfl (lv_room (Nat.le_of_ble_eq_true rfl)) dL_act_201 ⟨(by show _ ≤ 101; omega), (by show _ ≤ 2006; omega)⟩) hS (fun r_201 f_201 n_201 H locs hp hW hS => ?_)
      obtain ⟨rfl, eJ_201, en_201, hfr_201⟩ := hp
      refine lv_aload_n hx hb dL_act_204 rfl (lv_at hl 3 rfl) ?_
      refine lv_iload_n hx hb dL_act_205 rfl (lv_at hl 1 rfl) ?_
      refine lv_iconst (v := 0) hx hb dL_act_206 (by decide) ?_
      refine lv_iload hx hb dL_act_207 (lv_at hl 0 rfl) ?_
      obtain ⟨P_209, pa_209, re_209, ki_209, wa_209, no_209, pr_209, b_209, w_209, hK_209, hs_209, hR_209, hO_209, hXk_209, hck_209⟩ := eJ_201.k
      obtain ⟨hk0_209, ⟨gk_209, hki_209, hkv_209⟩, ⟨gw_209, hwa_209, hwv_209⟩, ⟨gn_209, hno_209, hnv_209⟩, ⟨gp_209, hpa_209, hpv_209⟩, hrow_209⟩ := id hK_209
      obtain ⟨gre_209, hPre_209, hre_209, -⟩ := id hR_209
      have lk_209 := hW.lt hk0_209
      have lki_209 := hW.lt hki_209
      have lwa_209 := hW.lt hwa_209
      have lno_209 := hW.lt hno_209
      have lpa_209 := hW.lt hpa_209
      have nk_209 := eJ_201.ne
      have npa_209 := ne_ab eJ_201.dice hpa_209
      have nre_209 := ne_ab eJ_201.dice hre_209
      have nki_209 := ne_ab eJ_201.dice hki_209
      have nwa_209 := ne_ab eJ_201.dice hwa_209
      have nno_209 := ne_ab eJ_201.dice hno_209
      have hr8 := eJ_201.dice
      have lr8 := hW.lt hr8
      refine q_ci (va_runV (As := [.int (nI j_6), .int 0, .int (nI (1 + j_191))]) (rest := [.int (z_frv hd v j_6 (nI (1 + j_191)))]) ⟨hx, hb, hml, hown, hts⟩ (kX15_pour_0 l E f_201 n_201 k pa_209 re_209 ki_209 wa_209 no_209 pn pr_209 hd v b_209 w_209 j_6 (nI (1 + j_191)) hK_209 hs_209 ej_6 (by omega) hvo.v (nI_pos' (by omega)) (hvo.room ej_6)) (cwV 3 hts gL_act_X15_pour rfl rfl rfl (by decide +kernel) ⟨(Nat.le_of_ble_eq_true rfl), (Nat.le_of_ble_eq_true rfl)⟩) (q_pV hA hW hS (ci := 15) rfl hk0_209) rfl rfl hl.1 rfl (lv_room (Nat.le_of_ble_eq_true rfl)) dL_act_209 ⟨(by show _ ≤ 101; omega), (by show _ ≤ 2006; omega)⟩) hS (fun r_209 f_209 n_209 H locs hp hW hS => ?_)
      obtain ⟨rfl, eK_209, en_209, hfr_209⟩ := hp
      obtain ⟨hJ_209, hX_209, hnn_209⟩ := hck_209 f_209 n_209 (BB) ((z_fillv hd v j_6 0 (nI (1 + j_191)), b_209, w_209)) (by omega) ⟨wa_209, no_209, pr_209, eK_209, hs_209, PRN.rf, (by omega), (fun z a1 a2 a3 a4 a5 => hfr_209 z (a4 _ ej_6))⟩ (hgm.fill ej_6 (by omega))
      refine lv_icmp_ne (tgt := 219) hx hb dL_act_212 (by decide) (fun c_212 => False.elim ((fun h9 => h9 rfl) c_212)) (fun c_212 => ?_)
      refine lv_iconst (v := 1) hx hb dL_act_215 (by decide) ?_
      refine lv_goto (tgt := 220) hx hb dL_act_216 (by decide) ?_
      exact q_zret hx hb hr hlocks hW hS rfl ⟨z_fillv hd v j_6 0 (nI (1 + j_191)), s1_191, rfl, (hJ_209.more (Nat.le_add_right _ _)), (by omega), (fun _ hq => ((hX_209 _ hq).trans ((hfr_201 _ hq).trans ((hfr_191 _ (hJ_177.xr _ hq)).trans ((hfr_177 _ (hJ_13.xr _ hq)).trans ((hfr_13 _ (hJ_6.xr _ hq)).trans (hfr_6 _ (hJ.xr _ hq))))))))⟩ (by show _ ≤ 101; omega) (by show _ ≤ 2006; omega) dL_act_220
    · refine lv_sipush (v := 200) hx hb dL_act_183 (by decide) ?_
      refine lv_goto (tgt := 191) hx hb dL_act_186 (by decide) ?_
      have hlt_191 : ∀ q x, (f_177) q = some x → q < n_177 := fun q x e => hW.lt e
      refine q_ci (va_runV (As := [.int 200]) (rest := [.int 1]) ⟨hx, hb, hml, hown, hts⟩ (kX14_next l E f_177 n_177 r 200 s1_177 e0_177 (by omega) (by omega)) (cwV 1 hts gL_act_X14_next rfl rfl rfl (by decide +kernel) ⟨(Nat.le_of_ble_eq_true rfl), (Nat.le_of_ble_eq_true rfl)⟩) (q_pV hA hW hS (ci := 14) rfl e0_177) rfl rfl hl.1 rfl (lv_room (Nat.le_of_ble_eq_true rfl)) dL_act_191 ⟨(by show _ ≤ 101; omega), (by show _ ≤ 2006; omega)⟩) hS (fun r_191 f_191 n_191 H locs hp hW hS => ?_)
      obtain ⟨j_191, s1_191, rfl, e0_191, ej_191, en_191, hfr_191⟩ := hp
      have l_e0_191 := hW.lt e0_191
      have hk_191 : f_191 k = some (cLK (v 0) (v 1) (v 2) (v 3) (some pa_2) (some re_2) (some ki_2) (some wa_2) (some no_2) (v 5) (nI b_2) w_2) := (hfr_191 _ (by omega)).trans hk_177
      have hpa_2_191 : f_191 pa_2 = some (aQ E 8 pn gp_2) := (hfr_191 _ (by omega)).trans hpa_2_177
      have hre_2_191 : f_191 re_2 = some (aQ E 9 NR gre_2) := (hfr_191 _ (by omega)).trans hre_2_177
      have hJ_191 : JA E a c nb r k s1_191 X f_191 n_191 BB pn NR ac hd v v RS := hJ_177.out hlt_191 (fun q h1 h2 => hfr_191 q h2) (Nat.le_of_eq en_191.symm) e0_191 (fun q hq => Or.inl hq)
      refine lv_iadd hx hb dL_act_194 ?_
      rw [show 1 + nI j_191 = nI (1 + j_191) from nI_add 1 j_191]
      refine lv_istore (lv' := [(4, .int (nI (1 + j_191))), (3, .int (nI j_6)), (0, .ref a), (1, .ref k), (2, .ref r)]) hx hb dL_act_195 hl (by decide) rfl (fun ls hl => ?_)
      refine lv_aload_n hx hb dL_act_197 rfl (lv_at hl 2 rfl) ?_
      refine lv_iload_n hx hb dL_act_198 rfl (lv_at hl 1 rfl) ?_
      refine lv_iload hx hb dL_act_199 (lv_at hl 0 rfl) ?_
      refine q_ci (va_runV (As := [.int (nI j_6), .int (nI (1 + j_191))]) (rest := []) ⟨hx, hb, hml, hown, hts⟩ (ja_pourWater l E f_191 n_191 a c nb r k s1_191 X BB pn NR ac hd v v RS j_6 (nI (1 + j_191)) hJ_191 (fun q x e => hW.lt e) ej_6 (b_in1 (L := 200) (by decide) (by omega) (by omega)) (hgm.fill ej_6 (by omega))) (cwV 2 hts gL_act_X12_pourWater rfl rfl rfl (by decide +kernel) ⟨(Nat.le_of_ble_eq_true rfl), (Nat.le_of_ble_eq_true rfl)⟩) (q_pV hA hW hS (ci := 12) rfl (Classical.choose_spec (Classical.choose_spec (Classical.choose_spec (Classical.choose_spec (Classical.choose_spec (Classical.choose_spec (Classical.choose_spec hJ_191.cell)))))))) rfl rfl hl.1 rfl (lv_room (Nat.le_of_ble_eq_true rfl)) dL_act_201 ⟨(by show _ ≤ 101; omega), (by show _ ≤ 2006; omega)⟩) hS (fun r_201 f_201 n_201 H locs hp hW hS => ?_)
      obtain ⟨rfl, eJ_201, en_201, hfr_201⟩ := hp
      refine lv_aload_n hx hb dL_act_204 rfl (lv_at hl 3 rfl) ?_
      refine lv_iload_n hx hb dL_act_205 rfl (lv_at hl 1 rfl) ?_
      refine lv_iconst (v := 0) hx hb dL_act_206 (by decide) ?_
      refine lv_iload hx hb dL_act_207 (lv_at hl 0 rfl) ?_
      obtain ⟨P_209, pa_209, re_209, ki_209, wa_209, no_209, pr_209, b_209, w_209, hK_209, hs_209, hR_209, hO_209, hXk_209, hck_209⟩ := eJ_201.k
      obtain ⟨hk0_209, ⟨gk_209, hki_209, hkv_209⟩, ⟨gw_209, hwa_209, hwv_209⟩, ⟨gn_209, hno_209, hnv_209⟩, ⟨gp_209, hpa_209, hpv_209⟩, hrow_209⟩ := id hK_209
      obtain ⟨gre_209, hPre_209, hre_209, -⟩ := id hR_209
      have lk_209 := hW.lt hk0_209
      have lki_209 := hW.lt hki_209
      have lwa_209 := hW.lt hwa_209
      have lno_209 := hW.lt hno_209
      have lpa_209 := hW.lt hpa_209
      have nk_209 := eJ_201.ne
      have npa_209 := ne_ab eJ_201.dice hpa_209
      have nre_209 := ne_ab eJ_201.dice hre_209
      have nki_209 := ne_ab eJ_201.dice hki_209
      have nwa_209 := ne_ab eJ_201.dice hwa_209
      have nno_209 := ne_ab eJ_201.dice hno_209
      have hr8 := eJ_201.dice
      have lr8 := hW.lt hr8
      refine q_ci (va_runV (As := [.int (nI j_6), .int 0, .int (nI (1 + j_191))]) (rest := [.int (z_frv hd v j_6 (nI (1 + j_191)))]) ⟨hx, hb, hml, hown, hts⟩ (kX15_pour_0 l E f_201 n_201 k pa_209 re_209 ki_209 wa_209 no_209 pn pr_209 hd v b_209 w_209 j_6 (nI (1 + j_191)) hK_209 hs_209 ej_6 (by omega) hvo.v (nI_pos' (by omega)) (hvo.room ej_6)) (cwV 3 hts gL_act_X15_pour rfl rfl rfl (by decide +kernel) ⟨(Nat.le_of_ble_eq_true rfl), (Nat.le_of_ble_eq_true rfl)⟩) (q_pV hA hW hS (ci := 15) rfl hk0_209) rfl rfl hl.1 rfl (lv_room (Nat.le_of_ble_eq_true rfl)) dL_act_209 ⟨(by show _ ≤ 101; omega), (by show _ ≤ 2006; omega)⟩) hS (fun r_209 f_209 n_209 H locs hp hW hS => ?_)
      obtain ⟨rfl, eK_209, en_209, hfr_209⟩ := hp
      obtain ⟨hJ_209, hX_209, hnn_209⟩ := hck_209 f_209 n_209 (BB) ((z_fillv hd v j_6 0 (nI (1 + j_191)), b_209, w_209)) (by omega) ⟨wa_209, no_209, pr_209, eK_209, hs_209, PRN.rf, (by omega), (fun z a1 a2 a3 a4 a5 => hfr_209 z (a4 _ ej_6))⟩ (hgm.fill ej_6 (by omega))
      refine lv_icmp_ne (tgt := 219) hx hb dL_act_212 (by decide) (fun c_212 => False.elim ((fun h9 => h9 rfl) c_212)) (fun c_212 => ?_)
      refine lv_iconst (v := 1) hx hb dL_act_215 (by decide) ?_
      refine lv_goto (tgt := 220) hx hb dL_act_216 (by decide) ?_
      exact q_zret hx hb hr hlocks hW hS rfl ⟨z_fillv hd v j_6 0 (nI (1 + j_191)), s1_191, rfl, (hJ_209.more (Nat.le_add_right _ _)), (by omega), (fun _ hq => ((hX_209 _ hq).trans ((hfr_201 _ hq).trans ((hfr_191 _ (hJ_177.xr _ hq)).trans ((hfr_177 _ (hJ_13.xr _ hq)).trans ((hfr_13 _ (hJ_6.xr _ hq)).trans (hfr_6 _ (hJ.xr _ hq))))))))⟩ (by show _ ≤ 101; omega) (by show _ ≤ 2006; omega) dL_act_220
  · rw [show nI j_13 = 5 from by rw [hjv]; decide]
    refine lv_tableIn (x := 5) (off := 205) (tgt := 221) hx hb dL_act_16 (by decide) (by decide) (by decide) (by decide) ?_
    refine lv_iconst (v := 1) hx hb dL_act_221 (by decide) ?_
    refine lv_aload_n hx hb dL_act_222 rfl (lv_at hl 3 rfl) ?_
    refine lv_bipush (v := 40) hx hb dL_act_223 (by decide) ?_
    have hlt_225 : ∀ q x, (f_13) q = some x → q < n_13 := fun q x e => hW.lt e
    refine q_ci (va_runV (As := [.int 40]) (rest := [.int 1]) ⟨hx, hb, hml, hown, hts⟩ (kX14_next l E f_13 n_13 r 40 s1_13 e0_13 (by omega) (by omega)) (cwV 1 hts gL_act_X14_next rfl rfl rfl (by decide +kernel) ⟨(Nat.le_of_ble_eq_true rfl), (Nat.le_of_ble_eq_true rfl)⟩) (q_pV hA hW hS (ci := 14) rfl e0_13) rfl rfl hl.1 rfl (lv_room (Nat.le_of_ble_eq_true rfl)) dL_act_225 ⟨(by show _ ≤ 101; omega), (by show _ ≤ 2006; omega)⟩) hS (fun r_225 f_225 n_225 H locs hp hW hS => ?_)
    obtain ⟨j_225, s1_225, rfl, e0_225, ej_225, en_225, hfr_225⟩ := hp
    have l_e0_225 := hW.lt e0_225
    have hk_225 : f_225 k = some (cLK (v 0) (v 1) (v 2) (v 3) (some pa_2) (some re_2) (some ki_2) (some wa_2) (some no_2) (v 5) (nI b_2) w_2) := (hfr_225 _ (by omega)).trans hk_13
    have hpa_2_225 : f_225 pa_2 = some (aQ E 8 pn gp_2) := (hfr_225 _ (by omega)).trans hpa_2_13
    have hre_2_225 : f_225 re_2 = some (aQ E 9 NR gre_2) := (hfr_225 _ (by omega)).trans hre_2_13
    have hJ_225 : JA E a c nb r k s1_225 X f_225 n_225 BB pn NR ac hd v v RS := hJ_13.out hlt_225 (fun q h1 h2 => hfr_225 q h2) (Nat.le_of_eq en_225.symm) e0_225 (fun q hq => Or.inl hq)
    refine lv_iadd hx hb dL_act_228 ?_
    rw [show 1 + nI j_225 = nI (1 + j_225) from nI_add 1 j_225]
    refine lv_istore (lv' := [(4, .int (nI (1 + j_225))), (3, .int (nI j_6)), (0, .ref a), (1, .ref k), (2, .ref r)]) hx hb dL_act_229 hl (by decide) rfl (fun ls hl => ?_)
    refine lv_aload_n hx hb dL_act_231 rfl (lv_at hl 2 rfl) ?_
    refine lv_iload_n hx hb dL_act_232 rfl (lv_at hl 1 rfl) ?_
    refine lv_iload hx hb dL_act_233 (lv_at hl 0 rfl) ?_
    refine q_ci (va_runV (As := [.int (nI j_6), .int (nI (1 + j_225))]) (rest := []) ⟨hx, hb, hml, hown, hts⟩ (ja_pourMeal l E f_225 n_225 a c nb r k s1_225 X BB pn NR ac hd v v RS j_6 (nI (1 + j_225)) hJ_225 (fun q x e => hW.lt e) ej_6 (b_in1 (L := 200) (by decide) (by omega) (by omega)) (hgm.fill ej_6 (by omega))) (cwV 2 hts gL_act_X12_pourMeal rfl rfl rfl (by decide +kernel) ⟨(Nat.le_of_ble_eq_true rfl), (Nat.le_of_ble_eq_true rfl)⟩) (q_pV hA hW hS (ci := 12) rfl (Classical.choose_spec (Classical.choose_spec (Classical.choose_spec (Classical.choose_spec (Classical.choose_spec (Classical.choose_spec (Classical.choose_spec hJ_225.cell)))))))) rfl rfl hl.1 rfl (lv_room (Nat.le_of_ble_eq_true rfl)) dL_act_235 ⟨(by show _ ≤ 101; omega), (by show _ ≤ 2006; omega)⟩) hS (fun r_235 f_235 n_235 H locs hp hW hS => ?_)
    obtain ⟨rfl, eJ_235, en_235, hfr_235⟩ := hp
    refine lv_aload_n hx hb dL_act_238 rfl (lv_at hl 3 rfl) ?_
    refine lv_iload_n hx hb dL_act_239 rfl (lv_at hl 1 rfl) ?_
    refine lv_iconst (v := 1) hx hb dL_act_240 (by decide) ?_
    refine lv_iload hx hb dL_act_241 (lv_at hl 0 rfl) ?_
    obtain ⟨P_243, pa_243, re_243, ki_243, wa_243, no_243, pr_243, b_243, w_243, hK_243, hs_243, hR_243, hO_243, hXk_243, hck_243⟩ := eJ_235.k
    obtain ⟨hk0_243, ⟨gk_243, hki_243, hkv_243⟩, ⟨gw_243, hwa_243, hwv_243⟩, ⟨gn_243, hno_243, hnv_243⟩, ⟨gp_243, hpa_243, hpv_243⟩, hrow_243⟩ := id hK_243
    obtain ⟨gre_243, hPre_243, hre_243, -⟩ := id hR_243
    have lk_243 := hW.lt hk0_243
    have lki_243 := hW.lt hki_243
    have lwa_243 := hW.lt hwa_243
    have lno_243 := hW.lt hno_243
    have lpa_243 := hW.lt hpa_243
    have nk_243 := eJ_235.ne
    have npa_243 := ne_ab eJ_235.dice hpa_243
    have nre_243 := ne_ab eJ_235.dice hre_243
    have nki_243 := ne_ab eJ_235.dice hki_243
    have nwa_243 := ne_ab eJ_235.dice hwa_243
    have nno_243 := ne_ab eJ_235.dice hno_243
    have hr8 := eJ_235.dice
    have lr8 := hW.lt hr8
    refine q_ci (va_runV (As := [.int (nI j_6), .int 1, .int (nI (1 + j_225))]) (rest := [.int (z_frv hd v j_6 (nI (1 + j_225)))]) ⟨hx, hb, hml, hown, hts⟩ (kX15_pour_1 l E f_235 n_235 k pa_243 re_243 ki_243 wa_243 no_243 pn pr_243 hd v b_243 w_243 j_6 (nI (1 + j_225)) hK_243 hs_243 ej_6 (by omega) hvo.v (nI_pos' (by omega)) (hvo.room ej_6)) (cwV 3 hts gL_act_X15_pour rfl rfl rfl (by decide +kernel) ⟨(Nat.le_of_ble_eq_true rfl), (Nat.le_of_ble_eq_true rfl)⟩) (q_pV hA hW hS (ci := 15) rfl hk0_243) rfl rfl hl.1 rfl (lv_room (Nat.le_of_ble_eq_true rfl)) dL_act_243 ⟨(by show _ ≤ 101; omega), (by show _ ≤ 2006; omega)⟩) hS (fun r_243 f_243 n_243 H locs hp hW hS => ?_)
    obtain ⟨rfl, eK_243, en_243, hfr_243⟩ := hp
    obtain ⟨hJ_243, hX_243, hnn_243⟩ := hck_243 f_243 n_243 (BB) ((z_fillv hd v j_6 1 (nI (1 + j_225)), b_243, w_243)) (by omega) ⟨wa_243, no_243, pr_243, eK_243, hs_243, PRN.rf, (by omega), (fun z a1 a2 a3 a4 a5 => hfr_243 z (a4 _ ej_6))⟩ (hgm.fill ej_6 (by omega))
    refine lv_icmp_ne (tgt := 253) hx hb dL_act_246 (by decide) (fun c_246 => False.elim ((fun h9 => h9 rfl) c_246)) (fun c_246 => ?_)
    refine lv_iconst (v := 1) hx hb dL_act_249 (by decide) ?_
    refine lv_goto (tgt := 254) hx hb dL_act_250 (by decide) ?_
    exact q_zret hx hb hr hlocks hW hS rfl ⟨z_fillv hd v j_6 1 (nI (1 + j_225)), s1_225, rfl, (hJ_243.more (Nat.le_add_right _ _)), (by omega), (fun _ hq => ((hX_243 _ hq).trans ((hfr_235 _ hq).trans ((hfr_225 _ (hJ_13.xr _ hq)).trans ((hfr_13 _ (hJ_6.xr _ hq)).trans (hfr_6 _ (hJ.xr _ hq)))))))⟩ (by show _ ≤ 101; omega) (by show _ ≤ 2006; omega) dL_act_254
  · rw [show nI j_13 = 6 from by rw [hjv]; decide]
    refine lv_tableIn (x := 6) (off := 239) (tgt := 255) hx hb dL_act_16 (by decide) (by decide) (by decide) (by decide) ?_
    refine lv_aload_n hx hb dL_act_255 rfl (lv_at hl 3 rfl) ?_
    refine lv_iconst (v := 3) hx hb dL_act_256 (by decide) ?_
    have hlt_257 : ∀ q x, (f_13) q = some x → q < n_13 := fun q x e => hW.lt e
    refine q_ci (va_runV (As := [.int 3]) (rest := []) ⟨hx, hb, hml, hown, hts⟩ (kX14_next l E f_13 n_13 r 3 s1_13 e0_13 (by omega) (by omega)) (cwV 1 hts gL_act_X14_next rfl rfl rfl (by decide +kernel) ⟨(Nat.le_of_ble_eq_true rfl), (Nat.le_of_ble_eq_true rfl)⟩) (q_pV hA hW hS (ci := 14) rfl e0_13) rfl rfl hl.1 rfl (lv_room (Nat.le_of_ble_eq_true rfl)) dL_act_257 ⟨(by show _ ≤ 101; omega), (by show _ ≤ 2006; omega)⟩) hS (fun r_257 f_257 n_257 H locs hp hW hS => ?_)
    obtain ⟨j_257, s1_257, rfl, e0_257, ej_257, en_257, hfr_257⟩ := hp
    have l_e0_257 := hW.lt e0_257
    have hk_257 : f_257 k = some (cLK (v 0) (v 1) (v 2) (v 3) (some pa_2) (some re_2) (some ki_2) (some wa_2) (some no_2) (v 5) (nI b_2) w_2) := (hfr_257 _ (by omega)).trans hk_13
    have hpa_2_257 : f_257 pa_2 = some (aQ E 8 pn gp_2) := (hfr_257 _ (by omega)).trans hpa_2_13
    have hre_2_257 : f_257 re_2 = some (aQ E 9 NR gre_2) := (hfr_257 _ (by omega)).trans hre_2_13
    have hJ_257 : JA E a c nb r k s1_257 X f_257 n_257 BB pn NR ac hd v v RS := hJ_13.out hlt_257 (fun q h1 h2 => hfr_257 q h2) (Nat.le_of_eq en_257.symm) e0_257 (fun q hq => Or.inl hq)
    refine lv_if_le (tgt := 265) hx hb dL_act_260 (by decide) (fun c_260 => ?_) (fun c_260 => ?_)
    · refine lv_aload_n hx hb dL_act_265 rfl (lv_at hl 2 rfl) ?_
      obtain ⟨P_266, pa_266, re_266, ki_266, wa_266, no_266, pr_266, b_266, w_266, hK_266, hs_266, hR_266, hO_266, hXk_266, hck_266⟩ := hJ_257.k
      obtain ⟨hk0_266, ⟨gk_266, hki_266, hkv_266⟩, ⟨gw_266, hwa_266, hwv_266⟩, ⟨gn_266, hno_266, hnv_266⟩, ⟨gp_266, hpa_266, hpv_266⟩, hrow_266⟩ := id hK_266
      obtain ⟨gre_266, hPre_266, hre_266, -⟩ := id hR_266
      have lk_266 := hW.lt hk0_266
      have lki_266 := hW.lt hki_266
      have lwa_266 := hW.lt hwa_266
      have lno_266 := hW.lt hno_266
      have lpa_266 := hW.lt hpa_266
      have nk_266 := hJ_257.ne
      have npa_266 := ne_ab hJ_257.dice hpa_266
      have nre_266 := ne_ab hJ_257.dice hre_266
      have nki_266 := ne_ab hJ_257.dice hki_266
      have nwa_266 := ne_ab hJ_257.dice hwa_266
      have nno_266 := ne_ab hJ_257.dice hno_266
      obtain ⟨gr_266, hr_266, hg0_266, hg1_266, hg2_266, hg3_266, hg4_266⟩ := hrow_266 j_6 ej_6
      have lpr_266 := hW.lt hr_266
      have hltw := fun q x (e : (f_257) q = some x) => hW.lt e
      refine q_get hx hb hts hown hA hW iX15 hk0_266 rfl 4 (by decide) (hts (.fieldLink RL 58 "HighRecipesLaw$Kitchen" "pans" "[[I") (by decide +kernel)) (fun _ h9 => h9) (v := .ref pa_266) rfl dL_act_266 ?_
      refine lv_iload_n hx hb dL_act_269 rfl (lv_at hl 0 rfl) ?_
      refine q_aaldA hx hb hA hW 8 rfl hpa_266 (vp_in_nI ej_6 (by omega)) dL_act_270 ?_
      rw [show gp_266 (nI j_6).toNatClampNeg = some (pr_266 j_6) from by rw [nI_clamp (by omega)]; exact hpv_266 j_6 ej_6]
      refine lv_iconst (v := 1) hx hb dL_act_271 (by decide) ?_
      refine q_iald hx hb hA hW hr_266 (vp_in_nI (by decide) (by decide)) dL_act_272 ?_
      rw [show gr_266 (1 : Int32).toNatClampNeg = v (52 + 4 * j_6) from hg1_266]
      refine lv_aload_n hx hb dL_act_273 rfl (lv_at hl 2 rfl) ?_
      refine q_get hx hb hts hown hA hW iX15 hk0_266 rfl 4 (by decide) (hts (.fieldLink RL 58 "HighRecipesLaw$Kitchen" "pans" "[[I") (by decide +kernel)) (fun _ h9 => h9) (v := .ref pa_266) rfl dL_act_274 ?_
      refine lv_iload_n hx hb dL_act_277 rfl (lv_at hl 0 rfl) ?_
      refine q_aaldA hx hb hA hW 8 rfl hpa_266 (vp_in_nI ej_6 (by omega)) dL_act_278 ?_
      rw [show gp_266 (nI j_6).toNatClampNeg = some (pr_266 j_6) from by rw [nI_clamp (by omega)]; exact hpv_266 j_6 ej_6]
      refine lv_iconst (v := 2) hx hb dL_act_279 (by decide) ?_
      refine q_iald hx hb hA hW hr_266 (vp_in_nI (by decide) (by decide)) dL_act_280 ?_
      rw [show gr_266 (2 : Int32).toNatClampNeg = v (53 + 4 * j_6) from hg2_266]
      refine lv_iadd hx hb dL_act_281 ?_
      refine lv_istore (lv' := [(4, .int ((v (52 + 4 * j_6)) + (v (53 + 4 * j_6)))), (3, .int (nI j_6)), (0, .ref a), (1, .ref k), (2, .ref r)]) hx hb dL_act_282 hl (by decide) rfl (fun ls hl => ?_)
      refine lv_aload_n hx hb dL_act_284 rfl (lv_at hl 3 rfl) ?_
      refine q_get hx hb hts hown hA hW iX15 hk0_266 rfl 4 (by decide) (hts (.fieldLink RL 58 "HighRecipesLaw$Kitchen" "pans" "[[I") (by decide +kernel)) (fun _ h9 => h9) (v := .ref pa_266) rfl dL_act_285 ?_
      refine lv_iload_n hx hb dL_act_288 rfl (lv_at hl 1 rfl) ?_
      refine lv_iconst (v := 5) hx hb dL_act_289 (by decide) ?_
      refine q_newa (atype := .int) hx hb hA hW hS (hts (.arrayClass .int) (by decide +kernel)) (ty := .int) rfl 0 rfl (fun C h9 => by cases h9) (N' := 5) (a0 := (5, .inl (fun _ => 0))) (fun _ => rfl) (by decide) (by decide) (Nat.le_of_ble_eq_true rfl) (by show _ ≤ 101; omega) (by show _ ≤ 2006; omega) dL_act_290 (fun H hW hS => ?_)
      have hW : q_W E (va_up f_257 n_257 (some (aI E 5 (fun _ => 0)))) (n_257 + 1) H := hW
      refine lv_dup hx hb dL_act_292 rfl ?_
      refine lv_iconst (v := 0) hx hb dL_act_293 (by decide) ?_
      refine lv_aload_n hx hb dL_act_294 rfl (lv_at hl 3 rfl) ?_
      refine q_get hx hb hts hown hA hW iX15 (q_ne (by omega) hk0_266) rfl 4 (by decide) (hts (.fieldLink RL 58 "HighRecipesLaw$Kitchen" "pans" "[[I") (by decide +kernel)) (fun _ h9 => h9) (v := .ref pa_266) rfl dL_act_295 ?_
      refine lv_iload_n hx hb dL_act_298 rfl (lv_at hl 1 rfl) ?_
      refine q_aaldA hx hb hA hW 8 rfl (q_ne (by omega) hpa_266) (vp_in_nI ej_6 (by omega)) dL_act_299 ?_
      rw [show gp_266 (nI j_6).toNatClampNeg = some (pr_266 j_6) from by rw [nI_clamp (by omega)]; exact hpv_266 j_6 ej_6]
      refine lv_iconst (v := 0) hx hb dL_act_300 (by decide) ?_
      refine q_iald hx hb hA hW (q_ne (by omega) hr_266) (vp_in_nI (by decide) (by decide)) dL_act_301 ?_
      rw [show gr_266 (0 : Int32).toNatClampNeg = hd j_6 from hg0_266]
      refine q_iast hx hb hA hW hS q_eq (vp_in_nI (n := 0) (by decide) (by decide)) dL_act_302 (fun H locs hW hS => ?_)
      rw [show (0 : Int32).toNatClampNeg = 0 from (by decide)] at hW
      rw [q_upup] at hW
      have hW : q_W E (va_up f_257 n_257 (some (aI E 5 (upd (fun _ => 0) 0 (hd j_6))))) (n_257 + 1) H := hW
      refine lv_dup hx hb dL_act_303 rfl ?_
      refine lv_iconst (v := 1) hx hb dL_act_304 (by decide) ?_
      refine lv_iconst (v := 0) hx hb dL_act_305 (by decide) ?_
      refine q_iast hx hb hA hW hS q_eq (vp_in_nI (n := 1) (by decide) (by decide)) dL_act_306 (fun H locs hW hS => ?_)
      rw [show (1 : Int32).toNatClampNeg = 1 from (by decide)] at hW
      rw [q_upup] at hW
      have hW : q_W E (va_up f_257 n_257 (some (aI E 5 (upd (upd (fun _ => 0) 0 (hd j_6)) 1 0)))) (n_257 + 1) H := hW
      refine lv_dup hx hb dL_act_307 rfl ?_
      refine lv_iconst (v := 2) hx hb dL_act_308 (by decide) ?_
      refine lv_iconst (v := 0) hx hb dL_act_309 (by decide) ?_
      refine q_iast hx hb hA hW hS q_eq (vp_in_nI (n := 2) (by decide) (by decide)) dL_act_310 (fun H locs hW hS => ?_)
      rw [show (2 : Int32).toNatClampNeg = 2 from (by decide)] at hW
      rw [q_upup] at hW
      have hW : q_W E (va_up f_257 n_257 (some (aI E 5 (upd (upd (upd (fun _ => 0) 0 (hd j_6)) 1 0) 2 0)))) (n_257 + 1) H := hW
      refine lv_dup hx hb dL_act_311 rfl ?_
      refine lv_iconst (v := 3) hx hb dL_act_312 (by decide) ?_
      refine lv_bipush (v := 20) hx hb dL_act_313 (by decide) ?_
      refine q_iast hx hb hA hW hS q_eq (vp_in_nI (n := 3) (by decide) (by decide)) dL_act_315 (fun H locs hW hS => ?_)
      rw [show (3 : Int32).toNatClampNeg = 3 from (by decide)] at hW
      rw [q_upup] at hW
      have hW : q_W E (va_up f_257 n_257 (some (aI E 5 (upd (upd (upd (upd (fun _ => 0) 0 (hd j_6)) 1 0) 2 0) 3 20)))) (n_257 + 1) H := hW
      refine lv_dup hx hb dL_act_316 rfl ?_
      refine lv_iconst (v := 4) hx hb dL_act_317 (by decide) ?_
      refine lv_iconst (v := 0) hx hb dL_act_318 (by decide) ?_
      refine q_iast hx hb hA hW hS q_eq (vp_in_nI (n := 4) (by decide) (by decide)) dL_act_319 (fun H locs hW hS => ?_)
      rw [show (4 : Int32).toNatClampNeg = 4 from (by decide)] at hW
      rw [q_upup] at hW
      have hW : q_W E (va_up f_257 n_257 (some (aI E 5 (upd (upd (upd (upd (upd (fun _ => 0) 0 (hd j_6)) 1 0) 2 0) 3 20) 4 0)))) (n_257 + 1) H := hW
      refine q_aastA hx hb hA hW hS 8 0 hA.2.2.2.2.2.2.2.2.2.2.2.2.2.1 rfl rfl (q_fc8 hA) (q_ne (by omega) hpa_266) q_eq (vp_in_nI ej_6 (by omega)) dL_act_320 (fun H locs hW hS => ?_)
      rw [show (nI j_6).toNatClampNeg = j_6 from (nI_clamp (by omega))] at hW
      have hW : q_W E (va_up (va_up f_257 n_257 (some (aI E 5 (upd (upd (upd (upd (upd (fun _ => 0) 0 (hd j_6)) 1 0) 2 0) 3 20) 4 0)))) pa_266 (some (aQ E 8 pn (va_up gp_266 j_6 (some n_257))))) (n_257 + 1) H := hW
      obtain ⟨hJ_320, hX_320, -⟩ := hck_266 _ _ BB (z_pan v j_6 0 0 20 0, b_266, w_266) (Nat.le_refl _) ⟨wa_266, no_266, prx pr_266 j_6 n_257, (LK.empty (gr := upd (upd (upd (upd (upd (fun _ => 0) 0 (hd j_6)) 1 0) 2 0) 3 20) 4 0) hK_266 hpa_266 hpv_266 hltw ej_6 (by omega) ((if_neg (by decide)).trans ((if_neg (by decide)).trans ((if_neg (by decide)).trans ((if_neg (by decide)).trans (if_pos rfl))))) ((if_neg (by decide)).trans ((if_neg (by decide)).trans ((if_neg (by decide)).trans (if_pos rfl)))) ((if_neg (by decide)).trans ((if_neg (by decide)).trans (if_pos rfl))) ((if_neg (by decide)).trans (if_pos rfl)) (if_pos rfl)), (LSp.empty hs_266 (by omega) (by omega) (by omega) (fun j hj => hltw _ _ (hrow_266 j hj).choose_spec.1)), PRN.empty, (Nat.le_succ _), (fun z a1 a2 a3 a4 a5 => (va_up_ne _ _ a2).trans (va_up_ne _ _ (by omega)))⟩ (hgm.wash ej_6)
      refine lv_aload_n hx hb dL_act_321 rfl (lv_at hl 2 rfl) ?_
      refine lv_iload_n hx hb dL_act_322 rfl (lv_at hl 1 rfl) ?_
      refine q_ci (va_runV (As := [.int (nI j_6)]) (rest := []) ⟨hx, hb, hml, hown, hts⟩ (ja_wash l E (va_up (va_up f_257 n_257 (some (aI E 5 (upd (upd (upd (upd (upd (fun _ => 0) 0 (hd j_6)) 1 0) 2 0) 3 20) 4 0)))) pa_266 (some (aQ E 8 pn (va_up gp_266 j_6 (some n_257))))) (n_257 + 1) a c nb r k s1_257 X BB pn NR ac hd v (z_pan v j_6 0 0 20 0) RS j_6 hJ_320 (fun q x e => hW.lt e) ej_6 (hgm.wash ej_6)) (cwV 1 hts gL_act_X12_wash rfl rfl rfl (by decide +kernel) ⟨(Nat.le_of_ble_eq_true rfl), (Nat.le_of_ble_eq_true rfl)⟩) (q_pV hA hW hS (ci := 12) rfl (Classical.choose_spec (Classical.choose_spec (Classical.choose_spec (Classical.choose_spec (Classical.choose_spec (Classical.choose_spec (Classical.choose_spec hJ_320.cell)))))))) rfl rfl hl.1 rfl (lv_room (Nat.le_of_ble_eq_true rfl)) dL_act_323 ⟨(by show _ ≤ 101; omega), (by show _ ≤ 2006; omega)⟩) hS (fun r_323 f_323 n_323 H locs hp hW hS => ?_)
      obtain ⟨rfl, eJ_323, en_323, hfr_323⟩ := hp
      refine lv_iload hx hb dL_act_326 (lv_at hl 0 rfl) ?_
      refine lv_icmp_ne (tgt := 335) hx hb dL_act_328 (by decide) (fun c_328 => False.elim ((fun h9 => h9 rfl) c_328)) (fun c_328 => ?_)
      refine lv_iconst (v := 1) hx hb dL_act_331 (by decide) ?_
      refine lv_goto (tgt := 336) hx hb dL_act_332 (by decide) ?_
      exact q_zret hx hb hr hlocks hW hS rfl ⟨z_pan v j_6 0 0 20 0, s1_257, rfl, (eJ_323.more (Nat.le_add_right _ _)), (by omega), (fun _ hq => ((hfr_323 _ hq).trans ((hX_320 _ hq).trans ((hfr_257 _ (hJ_13.xr _ hq)).trans ((hfr_13 _ (hJ_6.xr _ hq)).trans (hfr_6 _ (hJ.xr _ hq)))))))⟩ (by show _ ≤ 101; omega) (by show _ ≤ 2006; omega) dL_act_336
    · refine lv_iconst (v := 1) hx hb dL_act_263 (by decide) ?_
      exact q_zret hx hb hr hlocks hW hS rfl ⟨v, s1_257, rfl, (hJ_257.more (Nat.le_add_right _ _)), (by omega), (fun _ hq => ((hfr_257 _ (hJ_13.xr _ hq)).trans ((hfr_13 _ (hJ_6.xr _ hq)).trans (hfr_6 _ (hJ.xr _ hq)))))⟩ (by show _ ≤ 101; omega) (by show _ ≤ 2006; omega) dL_act_264
  · rw [show nI j_13 = 7 from by rw [hjv]; decide]
    refine lv_tableIn (x := 7) (off := 321) (tgt := 337) hx hb dL_act_16 (by decide) (by decide) (by decide) (by decide) ?_
    refine lv_iconst (v := 1) hx hb dL_act_337 (by decide) ?_
    refine lv_aload_n hx hb dL_act_338 rfl (lv_at hl 3 rfl) ?_
    refine lv_aload_n hx hb dL_act_339 rfl (lv_at hl 3 rfl) ?_
    refine lv_iconst (v := 2) hx hb dL_act_340 (by decide) ?_
    have hlt_341 : ∀ q x, (f_13) q = some x → q < n_13 := fun q x e => hW.lt e
    refine q_ci (va_runV (As := [.int 2]) (rest := [.ref r, .int 1]) ⟨hx, hb, hml, hown, hts⟩ (kX14_next l E f_13 n_13 r 2 s1_13 e0_13 (by omega) (by omega)) (cwV 1 hts gL_act_X14_next rfl rfl rfl (by decide +kernel) ⟨(Nat.le_of_ble_eq_true rfl), (Nat.le_of_ble_eq_true rfl)⟩) (q_pV hA hW hS (ci := 14) rfl e0_13) rfl rfl hl.1 rfl (lv_room (Nat.le_of_ble_eq_true rfl)) dL_act_341 ⟨(by show _ ≤ 101; omega), (by show _ ≤ 2006; omega)⟩) hS (fun r_341 f_341 n_341 H locs hp hW hS => ?_)
    obtain ⟨j_341, s1_341, rfl, e0_341, ej_341, en_341, hfr_341⟩ := hp
    have l_e0_341 := hW.lt e0_341
    have hk_341 : f_341 k = some (cLK (v 0) (v 1) (v 2) (v 3) (some pa_2) (some re_2) (some ki_2) (some wa_2) (some no_2) (v 5) (nI b_2) w_2) := (hfr_341 _ (by omega)).trans hk_13
    have hpa_2_341 : f_341 pa_2 = some (aQ E 8 pn gp_2) := (hfr_341 _ (by omega)).trans hpa_2_13
    have hre_2_341 : f_341 re_2 = some (aQ E 9 NR gre_2) := (hfr_341 _ (by omega)).trans hre_2_13
    have hJ_341 : JA E a c nb r k s1_341 X f_341 n_341 BB pn NR ac hd v v RS := hJ_13.out hlt_341 (fun q h1 h2 => hfr_341 q h2) (Nat.le_of_eq en_341.symm) e0_341 (fun q hq => Or.inl hq)
    refine lv_if_ne (tgt := 353) hx hb dL_act_344 (by decide) (fun c_344 => ?_) (fun c_344 => ?_)
    · refine lv_bipush (v := 40) hx hb dL_act_353 (by decide) ?_
      have hlt_355 : ∀ q x, (f_341) q = some x → q < n_341 := fun q x e => hW.lt e
      refine q_ci (va_runV (As := [.int 40]) (rest := [.int 1]) ⟨hx, hb, hml, hown, hts⟩ (kX14_next l E f_341 n_341 r 40 s1_341 e0_341 (by omega) (by omega)) (cwV 1 hts gL_act_X14_next rfl rfl rfl (by decide +kernel) ⟨(Nat.le_of_ble_eq_true rfl), (Nat.le_of_ble_eq_true rfl)⟩) (q_pV hA hW hS (ci := 14) rfl e0_341) rfl rfl hl.1 rfl (lv_room (Nat.le_of_ble_eq_true rfl)) dL_act_355 ⟨(by show _ ≤ 101; omega), (by show _ ≤ 2006; omega)⟩) hS (fun r_355 f_355 n_355 H locs hp hW hS => ?_)
      obtain ⟨j_355, s1_355, rfl, e0_355, ej_355, en_355, hfr_355⟩ := hp
      have l_e0_355 := hW.lt e0_355
      have hk_355 : f_355 k = some (cLK (v 0) (v 1) (v 2) (v 3) (some pa_2) (some re_2) (some ki_2) (some wa_2) (some no_2) (v 5) (nI b_2) w_2) := (hfr_355 _ (by omega)).trans hk_341
      have hpa_2_355 : f_355 pa_2 = some (aQ E 8 pn gp_2) := (hfr_355 _ (by omega)).trans hpa_2_341
      have hre_2_355 : f_355 re_2 = some (aQ E 9 NR gre_2) := (hfr_355 _ (by omega)).trans hre_2_341
      have hJ_355 : JA E a c nb r k s1_355 X f_355 n_355 BB pn NR ac hd v v RS := hJ_341.out hlt_355 (fun q h1 h2 => hfr_355 q h2) (Nat.le_of_eq en_355.symm) e0_355 (fun q hq => Or.inl hq)
      refine lv_iadd hx hb dL_act_358 ?_
      rw [show 1 + nI j_355 = nI (1 + j_355) from nI_add 1 j_355]
      refine lv_istore (lv' := [(4, .int (nI (1 + j_355))), (3, .int (nI j_6)), (0, .ref a), (1, .ref k), (2, .ref r)]) hx hb dL_act_359 hl (by decide) rfl (fun ls hl => ?_)
      refine lv_aload_n hx hb dL_act_361 rfl (lv_at hl 3 rfl) ?_
      refine lv_iload hx hb dL_act_362 (lv_at hl 0 rfl) ?_
      refine lv_iconst (v := (-1)) hx hb dL_act_364 (by decide) ?_
      obtain ⟨P_365, pa_365, re_365, ki_365, wa_365, no_365, pr_365, b_365, w_365, hK_365, hs_365, hR_365, hO_365, hXk_365, hck_365⟩ := hJ_355.k
      obtain ⟨hk0_365, ⟨gk_365, hki_365, hkv_365⟩, ⟨gw_365, hwa_365, hwv_365⟩, ⟨gn_365, hno_365, hnv_365⟩, ⟨gp_365, hpa_365, hpv_365⟩, hrow_365⟩ := id hK_365
      obtain ⟨gre_365, hPre_365, hre_365, -⟩ := id hR_365
      have lk_365 := hW.lt hk0_365
      have lki_365 := hW.lt hki_365
      have lwa_365 := hW.lt hwa_365
      have lno_365 := hW.lt hno_365
      have lpa_365 := hW.lt hpa_365
      have nk_365 := hJ_355.ne
      have npa_365 := ne_ab hJ_355.dice hpa_365
      have nre_365 := ne_ab hJ_355.dice hre_365
      have nki_365 := ne_ab hJ_355.dice hki_365
      have nwa_365 := ne_ab hJ_355.dice hwa_365
      have nno_365 := ne_ab hJ_355.dice hno_365
      have hr8 := hJ_355.dice
      have lr8 := hW.lt hr8
      refine q_cv (va_runV (As := [.int (nI (1 + j_355)), .int (-1)]) (rest := []) ⟨hx, hb, hml, hown, hts⟩ (kX15_goByN l E f_355 n_355 k pa_365 re_365 ki_365 wa_365 no_365 pn pr_365 hd v b_365 w_365 (1 + j_355) hK_365 hs_365 (by omega) (by omega) hvo.hot) (cwV 2 hts gL_act_X15_goBy rfl rfl rfl (by decide +kernel) ⟨(Nat.le_of_ble_eq_true rfl), (Nat.le_of_ble_eq_true rfl)⟩) (q_pV hA hW hS (ci := 15) rfl hk0_365) rfl rfl hl.1 rfl (lv_room (Nat.le_of_ble_eq_true rfl)) dL_act_365 ⟨(by show _ ≤ 101; omega), (by show _ ≤ 2006; omega)⟩) hS (fun f_365 n_365 H locs hp hW hS => ?_)
      obtain ⟨eK_365, en_365, hfr_365⟩ := hp
      have hr_365 : f_365 r = some (cDice s1_355) := (hfr_365 _ (fun e => hkr e.symm) (fun i hi e => by obtain ⟨gr8, e8, -⟩ := hrow_365 i hi; exact ne_ab hr8 e8 e.symm) (by omega)).trans e0_355
      obtain ⟨hJ_365, hX_365, hnn_365⟩ := hck_365 f_365 n_365 (BB) ((z_pass v (nI (1 + j_355)) 8 pn, b_365, w_365)) (by omega) ⟨wa_365, no_365, pr_365, eK_365, hs_365, PRN.rf, (by omega), (fun z a1 a2 a3 a4 a5 => hfr_365 z a1 a4 a5)⟩ (hgm.pass (by omega))
      refine lv_iconst (v := 0) hx hb dL_act_368 (by decide) ?_
      refine lv_istore (lv' := [(5, .int 0), (4, .int (nI (1 + j_355))), (3, .int (nI j_6)), (0, .ref a), (1, .ref k), (2, .ref r)]) hx hb dL_act_369 hl (by decide) rfl (fun ls hl => ?_)
      refine lv_aload_n hx hb dL_act_371 rfl (lv_at hl 4 rfl) ?_
      obtain ⟨P_372, pa_372, re_372, ki_372, wa_372, no_372, pr_372, b_372, w_372, hK_372, hs_372, hR_372, hO_372, hXk_372, hck_372⟩ := hJ_365.k
      obtain ⟨hk0_372, ⟨gk_372, hki_372, hkv_372⟩, ⟨gw_372, hwa_372, hwv_372⟩, ⟨gn_372, hno_372, hnv_372⟩, ⟨gp_372, hpa_372, hpv_372⟩, hrow_372⟩ := id hK_372
      obtain ⟨gre_372, hPre_372, hre_372, -⟩ := id hR_372
      have lk_372 := hW.lt hk0_372
      have lki_372 := hW.lt hki_372
      have lwa_372 := hW.lt hwa_372
      have lno_372 := hW.lt hno_372
      have lpa_372 := hW.lt hpa_372
      have nk_372 := hJ_365.ne
      have npa_372 := ne_ab hJ_365.dice hpa_372
      have nre_372 := ne_ab hJ_365.dice hre_372
      have nki_372 := ne_ab hJ_365.dice hki_372
      have nwa_372 := ne_ab hJ_365.dice hwa_372
      have nno_372 := ne_ab hJ_365.dice hno_372
      refine q_get hx hb hts hown hA hW iX15 hk0_372 rfl 4 (by decide) (hts (.fieldLink RL 58 "HighRecipesLaw$Kitchen" "pans" "[[I") (by decide +kernel)) (fun _ h9 => h9) (v := .ref pa_372) rfl dL_act_372 ?_
      refine lv_astore (lv' := [(6, .ref pa_372), (5, .int 0), (4, .int (nI (1 + j_355))), (3, .int (nI j_6)), (0, .ref a), (1, .ref k), (2, .ref r)]) hx hb dL_act_375 hl (by decide) rfl (fun ls hl => ?_)
      refine lv_aload hx hb dL_act_377 (lv_at hl 0 rfl) ?_
      refine q_alen hx hb hA hW 8 rfl hpa_372 (v := nI pn) rfl dL_act_379 ?_
      refine lv_istore (lv' := [(7, .int (nI pn)), (6, .ref pa_372), (5, .int 0), (4, .int (nI (1 + j_355))), (3, .int (nI j_6)), (0, .ref a), (1, .ref k), (2, .ref r)]) hx hb dL_act_380 hl (by decide) rfl (fun ls hl => ?_)
      refine lv_iconst (v := 0) hx hb dL_act_382 (by decide) ?_
      refine lv_istore (lv' := [(8, .int 0), (7, .int (nI pn)), (6, .ref pa_372), (5, .int 0), (4, .int (nI (1 + j_355))), (3, .int (nI j_6)), (0, .ref a), (1, .ref k), (2, .ref r)]) hx hb dL_act_383 hl (by decide) rfl (fun ls hl => ?_)
      have K385 : ∀ (fu : Nat) (q9 : Nat) (hq9 : q9 ≤ pn) (hm : pn - q9 < fu) (H : Heap) (locs : List Loc) (ls : Array Slot), q_W E (f_365) n_365 H → va_S (q_ge E) s0_.heap H locs → lv_has ls 10 [(7, .int (nI pn)), (6, .ref pa_372), (4, .int (nI (1 + j_355))), (0, .ref a), (1, .ref k), (2, .ref r), (5, .int (z_hot (z_pass v (nI (1 + j_355)) 8 pn) q9)), (8, .int (nI q9))] → W p0_ l e0_ (headSpec wsL_act ({ frames := 600, cells := 101, slots := 2006, locals := 22000 })).room s0_ m0_ ([.ref a, .ref k, .ref r] : List Value).toArray below0_ meth0_ c0_ H locs 0 0 (MQ below0_ (q_Qi E (fun r0 f1 n1 => ∃ (v1 : q_V) (s1 : Int32), 1 = r0 ∧ JA E a c nb r k s1 X f1 n1 (BB + 100) pn NR ac hd v1 v1 RS ∧ n ≤ n1 ∧ ∀ z9, X z9 → f1 z9 = f z9)) ([.ref a, .ref k, .ref r] : List Value).toArray s0_ 101 2006 (q_ge E)) (F0 m0_ 385 ls []) := by
        intro fu
        induction fu with
        | zero =>
          intro q9 hq9 hm
          exact absurd hm (Nat.not_lt_zero _)
        | succ fu ih =>
          intro q9 hq9 hm H locs ls hW hS hl
          refine lv_iload hx hb dL_act_385 (lv_at hl 7 rfl) ?_
          refine lv_iload hx hb dL_act_387 (lv_at hl 0 rfl) ?_
          refine lv_icmp_ge (tgt := 424) hx hb dL_act_389 (by decide) (fun c_389 => ?_) (fun c_389 => ?_)
          · have hqp : q9 = pn := Nat.le_antisymm hq9 (q_leN (by omega) c_389)
            rw [hqp] at hl
            refine lv_aload_n hx hb dL_act_424 rfl (lv_at hl 3 rfl) ?_
            refine lv_iload hx hb dL_act_425 (lv_at hl 2 rfl) ?_
            refine q_ci (va_runV (As := [.int (nI (1 + j_355))]) (rest := []) ⟨hx, hb, hml, hown, hts⟩ (ja_rest l E f_365 n_365 a c nb r k s1_355 X BB pn NR ac hd v (z_pass v (nI (1 + j_355)) 8 pn) RS (nI (1 + j_355)) hJ_365 (fun q x e => hW.lt e) (b_in1 (L := 600) (by decide) (by omega) (by omega)) (hgm.pass (by omega))) (cwV 1 hts gL_act_X12_rest rfl rfl rfl (by decide +kernel) ⟨(Nat.le_of_ble_eq_true rfl), (Nat.le_of_ble_eq_true rfl)⟩) (q_pV hA hW hS (ci := 12) rfl (Classical.choose_spec (Classical.choose_spec (Classical.choose_spec (Classical.choose_spec (Classical.choose_spec (Classical.choose_spec (Classical.choose_spec hJ_365.cell)))))))) rfl rfl hl.1 rfl (lv_room (Nat.le_of_ble_eq_true rfl)) dL_act_427 ⟨(by show _ ≤ 101; omega), (by show _ ≤ 2006; omega)⟩) hS (fun r_427 f_427 n_427 H locs hp hW hS => ?_)
            obtain ⟨rfl, eJ_427, en_427, hfr_427⟩ := hp
            refine lv_iload hx hb dL_act_430 (lv_at hl 6 rfl) ?_
            refine lv_icmp_ne (tgt := 439) hx hb dL_act_432 (by decide) (fun c_432 => False.elim ((fun h9 => h9 rfl) c_432)) (fun c_432 => ?_)
            refine lv_iconst (v := 1) hx hb dL_act_435 (by decide) ?_
            refine lv_goto (tgt := 440) hx hb dL_act_436 (by decide) ?_
            exact q_zret hx hb hr hlocks hW hS rfl ⟨z_pass v (nI (1 + j_355)) 8 pn, s1_355, rfl, (eJ_427.more (Nat.le_add_right _ _)), (by omega), (fun _ hq => ((hfr_427 _ hq).trans ((hX_365 _ hq).trans ((hfr_355 _ (hJ_341.xr _ hq)).trans ((hfr_341 _ (hJ_13.xr _ hq)).trans ((hfr_13 _ (hJ_6.xr _ hq)).trans (hfr_6 _ (hJ.xr _ hq))))))))⟩ (by show _ ≤ 101; omega) (by show _ ≤ 2006; omega) dL_act_440
          · have hql : q9 < pn := q_gtn (by omega) c_389
            refine lv_aload hx hb dL_act_392 (lv_at hl 1 rfl) ?_
            refine lv_iload hx hb dL_act_394 (lv_at hl 7 rfl) ?_
            obtain ⟨gr9, hr9, hg09, hg19, hg29, hg39, hg49⟩ := hrow_372 q9 hql
            refine q_aaldA hx hb hA hW 8 rfl hpa_372 (vp_in_nI hql (by omega)) dL_act_396 ?_
            rw [show gp_372 (nI q9).toNatClampNeg = some (pr_372 q9) from by rw [nI_clamp (by omega)]; exact hpv_372 q9 hql]
            refine lv_astore (lv' := [(9, .ref (pr_372 q9)), (7, .int (nI pn)), (6, .ref pa_372), (4, .int (nI (1 + j_355))), (0, .ref a), (1, .ref k), (2, .ref r), (5, .int (z_hot (z_pass v (nI (1 + j_355)) 8 pn) q9)), (8, .int (nI q9))]) hx hb dL_act_397 hl (by decide) rfl (fun ls hl => ?_)
            refine lv_iload hx hb dL_act_399 (lv_at hl 7 rfl) ?_
            refine lv_aload hx hb dL_act_401 (lv_at hl 0 rfl) ?_
            refine lv_iconst (v := 3) hx hb dL_act_403 (by decide) ?_
            refine q_iald hx hb hA hW hr9 (vp_in_nI (by decide) (by decide)) dL_act_404 ?_
            rw [show gr9 (3 : Int32).toNatClampNeg = (z_pass v (nI (1 + j_355)) 8 pn) (54 + 4 * q9) from hg39]
            refine lv_bipush (v := 20) hx hb dL_act_405 (by decide) ?_
            refine lv_icmp_le (tgt := 414) hx hb dL_act_407 (by decide) (fun c_407 => ?_) (fun c_407 => ?_)
            · have hot9 : z_hot (z_pass v (nI (1 + j_355)) 8 pn) (q9 + 1) = z_hot (z_pass v (nI (1 + j_355)) 8 pn) q9 + 0 := (if_neg (Int32.not_lt.mpr c_407)).trans (Int32.add_zero _).symm
              refine lv_iconst (v := 0) hx hb dL_act_414 (by decide) ?_
              refine lv_iadd hx hb dL_act_415 ?_
              rw [← hot9]
              refine lv_istore (lv' := [(5, .int (z_hot (z_pass v (nI (1 + j_355)) 8 pn) (q9 + 1))), (9, .ref (pr_372 q9)), (7, .int (nI pn)), (6, .ref pa_372), (4, .int (nI (1 + j_355))), (0, .ref a), (1, .ref k), (2, .ref r), (8, .int (nI q9))]) hx hb dL_act_416 hl (by decide) rfl (fun ls hl => ?_)
              refine lv_iinc (v := nI (q9 + 1)) (lv' := [(8, .int (nI (q9 + 1))), (5, .int (z_hot (z_pass v (nI (1 + j_355)) 8 pn) (q9 + 1))), (9, .ref (pr_372 q9)), (7, .int (nI pn)), (6, .ref pa_372), (4, .int (nI (1 + j_355))), (0, .ref a), (1, .ref k), (2, .ref r)]) hx hb dL_act_418 hl (k := 8) rfl (nI_1 q9) (by decide) rfl (fun ls hl => ?_)
              refine lv_goto (tgt := 385) hx hb dL_act_421 (by decide) ?_
              exact ih (q9 + 1) hql (by omega) _ _ _ hW hS (lv_sub hl [3, 4, 5, 6, 7, 8, 1, 0] rfl)
            · have hot9 : z_hot (z_pass v (nI (1 + j_355)) 8 pn) (q9 + 1) = z_hot (z_pass v (nI (1 + j_355)) 8 pn) q9 + 1 := if_pos (Int32.not_le.mp c_407)
              refine lv_iconst (v := 1) hx hb dL_act_410 (by decide) ?_
              refine lv_goto (tgt := 415) hx hb dL_act_411 (by decide) ?_
              refine lv_iadd hx hb dL_act_415 ?_
              rw [← hot9]
              refine lv_istore (lv' := [(5, .int (z_hot (z_pass v (nI (1 + j_355)) 8 pn) (q9 + 1))), (9, .ref (pr_372 q9)), (7, .int (nI pn)), (6, .ref pa_372), (4, .int (nI (1 + j_355))), (0, .ref a), (1, .ref k), (2, .ref r), (8, .int (nI q9))]) hx hb dL_act_416 hl (by decide) rfl (fun ls hl => ?_)
              refine lv_iinc (v := nI (q9 + 1)) (lv' := [(8, .int (nI (q9 + 1))), (5, .int (z_hot (z_pass v (nI (1 + j_355)) 8 pn) (q9 + 1))), (9, .ref (pr_372 q9)), (7, .int (nI pn)), (6, .ref pa_372), (4, .int (nI (1 + j_355))), (0, .ref a), (1, .ref k), (2, .ref r)]) hx hb dL_act_418 hl (k := 8) rfl (nI_1 q9) (by decide) rfl (fun ls hl => ?_)
              refine lv_goto (tgt := 385) hx hb dL_act_421 (by decide) ?_
              exact ih (q9 + 1) hql (by omega) _ _ _ hW hS (lv_sub hl [3, 4, 5, 6, 7, 8, 1, 0] rfl)
      exact K385 _ 0 (Nat.zero_le _) (Nat.lt_succ_self _) _ _ _ hW hS (lv_sub hl [1, 2, 4, 6, 7, 8, 3, 0] rfl)
    · refine lv_sipush (v := 600) hx hb dL_act_347 (by decide) ?_
      refine lv_goto (tgt := 355) hx hb dL_act_350 (by decide) ?_
      have hlt_355 : ∀ q x, (f_341) q = some x → q < n_341 := fun q x e => hW.lt e
      refine q_ci (va_runV (As := [.int 600]) (rest := [.int 1]) ⟨hx, hb, hml, hown, hts⟩ (kX14_next l E f_341 n_341 r 600 s1_341 e0_341 (by omega) (by omega)) (cwV 1 hts gL_act_X14_next rfl rfl rfl (by decide +kernel) ⟨(Nat.le_of_ble_eq_true rfl), (Nat.le_of_ble_eq_true rfl)⟩) (q_pV hA hW hS (ci := 14) rfl e0_341) rfl rfl hl.1 rfl (lv_room (Nat.le_of_ble_eq_true rfl)) dL_act_355 ⟨(by show _ ≤ 101; omega), (by show _ ≤ 2006; omega)⟩) hS (fun r_355 f_355 n_355 H locs hp hW hS => ?_)
      obtain ⟨j_355, s1_355, rfl, e0_355, ej_355, en_355, hfr_355⟩ := hp
      have l_e0_355 := hW.lt e0_355
      have hk_355 : f_355 k = some (cLK (v 0) (v 1) (v 2) (v 3) (some pa_2) (some re_2) (some ki_2) (some wa_2) (some no_2) (v 5) (nI b_2) w_2) := (hfr_355 _ (by omega)).trans hk_341
      have hpa_2_355 : f_355 pa_2 = some (aQ E 8 pn gp_2) := (hfr_355 _ (by omega)).trans hpa_2_341
      have hre_2_355 : f_355 re_2 = some (aQ E 9 NR gre_2) := (hfr_355 _ (by omega)).trans hre_2_341
      have hJ_355 : JA E a c nb r k s1_355 X f_355 n_355 BB pn NR ac hd v v RS := hJ_341.out hlt_355 (fun q h1 h2 => hfr_355 q h2) (Nat.le_of_eq en_355.symm) e0_355 (fun q hq => Or.inl hq)
      refine lv_iadd hx hb dL_act_358 ?_
      rw [show 1 + nI j_355 = nI (1 + j_355) from nI_add 1 j_355]
      refine lv_istore (lv' := [(4, .int (nI (1 + j_355))), (3, .int (nI j_6)), (0, .ref a), (1, .ref k), (2, .ref r)]) hx hb dL_act_359 hl (by decide) rfl (fun ls hl => ?_)
      refine lv_aload_n hx hb dL_act_361 rfl (lv_at hl 3 rfl) ?_
      refine lv_iload hx hb dL_act_362 (lv_at hl 0 rfl) ?_
      refine lv_iconst (v := (-1)) hx hb dL_act_364 (by decide) ?_
      obtain ⟨P_365, pa_365, re_365, ki_365, wa_365, no_365, pr_365, b_365, w_365, hK_365, hs_365, hR_365, hO_365, hXk_365, hck_365⟩ := hJ_355.k
      obtain ⟨hk0_365, ⟨gk_365, hki_365, hkv_365⟩, ⟨gw_365, hwa_365, hwv_365⟩, ⟨gn_365, hno_365, hnv_365⟩, ⟨gp_365, hpa_365, hpv_365⟩, hrow_365⟩ := id hK_365
      obtain ⟨gre_365, hPre_365, hre_365, -⟩ := id hR_365
      have lk_365 := hW.lt hk0_365
      have lki_365 := hW.lt hki_365
      have lwa_365 := hW.lt hwa_365
      have lno_365 := hW.lt hno_365
      have lpa_365 := hW.lt hpa_365
      have nk_365 := hJ_355.ne
      have npa_365 := ne_ab hJ_355.dice hpa_365
      have nre_365 := ne_ab hJ_355.dice hre_365
      have nki_365 := ne_ab hJ_355.dice hki_365
      have nwa_365 := ne_ab hJ_355.dice hwa_365
      have nno_365 := ne_ab hJ_355.dice hno_365
      have hr8 := hJ_355.dice
      have lr8 := hW.lt hr8
      refine q_cv (va_runV (As := [.int (nI (1 + j_355)), .int (-1)]) (rest := []) ⟨hx, hb, hml, hown, hts⟩ (kX15_goByN l E f_355 n_355 k pa_365 re_365 ki_365 wa_365 no_365 pn pr_365 hd v b_365 w_365 (1 + j_355) hK_365 hs_365 (by omega) (by omega) hvo.hot) (cwV 2 hts gL_act_X15_goBy rfl rfl rfl (by decide +kernel) ⟨(Nat.le_of_ble_eq_true rfl), (Nat.le_of_ble_eq_true rfl)⟩) (q_pV hA hW hS (ci := 15) rfl hk0_365) rfl rfl hl.1 rfl (lv_room (Nat.le_of_ble_eq_true rfl)) dL_act_365 ⟨(by show _ ≤ 101; omega), (by show _ ≤ 2006; omega)⟩) hS (fun f_365 n_365 H locs hp hW hS => ?_)
      obtain ⟨eK_365, en_365, hfr_365⟩ := hp
      have hr_365 : f_365 r = some (cDice s1_355) := (hfr_365 _ (fun e => hkr e.symm) (fun i hi e => by obtain ⟨gr8, e8, -⟩ := hrow_365 i hi; exact ne_ab hr8 e8 e.symm) (by omega)).trans e0_355
      obtain ⟨hJ_365, hX_365, hnn_365⟩ := hck_365 f_365 n_365 (BB) ((z_pass v (nI (1 + j_355)) 8 pn, b_365, w_365)) (by omega) ⟨wa_365, no_365, pr_365, eK_365, hs_365, PRN.rf, (by omega), (fun z a1 a2 a3 a4 a5 => hfr_365 z a1 a4 a5)⟩ (hgm.pass (by omega))
      refine lv_iconst (v := 0) hx hb dL_act_368 (by decide) ?_
      refine lv_istore (lv' := [(5, .int 0), (4, .int (nI (1 + j_355))), (3, .int (nI j_6)), (0, .ref a), (1, .ref k), (2, .ref r)]) hx hb dL_act_369 hl (by decide) rfl (fun ls hl => ?_)
      refine lv_aload_n hx hb dL_act_371 rfl (lv_at hl 4 rfl) ?_
      obtain ⟨P_372, pa_372, re_372, ki_372, wa_372, no_372, pr_372, b_372, w_372, hK_372, hs_372, hR_372, hO_372, hXk_372, hck_372⟩ := hJ_365.k
      obtain ⟨hk0_372, ⟨gk_372, hki_372, hkv_372⟩, ⟨gw_372, hwa_372, hwv_372⟩, ⟨gn_372, hno_372, hnv_372⟩, ⟨gp_372, hpa_372, hpv_372⟩, hrow_372⟩ := id hK_372
      obtain ⟨gre_372, hPre_372, hre_372, -⟩ := id hR_372
      have lk_372 := hW.lt hk0_372
      have lki_372 := hW.lt hki_372
      have lwa_372 := hW.lt hwa_372
      have lno_372 := hW.lt hno_372
      have lpa_372 := hW.lt hpa_372
      have nk_372 := hJ_365.ne
      have npa_372 := ne_ab hJ_365.dice hpa_372
      have nre_372 := ne_ab hJ_365.dice hre_372
      have nki_372 := ne_ab hJ_365.dice hki_372
      have nwa_372 := ne_ab hJ_365.dice hwa_372
      have nno_372 := ne_ab hJ_365.dice hno_372
      refine q_get hx hb hts hown hA hW iX15 hk0_372 rfl 4 (by decide) (hts (.fieldLink RL 58 "HighRecipesLaw$Kitchen" "pans" "[[I") (by decide +kernel)) (fun _ h9 => h9) (v := .ref pa_372) rfl dL_act_372 ?_
      refine lv_astore (lv' := [(6, .ref pa_372), (5, .int 0), (4, .int (nI (1 + j_355))), (3, .int (nI j_6)), (0, .ref a), (1, .ref k), (2, .ref r)]) hx hb dL_act_375 hl (by decide) rfl (fun ls hl => ?_)
      refine lv_aload hx hb dL_act_377 (lv_at hl 0 rfl) ?_
      refine q_alen hx hb hA hW 8 rfl hpa_372 (v := nI pn) rfl dL_act_379 ?_
      refine lv_istore (lv' := [(7, .int (nI pn)), (6, .ref pa_372), (5, .int 0), (4, .int (nI (1 + j_355))), (3, .int (nI j_6)), (0, .ref a), (1, .ref k), (2, .ref r)]) hx hb dL_act_380 hl (by decide) rfl (fun ls hl => ?_)
      refine lv_iconst (v := 0) hx hb dL_act_382 (by decide) ?_
      refine lv_istore (lv' := [(8, .int 0), (7, .int (nI pn)), (6, .ref pa_372), (5, .int 0), (4, .int (nI (1 + j_355))), (3, .int (nI j_6)), (0, .ref a), (1, .ref k), (2, .ref r)]) hx hb dL_act_383 hl (by decide) rfl (fun ls hl => ?_)
      have K385 : ∀ (fu : Nat) (q9 : Nat) (hq9 : q9 ≤ pn) (hm : pn - q9 < fu) (H : Heap) (locs : List Loc) (ls : Array Slot), q_W E (f_365) n_365 H → va_S (q_ge E) s0_.heap H locs → lv_has ls 10 [(7, .int (nI pn)), (6, .ref pa_372), (4, .int (nI (1 + j_355))), (0, .ref a), (1, .ref k), (2, .ref r), (5, .int (z_hot (z_pass v (nI (1 + j_355)) 8 pn) q9)), (8, .int (nI q9))] → W p0_ l e0_ (headSpec wsL_act ({ frames := 600, cells := 101, slots := 2006, locals := 22000 })).room s0_ m0_ ([.ref a, .ref k, .ref r] : List Value).toArray below0_ meth0_ c0_ H locs 0 0 (MQ below0_ (q_Qi E (fun r0 f1 n1 => ∃ (v1 : q_V) (s1 : Int32), 1 = r0 ∧ JA E a c nb r k s1 X f1 n1 (BB + 100) pn NR ac hd v1 v1 RS ∧ n ≤ n1 ∧ ∀ z9, X z9 → f1 z9 = f z9)) ([.ref a, .ref k, .ref r] : List Value).toArray s0_ 101 2006 (q_ge E)) (F0 m0_ 385 ls []) := by
        intro fu
        induction fu with
        | zero =>
          intro q9 hq9 hm
          exact absurd hm (Nat.not_lt_zero _)
        | succ fu ih =>
          intro q9 hq9 hm H locs ls hW hS hl
          refine lv_iload hx hb dL_act_385 (lv_at hl 7 rfl) ?_
          refine lv_iload hx hb dL_act_387 (lv_at hl 0 rfl) ?_
          refine lv_icmp_ge (tgt := 424) hx hb dL_act_389 (by decide) (fun c_389 => ?_) (fun c_389 => ?_)
          · have hqp : q9 = pn := Nat.le_antisymm hq9 (q_leN (by omega) c_389)
            rw [hqp] at hl
            refine lv_aload_n hx hb dL_act_424 rfl (lv_at hl 3 rfl) ?_
            refine lv_iload hx hb dL_act_425 (lv_at hl 2 rfl) ?_
            refine q_ci (va_runV (As := [.int (nI (1 + j_355))]) (rest := []) ⟨hx, hb, hml, hown, hts⟩ (ja_rest l E f_365 n_365 a c nb r k s1_355 X BB pn NR ac hd v (z_pass v (nI (1 + j_355)) 8 pn) RS (nI (1 + j_355)) hJ_365 (fun q x e => hW.lt e) (b_in1 (L := 600) (by decide) (by omega) (by omega)) (hgm.pass (by omega))) (cwV 1 hts gL_act_X12_rest rfl rfl rfl (by decide +kernel) ⟨(Nat.le_of_ble_eq_true rfl), (Nat.le_of_ble_eq_true rfl)⟩) (q_pV hA hW hS (ci := 12) rfl (Classical.choose_spec (Classical.choose_spec (Classical.choose_spec (Classical.choose_spec (Classical.choose_spec (Classical.choose_spec (Classical.choose_spec hJ_365.cell)))))))) rfl rfl hl.1 rfl (lv_room (Nat.le_of_ble_eq_true rfl)) dL_act_427 ⟨(by show _ ≤ 101; omega), (by show _ ≤ 2006; omega)⟩) hS (fun r_427 f_427 n_427 H locs hp hW hS => ?_)
            obtain ⟨rfl, eJ_427, en_427, hfr_427⟩ := hp
            refine lv_iload hx hb dL_act_430 (lv_at hl 6 rfl) ?_
            refine lv_icmp_ne (tgt := 439) hx hb dL_act_432 (by decide) (fun c_432 => False.elim ((fun h9 => h9 rfl) c_432)) (fun c_432 => ?_)
            refine lv_iconst (v := 1) hx hb dL_act_435 (by decide) ?_
            refine lv_goto (tgt := 440) hx hb dL_act_436 (by decide) ?_
            exact q_zret hx hb hr hlocks hW hS rfl ⟨z_pass v (nI (1 + j_355)) 8 pn, s1_355, rfl, (eJ_427.more (Nat.le_add_right _ _)), (by omega), (fun _ hq => ((hfr_427 _ hq).trans ((hX_365 _ hq).trans ((hfr_355 _ (hJ_341.xr _ hq)).trans ((hfr_341 _ (hJ_13.xr _ hq)).trans ((hfr_13 _ (hJ_6.xr _ hq)).trans (hfr_6 _ (hJ.xr _ hq))))))))⟩ (by show _ ≤ 101; omega) (by show _ ≤ 2006; omega) dL_act_440
          · have hql : q9 < pn := q_gtn (by omega) c_389
            refine lv_aload hx hb dL_act_392 (lv_at hl 1 rfl) ?_
            refine lv_iload hx hb dL_act_394 (lv_at hl 7 rfl) ?_
            obtain ⟨gr9, hr9, hg09, hg19, hg29, hg39, hg49⟩ := hrow_372 q9 hql
            refine q_aaldA hx hb hA hW 8 rfl hpa_372 (vp_in_nI hql (by omega)) dL_act_396 ?_
            rw [show gp_372 (nI q9).toNatClampNeg = some (pr_372 q9) from by rw [nI_clamp (by omega)]; exact hpv_372 q9 hql]
            refine lv_astore (lv' := [(9, .ref (pr_372 q9)), (7, .int (nI pn)), (6, .ref pa_372), (4, .int (nI (1 + j_355))), (0, .ref a), (1, .ref k), (2, .ref r), (5, .int (z_hot (z_pass v (nI (1 + j_355)) 8 pn) q9)), (8, .int (nI q9))]) hx hb dL_act_397 hl (by decide) rfl (fun ls hl => ?_)
            refine lv_iload hx hb dL_act_399 (lv_at hl 7 rfl) ?_
            refine lv_aload hx hb dL_act_401 (lv_at hl 0 rfl) ?_
            refine lv_iconst (v := 3) hx hb dL_act_403 (by decide) ?_
            refine q_iald hx hb hA hW hr9 (vp_in_nI (by decide) (by decide)) dL_act_404 ?_
            rw [show gr9 (3 : Int32).toNatClampNeg = (z_pass v (nI (1 + j_355)) 8 pn) (54 + 4 * q9) from hg39]
            refine lv_bipush (v := 20) hx hb dL_act_405 (by decide) ?_
            refine lv_icmp_le (tgt := 414) hx hb dL_act_407 (by decide) (fun c_407 => ?_) (fun c_407 => ?_)
            · have hot9 : z_hot (z_pass v (nI (1 + j_355)) 8 pn) (q9 + 1) = z_hot (z_pass v (nI (1 + j_355)) 8 pn) q9 + 0 := (if_neg (Int32.not_lt.mpr c_407)).trans (Int32.add_zero _).symm
              refine lv_iconst (v := 0) hx hb dL_act_414 (by decide) ?_
              refine lv_iadd hx hb dL_act_415 ?_
              rw [← hot9]
              refine lv_istore (lv' := [(5, .int (z_hot (z_pass v (nI (1 + j_355)) 8 pn) (q9 + 1))), (9, .ref (pr_372 q9)), (7, .int (nI pn)), (6, .ref pa_372), (4, .int (nI (1 + j_355))), (0, .ref a), (1, .ref k), (2, .ref r), (8, .int (nI q9))]) hx hb dL_act_416 hl (by decide) rfl (fun ls hl => ?_)
              refine lv_iinc (v := nI (q9 + 1)) (lv' := [(8, .int (nI (q9 + 1))), (5, .int (z_hot (z_pass v (nI (1 + j_355)) 8 pn) (q9 + 1))), (9, .ref (pr_372 q9)), (7, .int (nI pn)), (6, .ref pa_372), (4, .int (nI (1 + j_355))), (0, .ref a), (1, .ref k), (2, .ref r)]) hx hb dL_act_418 hl (k := 8) rfl (nI_1 q9) (by decide) rfl (fun ls hl => ?_)
              refine lv_goto (tgt := 385) hx hb dL_act_421 (by decide) ?_
              exact ih (q9 + 1) hql (by omega) _ _ _ hW hS (lv_sub hl [3, 4, 5, 6, 7, 8, 1, 0] rfl)
            · have hot9 : z_hot (z_pass v (nI (1 + j_355)) 8 pn) (q9 + 1) = z_hot (z_pass v (nI (1 + j_355)) 8 pn) q9 + 1 := if_pos (Int32.not_le.mp c_407)
              refine lv_iconst (v := 1) hx hb dL_act_410 (by decide) ?_
              refine lv_goto (tgt := 415) hx hb dL_act_411 (by decide) ?_
              refine lv_iadd hx hb dL_act_415 ?_
              rw [← hot9]
              refine lv_istore (lv' := [(5, .int (z_hot (z_pass v (nI (1 + j_355)) 8 pn) (q9 + 1))), (9, .ref (pr_372 q9)), (7, .int (nI pn)), (6, .ref pa_372), (4, .int (nI (1 + j_355))), (0, .ref a), (1, .ref k), (2, .ref r), (8, .int (nI q9))]) hx hb dL_act_416 hl (by decide) rfl (fun ls hl => ?_)
              refine lv_iinc (v := nI (q9 + 1)) (lv' := [(8, .int (nI (q9 + 1))), (5, .int (z_hot (z_pass v (nI (1 + j_355)) 8 pn) (q9 + 1))), (9, .ref (pr_372 q9)), (7, .int (nI pn)), (6, .ref pa_372), (4, .int (nI (1 + j_355))), (0, .ref a), (1, .ref k), (2, .ref r)]) hx hb dL_act_418 hl (k := 8) rfl (nI_1 q9) (by decide) rfl (fun ls hl => ?_)
              refine lv_goto (tgt := 385) hx hb dL_act_421 (by decide) ?_
              exact ih (q9 + 1) hql (by omega) _ _ _ hW hS (lv_sub hl [3, 4, 5, 6, 7, 8, 1, 0] rfl)
      exact K385 _ 0 (Nat.zero_le _) (Nat.lt_succ_self _) _ _ _ hW hS (lv_sub hl [1, 2, 4, 6, 7, 8, 3, 0] rfl)
  · rw [show nI j_13 = 8 from by rw [hjv]; decide]
    refine lv_tableOut (x := 8) (tgt := 441) hx hb dL_act_16 (by decide) (by decide) ?_
    refine lv_aload_n hx hb dL_act_441 rfl (lv_at hl 3 rfl) ?_
    refine lv_aload_n hx hb dL_act_442 rfl (lv_at hl 2 rfl) ?_
    obtain ⟨P_443, pa_443, re_443, ki_443, wa_443, no_443, pr_443, b_443, w_443, hK_443, hs_443, hR_443, hO_443, hXk_443, hck_443⟩ := hJ_13.k
    obtain ⟨hk0_443, ⟨gk_443, hki_443, hkv_443⟩, ⟨gw_443, hwa_443, hwv_443⟩, ⟨gn_443, hno_443, hnv_443⟩, ⟨gp_443, hpa_443, hpv_443⟩, hrow_443⟩ := id hK_443
    obtain ⟨gre_443, hPre_443, hre_443, -⟩ := id hR_443
    have lk_443 := hW.lt hk0_443
    have lki_443 := hW.lt hki_443
    have lwa_443 := hW.lt hwa_443
    have lno_443 := hW.lt hno_443
    have lpa_443 := hW.lt hpa_443
    have nk_443 := hJ_13.ne
    have npa_443 := ne_ab hJ_13.dice hpa_443
    have nre_443 := ne_ab hJ_13.dice hre_443
    have nki_443 := ne_ab hJ_13.dice hki_443
    have nwa_443 := ne_ab hJ_13.dice hwa_443
    have nno_443 := ne_ab hJ_13.dice hno_443
    refine q_get hx hb hts hown hA hW iX15 hk0_443 rfl 5 (by decide) (hts (.fieldLink RL 79 "HighRecipesLaw$Kitchen" "recipes" "[[LHighRecipesLaw$Act;") (by decide +kernel)) (fun _ h9 => h9) (v := .ref re_443) rfl dL_act_443 ?_
    refine q_alen hx hb hA hW 9 rfl hre_443 (v := nI NR) rfl dL_act_446 ?_
    have hlt_447 : ∀ q x, (f_13) q = some x → q < n_13 := fun q x e => hW.lt e
    refine q_ci (va_runV (As := [.int (nI NR)]) (rest := []) ⟨hx, hb, hml, hown, hts⟩ (kX14_next l E f_13 n_13 r NR s1_13 e0_13 (by omega) (by omega)) (cwV 1 hts gL_act_X14_next rfl rfl rfl (by decide +kernel) ⟨(Nat.le_of_ble_eq_true rfl), (Nat.le_of_ble_eq_true rfl)⟩) (q_pV hA hW hS (ci := 14) rfl e0_13) rfl rfl hl.1 rfl (lv_room (Nat.le_of_ble_eq_true rfl)) dL_act_447 ⟨(by show _ ≤ 101; omega), (by show _ ≤ 2006; omega)⟩) hS (fun r_447 f_447 n_447 H locs hp hW hS => ?_)
    obtain ⟨j_447, s1_447, rfl, e0_447, ej_447, en_447, hfr_447⟩ := hp
    have l_e0_447 := hW.lt e0_447
    have hk_447 : f_447 k = some (cLK (v 0) (v 1) (v 2) (v 3) (some pa_443) (some re_443) (some ki_443) (some wa_443) (some no_443) (v 5) (nI b_443) w_443) := (hfr_447 _ (by omega)).trans hk0_443
    have hpa_2_447 : f_447 pa_2 = some (aQ E 8 pn gp_2) := (hfr_447 _ (by omega)).trans hpa_2_13
    have hre_2_447 : f_447 re_2 = some (aQ E 9 NR gre_2) := (hfr_447 _ (by omega)).trans hre_2_13
    have hpa_443_447 : f_447 pa_443 = some (aQ E 8 pn gp_443) := (hfr_447 _ (by omega)).trans hpa_443
    have hre_443_447 : f_447 re_443 = some (aQ E 9 NR gre_443) := (hfr_447 _ (by omega)).trans hre_443
    have hJ_447 : JA E a c nb r k s1_447 X f_447 n_447 BB pn NR ac hd v v RS := hJ_13.out hlt_447 (fun q h1 h2 => hfr_447 q h2) (Nat.le_of_eq en_447.symm) e0_447 (fun q hq => Or.inl hq)
    refine lv_istore (lv' := [(4, .int (nI j_447)), (3, .int (nI j_6)), (0, .ref a), (1, .ref k), (2, .ref r)]) hx hb dL_act_450 hl (by decide) rfl (fun ls hl => ?_)
    refine lv_aload_n hx hb dL_act_452 rfl (lv_at hl 2 rfl) ?_
    refine lv_iload hx hb dL_act_453 (lv_at hl 0 rfl) ?_
    refine q_ci (va_runV (As := [.int (nI j_447)]) (rest := []) ⟨hx, hb, hml, hown, hts⟩ (ja_cook l E f_447 n_447 a c nb r k s1_447 X BB pn NR ac hd v v RS j_447 hJ_447 (fun q x e => hW.lt e) (by omega) ej_447 (hJ_447.vcook (by omega) ej_447)) (cwV 1 hts gL_act_X12_cook rfl rfl rfl (by decide +kernel) ⟨(Nat.le_of_ble_eq_true rfl), (Nat.le_of_ble_eq_true rfl)⟩) (q_pV hA hW hS (ci := 12) rfl (Classical.choose_spec (Classical.choose_spec (Classical.choose_spec (Classical.choose_spec (Classical.choose_spec (Classical.choose_spec (Classical.choose_spec hJ_447.cell)))))))) rfl rfl hl.1 rfl (lv_room (Nat.le_of_ble_eq_true rfl)) dL_act_455 ⟨(by show _ ≤ 101; omega), (by show _ ≤ 2006; omega)⟩) hS (fun r_455 f_455 n_455 H locs hp hW hS => ?_)
    obtain ⟨rfl, eJ_455, en_455, hfr_455⟩ := hp
    refine lv_aload_n hx hb dL_act_458 rfl (lv_at hl 3 rfl) ?_
    refine lv_iload hx hb dL_act_459 (lv_at hl 0 rfl) ?_
    obtain ⟨P_461, pa_461, re_461, ki_461, wa_461, no_461, pr_461, b_461, w_461, hK_461, hs_461, hR_461, hO_461, hXk_461, hck_461⟩ := eJ_455.k
    obtain ⟨hk0_461, ⟨gk_461, hki_461, hkv_461⟩, ⟨gw_461, hwa_461, hwv_461⟩, ⟨gn_461, hno_461, hnv_461⟩, ⟨gp_461, hpa_461, hpv_461⟩, hrow_461⟩ := id hK_461
    obtain ⟨gre_461, hPre_461, hre_461, -⟩ := id hR_461
    have lk_461 := hW.lt hk0_461
    have lki_461 := hW.lt hki_461
    have lwa_461 := hW.lt hwa_461
    have lno_461 := hW.lt hno_461
    have lpa_461 := hW.lt hpa_461
    have nk_461 := eJ_455.ne
    have npa_461 := ne_ab eJ_455.dice hpa_461
    have nre_461 := ne_ab eJ_455.dice hre_461
    have nki_461 := ne_ab eJ_455.dice hki_461
    have nwa_461 := ne_ab eJ_455.dice hwa_461
    have nno_461 := ne_ab eJ_455.dice hno_461
    have hW0_461 := hW
    have hr8 := eJ_455.dice
    have lr8 := hW.lt hr8
    refine q_ci (va_runV (As := [.int (nI j_447)]) (rest := [.int ((RS j_447 hd (v, 0, (-1))).1 3 - v 3)]) ⟨hx, hb, hml, hown, hts⟩ (kX15_cook l E f_455 n_455 k pa_461 re_461 ki_461 wa_461 no_461 pn pr_461 hd v b_461 w_461 BB P_461 NR j_447 RS hK_461 hs_461 (by omega) hvo (by omega) hgm.2.2 hO_461 hR_461 ej_447) (cwV 1 hts gL_act_X15_cook rfl rfl rfl (by decide +kernel) ⟨(Nat.le_of_ble_eq_true rfl), (Nat.le_of_ble_eq_true rfl)⟩) (q_pV hA hW hS (ci := 15) rfl hk0_461) rfl rfl hl.1 rfl (lv_room (Nat.le_of_ble_eq_true rfl)) dL_act_461 ⟨(by show _ ≤ 101; omega), (by show _ ≤ 2006; omega)⟩) hS (fun r_461 f_461 n_461 H locs hp hW hS => ?_)
    obtain ⟨rfl, hB_461⟩ := hp
    obtain ⟨hJ_461, hX_461, hnn_461⟩ := hck_461 f_461 n_461 (BB + 100) (RS j_447 hd (v, 0, (-1))) (by omega) hB_461 (hJ_447.vcook (by omega) ej_447)
    have hr_461 := hJ_461.dice
    refine lv_icmp_ne (tgt := 471) hx hb dL_act_464 (by decide) (fun c_464 => False.elim ((fun h9 => h9 rfl) c_464)) (fun c_464 => ?_)
    refine lv_iconst (v := 1) hx hb dL_act_467 (by decide) ?_
    refine lv_goto (tgt := 472) hx hb dL_act_468 (by decide) ?_
    exact q_zret hx hb hr hlocks hW hS rfl ⟨(RS j_447 hd (v, 0, (-1))).1, s1_447, rfl, hJ_461, (by omega), (fun _ hq => ((hX_461 _ hq).trans ((hfr_455 _ hq).trans ((hfr_447 _ (hJ_13.xr _ hq)).trans ((hfr_13 _ (hJ_6.xr _ hq)).trans (hfr_6 _ (hJ.xr _ hq)))))))⟩ (by show _ ≤ 101; omega) (by show _ ≤ 2006; omega) dL_act_472
  · rw [show nI j_13 = 9 from by rw [hjv]; decide]
    refine lv_tableOut (x := 9) (tgt := 441) hx hb dL_act_16 (by decide) (by decide) ?_
    refine lv_aload_n hx hb dL_act_441 rfl (lv_at hl 3 rfl) ?_
    refine lv_aload_n hx hb dL_act_442 rfl (lv_at hl 2 rfl) ?_
    obtain ⟨P_443, pa_443, re_443, ki_443, wa_443, no_443, pr_443, b_443, w_443, hK_443, hs_443, hR_443, hO_443, hXk_443, hck_443⟩ := hJ_13.k
    obtain ⟨hk0_443, ⟨gk_443, hki_443, hkv_443⟩, ⟨gw_443, hwa_443, hwv_443⟩, ⟨gn_443, hno_443, hnv_443⟩, ⟨gp_443, hpa_443, hpv_443⟩, hrow_443⟩ := id hK_443
    obtain ⟨gre_443, hPre_443, hre_443, -⟩ := id hR_443
    have lk_443 := hW.lt hk0_443
    have lki_443 := hW.lt hki_443
    have lwa_443 := hW.lt hwa_443
    have lno_443 := hW.lt hno_443
    have lpa_443 := hW.lt hpa_443
    have nk_443 := hJ_13.ne
    have npa_443 := ne_ab hJ_13.dice hpa_443
    have nre_443 := ne_ab hJ_13.dice hre_443
    have nki_443 := ne_ab hJ_13.dice hki_443
    have nwa_443 := ne_ab hJ_13.dice hwa_443
    have nno_443 := ne_ab hJ_13.dice hno_443
    refine q_get hx hb hts hown hA hW iX15 hk0_443 rfl 5 (by decide) (hts (.fieldLink RL 79 "HighRecipesLaw$Kitchen" "recipes" "[[LHighRecipesLaw$Act;") (by decide +kernel)) (fun _ h9 => h9) (v := .ref re_443) rfl dL_act_443 ?_
    refine q_alen hx hb hA hW 9 rfl hre_443 (v := nI NR) rfl dL_act_446 ?_
    have hlt_447 : ∀ q x, (f_13) q = some x → q < n_13 := fun q x e => hW.lt e
    refine q_ci (va_runV (As := [.int (nI NR)]) (rest := []) ⟨hx, hb, hml, hown, hts⟩ (kX14_next l E f_13 n_13 r NR s1_13 e0_13 (by omega) (by omega)) (cwV 1 hts gL_act_X14_next rfl rfl rfl (by decide +kernel) ⟨(Nat.le_of_ble_eq_true rfl), (Nat.le_of_ble_eq_true rfl)⟩) (q_pV hA hW hS (ci := 14) rfl e0_13) rfl rfl hl.1 rfl (lv_room (Nat.le_of_ble_eq_true rfl)) dL_act_447 ⟨(by show _ ≤ 101; omega), (by show _ ≤ 2006; omega)⟩) hS (fun r_447 f_447 n_447 H locs hp hW hS => ?_)
    obtain ⟨j_447, s1_447, rfl, e0_447, ej_447, en_447, hfr_447⟩ := hp
    have l_e0_447 := hW.lt e0_447
    have hk_447 : f_447 k = some (cLK (v 0) (v 1) (v 2) (v 3) (some pa_443) (some re_443) (some ki_443) (some wa_443) (some no_443) (v 5) (nI b_443) w_443) := (hfr_447 _ (by omega)).trans hk0_443
    have hpa_2_447 : f_447 pa_2 = some (aQ E 8 pn gp_2) := (hfr_447 _ (by omega)).trans hpa_2_13
    have hre_2_447 : f_447 re_2 = some (aQ E 9 NR gre_2) := (hfr_447 _ (by omega)).trans hre_2_13
    have hpa_443_447 : f_447 pa_443 = some (aQ E 8 pn gp_443) := (hfr_447 _ (by omega)).trans hpa_443
    have hre_443_447 : f_447 re_443 = some (aQ E 9 NR gre_443) := (hfr_447 _ (by omega)).trans hre_443
    have hJ_447 : JA E a c nb r k s1_447 X f_447 n_447 BB pn NR ac hd v v RS := hJ_13.out hlt_447 (fun q h1 h2 => hfr_447 q h2) (Nat.le_of_eq en_447.symm) e0_447 (fun q hq => Or.inl hq)
    refine lv_istore (lv' := [(4, .int (nI j_447)), (3, .int (nI j_6)), (0, .ref a), (1, .ref k), (2, .ref r)]) hx hb dL_act_450 hl (by decide) rfl (fun ls hl => ?_)
    refine lv_aload_n hx hb dL_act_452 rfl (lv_at hl 2 rfl) ?_
    refine lv_iload hx hb dL_act_453 (lv_at hl 0 rfl) ?_
    refine q_ci (va_runV (As := [.int (nI j_447)]) (rest := []) ⟨hx, hb, hml, hown, hts⟩ (ja_cook l E f_447 n_447 a c nb r k s1_447 X BB pn NR ac hd v v RS j_447 hJ_447 (fun q x e => hW.lt e) (by omega) ej_447 (hJ_447.vcook (by omega) ej_447)) (cwV 1 hts gL_act_X12_cook rfl rfl rfl (by decide +kernel) ⟨(Nat.le_of_ble_eq_true rfl), (Nat.le_of_ble_eq_true rfl)⟩) (q_pV hA hW hS (ci := 12) rfl (Classical.choose_spec (Classical.choose_spec (Classical.choose_spec (Classical.choose_spec (Classical.choose_spec (Classical.choose_spec (Classical.choose_spec hJ_447.cell)))))))) rfl rfl hl.1 rfl (lv_room (Nat.le_of_ble_eq_true rfl)) dL_act_455 ⟨(by show _ ≤ 101; omega), (by show _ ≤ 2006; omega)⟩) hS (fun r_455 f_455 n_455 H locs hp hW hS => ?_)
    obtain ⟨rfl, eJ_455, en_455, hfr_455⟩ := hp
    refine lv_aload_n hx hb dL_act_458 rfl (lv_at hl 3 rfl) ?_
    refine lv_iload hx hb dL_act_459 (lv_at hl 0 rfl) ?_
    obtain ⟨P_461, pa_461, re_461, ki_461, wa_461, no_461, pr_461, b_461, w_461, hK_461, hs_461, hR_461, hO_461, hXk_461, hck_461⟩ := eJ_455.k
    obtain ⟨hk0_461, ⟨gk_461, hki_461, hkv_461⟩, ⟨gw_461, hwa_461, hwv_461⟩, ⟨gn_461, hno_461, hnv_461⟩, ⟨gp_461, hpa_461, hpv_461⟩, hrow_461⟩ := id hK_461
    obtain ⟨gre_461, hPre_461, hre_461, -⟩ := id hR_461
    have lk_461 := hW.lt hk0_461
    have lki_461 := hW.lt hki_461
    have lwa_461 := hW.lt hwa_461
    have lno_461 := hW.lt hno_461
    have lpa_461 := hW.lt hpa_461
    have nk_461 := eJ_455.ne
    have npa_461 := ne_ab eJ_455.dice hpa_461
    have nre_461 := ne_ab eJ_455.dice hre_461
    have nki_461 := ne_ab eJ_455.dice hki_461
    have nwa_461 := ne_ab eJ_455.dice hwa_461
    have nno_461 := ne_ab eJ_455.dice hno_461
    have hW0_461 := hW
    have hr8 := eJ_455.dice
    have lr8 := hW.lt hr8
    refine q_ci (va_runV (As := [.int (nI j_447)]) (rest := [.int ((RS j_447 hd (v, 0, (-1))).1 3 - v 3)]) ⟨hx, hb, hml, hown, hts⟩ (kX15_cook l E f_455 n_455 k pa_461 re_461 ki_461 wa_461 no_461 pn pr_461 hd v b_461 w_461 BB P_461 NR j_447 RS hK_461 hs_461 (by omega) hvo (by omega) hgm.2.2 hO_461 hR_461 ej_447) (cwV 1 hts gL_act_X15_cook rfl rfl rfl (by decide +kernel) ⟨(Nat.le_of_ble_eq_true rfl), (Nat.le_of_ble_eq_true rfl)⟩) (q_pV hA hW hS (ci := 15) rfl hk0_461) rfl rfl hl.1 rfl (lv_room (Nat.le_of_ble_eq_true rfl)) dL_act_461 ⟨(by show _ ≤ 101; omega), (by show _ ≤ 2006; omega)⟩) hS (fun r_461 f_461 n_461 H locs hp hW hS => ?_)
    obtain ⟨rfl, hB_461⟩ := hp
    obtain ⟨hJ_461, hX_461, hnn_461⟩ := hck_461 f_461 n_461 (BB + 100) (RS j_447 hd (v, 0, (-1))) (by omega) hB_461 (hJ_447.vcook (by omega) ej_447)
    have hr_461 := hJ_461.dice
    refine lv_icmp_ne (tgt := 471) hx hb dL_act_464 (by decide) (fun c_464 => False.elim ((fun h9 => h9 rfl) c_464)) (fun c_464 => ?_)
    refine lv_iconst (v := 1) hx hb dL_act_467 (by decide) ?_
    refine lv_goto (tgt := 472) hx hb dL_act_468 (by decide) ?_
    exact q_zret hx hb hr hlocks hW hS rfl ⟨(RS j_447 hd (v, 0, (-1))).1, s1_447, rfl, hJ_461, (by omega), (fun _ hq => ((hX_461 _ hq).trans ((hfr_455 _ hq).trans ((hfr_447 _ (hJ_13.xr _ hq)).trans ((hfr_13 _ (hJ_6.xr _ hq)).trans (hfr_6 _ (hJ.xr _ hq)))))))⟩ (by show _ ≤ 101; omega) (by show _ ≤ 2006; omega) dL_act_472
  · rw [show nI j_13 = 10 from by rw [hjv]; decide]
    refine lv_tableOut (x := 10) (tgt := 441) hx hb dL_act_16 (by decide) (by decide) ?_
    refine lv_aload_n hx hb dL_act_441 rfl (lv_at hl 3 rfl) ?_
    refine lv_aload_n hx hb dL_act_442 rfl (lv_at hl 2 rfl) ?_
    obtain ⟨P_443, pa_443, re_443, ki_443, wa_443, no_443, pr_443, b_443, w_443, hK_443, hs_443, hR_443, hO_443, hXk_443, hck_443⟩ := hJ_13.k
    obtain ⟨hk0_443, ⟨gk_443, hki_443, hkv_443⟩, ⟨gw_443, hwa_443, hwv_443⟩, ⟨gn_443, hno_443, hnv_443⟩, ⟨gp_443, hpa_443, hpv_443⟩, hrow_443⟩ := id hK_443
    obtain ⟨gre_443, hPre_443, hre_443, -⟩ := id hR_443
    have lk_443 := hW.lt hk0_443
    have lki_443 := hW.lt hki_443
    have lwa_443 := hW.lt hwa_443
    have lno_443 := hW.lt hno_443
    have lpa_443 := hW.lt hpa_443
    have nk_443 := hJ_13.ne
    have npa_443 := ne_ab hJ_13.dice hpa_443
    have nre_443 := ne_ab hJ_13.dice hre_443
    have nki_443 := ne_ab hJ_13.dice hki_443
    have nwa_443 := ne_ab hJ_13.dice hwa_443
    have nno_443 := ne_ab hJ_13.dice hno_443
    refine q_get hx hb hts hown hA hW iX15 hk0_443 rfl 5 (by decide) (hts (.fieldLink RL 79 "HighRecipesLaw$Kitchen" "recipes" "[[LHighRecipesLaw$Act;") (by decide +kernel)) (fun _ h9 => h9) (v := .ref re_443) rfl dL_act_443 ?_
    refine q_alen hx hb hA hW 9 rfl hre_443 (v := nI NR) rfl dL_act_446 ?_
    have hlt_447 : ∀ q x, (f_13) q = some x → q < n_13 := fun q x e => hW.lt e
    refine q_ci (va_runV (As := [.int (nI NR)]) (rest := []) ⟨hx, hb, hml, hown, hts⟩ (kX14_next l E f_13 n_13 r NR s1_13 e0_13 (by omega) (by omega)) (cwV 1 hts gL_act_X14_next rfl rfl rfl (by decide +kernel) ⟨(Nat.le_of_ble_eq_true rfl), (Nat.le_of_ble_eq_true rfl)⟩) (q_pV hA hW hS (ci := 14) rfl e0_13) rfl rfl hl.1 rfl (lv_room (Nat.le_of_ble_eq_true rfl)) dL_act_447 ⟨(by show _ ≤ 101; omega), (by show _ ≤ 2006; omega)⟩) hS (fun r_447 f_447 n_447 H locs hp hW hS => ?_)
    obtain ⟨j_447, s1_447, rfl, e0_447, ej_447, en_447, hfr_447⟩ := hp
    have l_e0_447 := hW.lt e0_447
    have hk_447 : f_447 k = some (cLK (v 0) (v 1) (v 2) (v 3) (some pa_443) (some re_443) (some ki_443) (some wa_443) (some no_443) (v 5) (nI b_443) w_443) := (hfr_447 _ (by omega)).trans hk0_443
    have hpa_2_447 : f_447 pa_2 = some (aQ E 8 pn gp_2) := (hfr_447 _ (by omega)).trans hpa_2_13
    have hre_2_447 : f_447 re_2 = some (aQ E 9 NR gre_2) := (hfr_447 _ (by omega)).trans hre_2_13
    have hpa_443_447 : f_447 pa_443 = some (aQ E 8 pn gp_443) := (hfr_447 _ (by omega)).trans hpa_443
    have hre_443_447 : f_447 re_443 = some (aQ E 9 NR gre_443) := (hfr_447 _ (by omega)).trans hre_443
    have hJ_447 : JA E a c nb r k s1_447 X f_447 n_447 BB pn NR ac hd v v RS := hJ_13.out hlt_447 (fun q h1 h2 => hfr_447 q h2) (Nat.le_of_eq en_447.symm) e0_447 (fun q hq => Or.inl hq)
    refine lv_istore (lv' := [(4, .int (nI j_447)), (3, .int (nI j_6)), (0, .ref a), (1, .ref k), (2, .ref r)]) hx hb dL_act_450 hl (by decide) rfl (fun ls hl => ?_)
    refine lv_aload_n hx hb dL_act_452 rfl (lv_at hl 2 rfl) ?_
    refine lv_iload hx hb dL_act_453 (lv_at hl 0 rfl) ?_
    refine q_ci (va_runV (As := [.int (nI j_447)]) (rest := []) ⟨hx, hb, hml, hown, hts⟩ (ja_cook l E f_447 n_447 a c nb r k s1_447 X BB pn NR ac hd v v RS j_447 hJ_447 (fun q x e => hW.lt e) (by omega) ej_447 (hJ_447.vcook (by omega) ej_447)) (cwV 1 hts gL_act_X12_cook rfl rfl rfl (by decide +kernel) ⟨(Nat.le_of_ble_eq_true rfl), (Nat.le_of_ble_eq_true rfl)⟩) (q_pV hA hW hS (ci := 12) rfl (Classical.choose_spec (Classical.choose_spec (Classical.choose_spec (Classical.choose_spec (Classical.choose_spec (Classical.choose_spec (Classical.choose_spec hJ_447.cell)))))))) rfl rfl hl.1 rfl (lv_room (Nat.le_of_ble_eq_true rfl)) dL_act_455 ⟨(by show _ ≤ 101; omega), (by show _ ≤ 2006; omega)⟩) hS (fun r_455 f_455 n_455 H locs hp hW hS => ?_)
    obtain ⟨rfl, eJ_455, en_455, hfr_455⟩ := hp
    refine lv_aload_n hx hb dL_act_458 rfl (lv_at hl 3 rfl) ?_
    refine lv_iload hx hb dL_act_459 (lv_at hl 0 rfl) ?_
    obtain ⟨P_461, pa_461, re_461, ki_461, wa_461, no_461, pr_461, b_461, w_461, hK_461, hs_461, hR_461, hO_461, hXk_461, hck_461⟩ := eJ_455.k
    obtain ⟨hk0_461, ⟨gk_461, hki_461, hkv_461⟩, ⟨gw_461, hwa_461, hwv_461⟩, ⟨gn_461, hno_461, hnv_461⟩, ⟨gp_461, hpa_461, hpv_461⟩, hrow_461⟩ := id hK_461
    obtain ⟨gre_461, hPre_461, hre_461, -⟩ := id hR_461
    have lk_461 := hW.lt hk0_461
    have lki_461 := hW.lt hki_461
    have lwa_461 := hW.lt hwa_461
    have lno_461 := hW.lt hno_461
    have lpa_461 := hW.lt hpa_461
    have nk_461 := eJ_455.ne
    have npa_461 := ne_ab eJ_455.dice hpa_461
    have nre_461 := ne_ab eJ_455.dice hre_461
    have nki_461 := ne_ab eJ_455.dice hki_461
    have nwa_461 := ne_ab eJ_455.dice hwa_461
    have nno_461 := ne_ab eJ_455.dice hno_461
    have hW0_461 := hW
    have hr8 := eJ_455.dice
    have lr8 := hW.lt hr8
    refine q_ci (va_runV (As := [.int (nI j_447)]) (rest := [.int ((RS j_447 hd (v, 0, (-1))).1 3 - v 3)]) ⟨hx, hb, hml, hown, hts⟩ (kX15_cook l E f_455 n_455 k pa_461 re_461 ki_461 wa_461 no_461 pn pr_461 hd v b_461 w_461 BB P_461 NR j_447 RS hK_461 hs_461 (by omega) hvo (by omega) hgm.2.2 hO_461 hR_461 ej_447) (cwV 1 hts gL_act_X15_cook rfl rfl rfl (by decide +kernel) ⟨(Nat.le_of_ble_eq_true rfl), (Nat.le_of_ble_eq_true rfl)⟩) (q_pV hA hW hS (ci := 15) rfl hk0_461) rfl rfl hl.1 rfl (lv_room (Nat.le_of_ble_eq_true rfl)) dL_act_461 ⟨(by show _ ≤ 101; omega), (by show _ ≤ 2006; omega)⟩) hS (fun r_461 f_461 n_461 H locs hp hW hS => ?_)
    obtain ⟨rfl, hB_461⟩ := hp
    obtain ⟨hJ_461, hX_461, hnn_461⟩ := hck_461 f_461 n_461 (BB + 100) (RS j_447 hd (v, 0, (-1))) (by omega) hB_461 (hJ_447.vcook (by omega) ej_447)
    have hr_461 := hJ_461.dice
    refine lv_icmp_ne (tgt := 471) hx hb dL_act_464 (by decide) (fun c_464 => False.elim ((fun h9 => h9 rfl) c_464)) (fun c_464 => ?_)
    refine lv_iconst (v := 1) hx hb dL_act_467 (by decide) ?_
    refine lv_goto (tgt := 472) hx hb dL_act_468 (by decide) ?_
    exact q_zret hx hb hr hlocks hW hS rfl ⟨(RS j_447 hd (v, 0, (-1))).1, s1_447, rfl, hJ_461, (by omega), (fun _ hq => ((hX_461 _ hq).trans ((hfr_455 _ hq).trans ((hfr_447 _ (hJ_13.xr _ hq)).trans ((hfr_13 _ (hJ_6.xr _ hq)).trans (hfr_6 _ (hJ.xr _ hq)))))))⟩ (by show _ ≤ 101; omega) (by show _ ≤ 2006; omega) dL_act_472
  · rw [show nI j_13 = 11 from by rw [hjv]; decide]
    refine lv_tableOut (x := 11) (tgt := 441) hx hb dL_act_16 (by decide) (by decide) ?_
    refine lv_aload_n hx hb dL_act_441 rfl (lv_at hl 3 rfl) ?_
    refine lv_aload_n hx hb dL_act_442 rfl (lv_at hl 2 rfl) ?_
    obtain ⟨P_443, pa_443, re_443, ki_443, wa_443, no_443, pr_443, b_443, w_443, hK_443, hs_443, hR_443, hO_443, hXk_443, hck_443⟩ := hJ_13.k
    obtain ⟨hk0_443, ⟨gk_443, hki_443, hkv_443⟩, ⟨gw_443, hwa_443, hwv_443⟩, ⟨gn_443, hno_443, hnv_443⟩, ⟨gp_443, hpa_443, hpv_443⟩, hrow_443⟩ := id hK_443
    obtain ⟨gre_443, hPre_443, hre_443, -⟩ := id hR_443
    have lk_443 := hW.lt hk0_443
    have lki_443 := hW.lt hki_443
    have lwa_443 := hW.lt hwa_443
    have lno_443 := hW.lt hno_443
    have lpa_443 := hW.lt hpa_443
    have nk_443 := hJ_13.ne
    have npa_443 := ne_ab hJ_13.dice hpa_443
    have nre_443 := ne_ab hJ_13.dice hre_443
    have nki_443 := ne_ab hJ_13.dice hki_443
    have nwa_443 := ne_ab hJ_13.dice hwa_443
    have nno_443 := ne_ab hJ_13.dice hno_443
    refine q_get hx hb hts hown hA hW iX15 hk0_443 rfl 5 (by decide) (hts (.fieldLink RL 79 "HighRecipesLaw$Kitchen" "recipes" "[[LHighRecipesLaw$Act;") (by decide +kernel)) (fun _ h9 => h9) (v := .ref re_443) rfl dL_act_443 ?_
    refine q_alen hx hb hA hW 9 rfl hre_443 (v := nI NR) rfl dL_act_446 ?_
    have hlt_447 : ∀ q x, (f_13) q = some x → q < n_13 := fun q x e => hW.lt e
    refine q_ci (va_runV (As := [.int (nI NR)]) (rest := []) ⟨hx, hb, hml, hown, hts⟩ (kX14_next l E f_13 n_13 r NR s1_13 e0_13 (by omega) (by omega)) (cwV 1 hts gL_act_X14_next rfl rfl rfl (by decide +kernel) ⟨(Nat.le_of_ble_eq_true rfl), (Nat.le_of_ble_eq_true rfl)⟩) (q_pV hA hW hS (ci := 14) rfl e0_13) rfl rfl hl.1 rfl (lv_room (Nat.le_of_ble_eq_true rfl)) dL_act_447 ⟨(by show _ ≤ 101; omega), (by show _ ≤ 2006; omega)⟩) hS (fun r_447 f_447 n_447 H locs hp hW hS => ?_)
    obtain ⟨j_447, s1_447, rfl, e0_447, ej_447, en_447, hfr_447⟩ := hp
    have l_e0_447 := hW.lt e0_447
    have hk_447 : f_447 k = some (cLK (v 0) (v 1) (v 2) (v 3) (some pa_443) (some re_443) (some ki_443) (some wa_443) (some no_443) (v 5) (nI b_443) w_443) := (hfr_447 _ (by omega)).trans hk0_443
    have hpa_2_447 : f_447 pa_2 = some (aQ E 8 pn gp_2) := (hfr_447 _ (by omega)).trans hpa_2_13
    have hre_2_447 : f_447 re_2 = some (aQ E 9 NR gre_2) := (hfr_447 _ (by omega)).trans hre_2_13
    have hpa_443_447 : f_447 pa_443 = some (aQ E 8 pn gp_443) := (hfr_447 _ (by omega)).trans hpa_443
    have hre_443_447 : f_447 re_443 = some (aQ E 9 NR gre_443) := (hfr_447 _ (by omega)).trans hre_443
    have hJ_447 : JA E a c nb r k s1_447 X f_447 n_447 BB pn NR ac hd v v RS := hJ_13.out hlt_447 (fun q h1 h2 => hfr_447 q h2) (Nat.le_of_eq en_447.symm) e0_447 (fun q hq => Or.inl hq)
    refine lv_istore (lv' := [(4, .int (nI j_447)), (3, .int (nI j_6)), (0, .ref a), (1, .ref k), (2, .ref r)]) hx hb dL_act_450 hl (by decide) rfl (fun ls hl => ?_)
    refine lv_aload_n hx hb dL_act_452 rfl (lv_at hl 2 rfl) ?_
    refine lv_iload hx hb dL_act_453 (lv_at hl 0 rfl) ?_
    refine q_ci (va_runV (As := [.int (nI j_447)]) (rest := []) ⟨hx, hb, hml, hown, hts⟩ (ja_cook l E f_447 n_447 a c nb r k s1_447 X BB pn NR ac hd v v RS j_447 hJ_447 (fun q x e => hW.lt e) (by omega) ej_447 (hJ_447.vcook (by omega) ej_447)) (cwV 1 hts gL_act_X12_cook rfl rfl rfl (by decide +kernel) ⟨(Nat.le_of_ble_eq_true rfl), (Nat.le_of_ble_eq_true rfl)⟩) (q_pV hA hW hS (ci := 12) rfl (Classical.choose_spec (Classical.choose_spec (Classical.choose_spec (Classical.choose_spec (Classical.choose_spec (Classical.choose_spec (Classical.choose_spec hJ_447.cell)))))))) rfl rfl hl.1 rfl (lv_room (Nat.le_of_ble_eq_true rfl)) dL_act_455 ⟨(by show _ ≤ 101; omega), (by show _ ≤ 2006; omega)⟩) hS (fun r_455 f_455 n_455 H locs hp hW hS => ?_)
    obtain ⟨rfl, eJ_455, en_455, hfr_455⟩ := hp
    refine lv_aload_n hx hb dL_act_458 rfl (lv_at hl 3 rfl) ?_
    refine lv_iload hx hb dL_act_459 (lv_at hl 0 rfl) ?_
    obtain ⟨P_461, pa_461, re_461, ki_461, wa_461, no_461, pr_461, b_461, w_461, hK_461, hs_461, hR_461, hO_461, hXk_461, hck_461⟩ := eJ_455.k
    obtain ⟨hk0_461, ⟨gk_461, hki_461, hkv_461⟩, ⟨gw_461, hwa_461, hwv_461⟩, ⟨gn_461, hno_461, hnv_461⟩, ⟨gp_461, hpa_461, hpv_461⟩, hrow_461⟩ := id hK_461
    obtain ⟨gre_461, hPre_461, hre_461, -⟩ := id hR_461
    have lk_461 := hW.lt hk0_461
    have lki_461 := hW.lt hki_461
    have lwa_461 := hW.lt hwa_461
    have lno_461 := hW.lt hno_461
    have lpa_461 := hW.lt hpa_461
    have nk_461 := eJ_455.ne
    have npa_461 := ne_ab eJ_455.dice hpa_461
    have nre_461 := ne_ab eJ_455.dice hre_461
    have nki_461 := ne_ab eJ_455.dice hki_461
    have nwa_461 := ne_ab eJ_455.dice hwa_461
    have nno_461 := ne_ab eJ_455.dice hno_461
    have hW0_461 := hW
    have hr8 := eJ_455.dice
    have lr8 := hW.lt hr8
    refine q_ci (va_runV (As := [.int (nI j_447)]) (rest := [.int ((RS j_447 hd (v, 0, (-1))).1 3 - v 3)]) ⟨hx, hb, hml, hown, hts⟩ (kX15_cook l E f_455 n_455 k pa_461 re_461 ki_461 wa_461 no_461 pn pr_461 hd v b_461 w_461 BB P_461 NR j_447 RS hK_461 hs_461 (by omega) hvo (by omega) hgm.2.2 hO_461 hR_461 ej_447) (cwV 1 hts gL_act_X15_cook rfl rfl rfl (by decide +kernel) ⟨(Nat.le_of_ble_eq_true rfl), (Nat.le_of_ble_eq_true rfl)⟩) (q_pV hA hW hS (ci := 15) rfl hk0_461) rfl rfl hl.1 rfl (lv_room (Nat.le_of_ble_eq_true rfl)) dL_act_461 ⟨(by show _ ≤ 101; omega), (by show _ ≤ 2006; omega)⟩) hS (fun r_461 f_461 n_461 H locs hp hW hS => ?_)
    obtain ⟨rfl, hB_461⟩ := hp
    obtain ⟨hJ_461, hX_461, hnn_461⟩ := hck_461 f_461 n_461 (BB + 100) (RS j_447 hd (v, 0, (-1))) (by omega) hB_461 (hJ_447.vcook (by omega) ej_447)
    have hr_461 := hJ_461.dice
    refine lv_icmp_ne (tgt := 471) hx hb dL_act_464 (by decide) (fun c_464 => False.elim ((fun h9 => h9 rfl) c_464)) (fun c_464 => ?_)
    refine lv_iconst (v := 1) hx hb dL_act_467 (by decide) ?_
    refine lv_goto (tgt := 472) hx hb dL_act_468 (by decide) ?_
    exact q_zret hx hb hr hlocks hW hS rfl ⟨(RS j_447 hd (v, 0, (-1))).1, s1_447, rfl, hJ_461, (by omega), (fun _ hq => ((hX_461 _ hq).trans ((hfr_455 _ hq).trans ((hfr_447 _ (hJ_13.xr _ hq)).trans ((hfr_13 _ (hJ_6.xr _ hq)).trans (hfr_6 _ (hJ.xr _ hq)))))))⟩ (by show _ ≤ 101; omega) (by show _ ≤ 2006; omega) dL_act_472
  · rw [show nI j_13 = 12 from by rw [hjv]; decide]
    refine lv_tableOut (x := 12) (tgt := 441) hx hb dL_act_16 (by decide) (by decide) ?_
    refine lv_aload_n hx hb dL_act_441 rfl (lv_at hl 3 rfl) ?_
    refine lv_aload_n hx hb dL_act_442 rfl (lv_at hl 2 rfl) ?_
    obtain ⟨P_443, pa_443, re_443, ki_443, wa_443, no_443, pr_443, b_443, w_443, hK_443, hs_443, hR_443, hO_443, hXk_443, hck_443⟩ := hJ_13.k
    obtain ⟨hk0_443, ⟨gk_443, hki_443, hkv_443⟩, ⟨gw_443, hwa_443, hwv_443⟩, ⟨gn_443, hno_443, hnv_443⟩, ⟨gp_443, hpa_443, hpv_443⟩, hrow_443⟩ := id hK_443
    obtain ⟨gre_443, hPre_443, hre_443, -⟩ := id hR_443
    have lk_443 := hW.lt hk0_443
    have lki_443 := hW.lt hki_443
    have lwa_443 := hW.lt hwa_443
    have lno_443 := hW.lt hno_443
    have lpa_443 := hW.lt hpa_443
    have nk_443 := hJ_13.ne
    have npa_443 := ne_ab hJ_13.dice hpa_443
    have nre_443 := ne_ab hJ_13.dice hre_443
    have nki_443 := ne_ab hJ_13.dice hki_443
    have nwa_443 := ne_ab hJ_13.dice hwa_443
    have nno_443 := ne_ab hJ_13.dice hno_443
    refine q_get hx hb hts hown hA hW iX15 hk0_443 rfl 5 (by decide) (hts (.fieldLink RL 79 "HighRecipesLaw$Kitchen" "recipes" "[[LHighRecipesLaw$Act;") (by decide +kernel)) (fun _ h9 => h9) (v := .ref re_443) rfl dL_act_443 ?_
    refine q_alen hx hb hA hW 9 rfl hre_443 (v := nI NR) rfl dL_act_446 ?_
    have hlt_447 : ∀ q x, (f_13) q = some x → q < n_13 := fun q x e => hW.lt e
    refine q_ci (va_runV (As := [.int (nI NR)]) (rest := []) ⟨hx, hb, hml, hown, hts⟩ (kX14_next l E f_13 n_13 r NR s1_13 e0_13 (by omega) (by omega)) (cwV 1 hts gL_act_X14_next rfl rfl rfl (by decide +kernel) ⟨(Nat.le_of_ble_eq_true rfl), (Nat.le_of_ble_eq_true rfl)⟩) (q_pV hA hW hS (ci := 14) rfl e0_13) rfl rfl hl.1 rfl (lv_room (Nat.le_of_ble_eq_true rfl)) dL_act_447 ⟨(by show _ ≤ 101; omega), (by show _ ≤ 2006; omega)⟩) hS (fun r_447 f_447 n_447 H locs hp hW hS => ?_)
    obtain ⟨j_447, s1_447, rfl, e0_447, ej_447, en_447, hfr_447⟩ := hp
    have l_e0_447 := hW.lt e0_447
    have hk_447 : f_447 k = some (cLK (v 0) (v 1) (v 2) (v 3) (some pa_443) (some re_443) (some ki_443) (some wa_443) (some no_443) (v 5) (nI b_443) w_443) := (hfr_447 _ (by omega)).trans hk0_443
    have hpa_2_447 : f_447 pa_2 = some (aQ E 8 pn gp_2) := (hfr_447 _ (by omega)).trans hpa_2_13
    have hre_2_447 : f_447 re_2 = some (aQ E 9 NR gre_2) := (hfr_447 _ (by omega)).trans hre_2_13
    have hpa_443_447 : f_447 pa_443 = some (aQ E 8 pn gp_443) := (hfr_447 _ (by omega)).trans hpa_443
    have hre_443_447 : f_447 re_443 = some (aQ E 9 NR gre_443) := (hfr_447 _ (by omega)).trans hre_443
    have hJ_447 : JA E a c nb r k s1_447 X f_447 n_447 BB pn NR ac hd v v RS := hJ_13.out hlt_447 (fun q h1 h2 => hfr_447 q h2) (Nat.le_of_eq en_447.symm) e0_447 (fun q hq => Or.inl hq)
    refine lv_istore (lv' := [(4, .int (nI j_447)), (3, .int (nI j_6)), (0, .ref a), (1, .ref k), (2, .ref r)]) hx hb dL_act_450 hl (by decide) rfl (fun ls hl => ?_)
    refine lv_aload_n hx hb dL_act_452 rfl (lv_at hl 2 rfl) ?_
    refine lv_iload hx hb dL_act_453 (lv_at hl 0 rfl) ?_
    refine q_ci (va_runV (As := [.int (nI j_447)]) (rest := []) ⟨hx, hb, hml, hown, hts⟩ (ja_cook l E f_447 n_447 a c nb r k s1_447 X BB pn NR ac hd v v RS j_447 hJ_447 (fun q x e => hW.lt e) (by omega) ej_447 (hJ_447.vcook (by omega) ej_447)) (cwV 1 hts gL_act_X12_cook rfl rfl rfl (by decide +kernel) ⟨(Nat.le_of_ble_eq_true rfl), (Nat.le_of_ble_eq_true rfl)⟩) (q_pV hA hW hS (ci := 12) rfl (Classical.choose_spec (Classical.choose_spec (Classical.choose_spec (Classical.choose_spec (Classical.choose_spec (Classical.choose_spec (Classical.choose_spec hJ_447.cell)))))))) rfl rfl hl.1 rfl (lv_room (Nat.le_of_ble_eq_true rfl)) dL_act_455 ⟨(by show _ ≤ 101; omega), (by show _ ≤ 2006; omega)⟩) hS (fun r_455 f_455 n_455 H locs hp hW hS => ?_)
    obtain ⟨rfl, eJ_455, en_455, hfr_455⟩ := hp
    refine lv_aload_n hx hb dL_act_458 rfl (lv_at hl 3 rfl) ?_
    refine lv_iload hx hb dL_act_459 (lv_at hl 0 rfl) ?_
    obtain ⟨P_461, pa_461, re_461, ki_461, wa_461, no_461, pr_461, b_461, w_461, hK_461, hs_461, hR_461, hO_461, hXk_461, hck_461⟩ := eJ_455.k
    obtain ⟨hk0_461, ⟨gk_461, hki_461, hkv_461⟩, ⟨gw_461, hwa_461, hwv_461⟩, ⟨gn_461, hno_461, hnv_461⟩, ⟨gp_461, hpa_461, hpv_461⟩, hrow_461⟩ := id hK_461
    obtain ⟨gre_461, hPre_461, hre_461, -⟩ := id hR_461
    have lk_461 := hW.lt hk0_461
    have lki_461 := hW.lt hki_461
    have lwa_461 := hW.lt hwa_461
    have lno_461 := hW.lt hno_461
    have lpa_461 := hW.lt hpa_461
    have nk_461 := eJ_455.ne
    have npa_461 := ne_ab eJ_455.dice hpa_461
    have nre_461 := ne_ab eJ_455.dice hre_461
    have nki_461 := ne_ab eJ_455.dice hki_461
    have nwa_461 := ne_ab eJ_455.dice hwa_461
    have nno_461 := ne_ab eJ_455.dice hno_461
    have hW0_461 := hW
    have hr8 := eJ_455.dice
    have lr8 := hW.lt hr8
    refine q_ci (va_runV (As := [.int (nI j_447)]) (rest := [.int ((RS j_447 hd (v, 0, (-1))).1 3 - v 3)]) ⟨hx, hb, hml, hown, hts⟩ (kX15_cook l E f_455 n_455 k pa_461 re_461 ki_461 wa_461 no_461 pn pr_461 hd v b_461 w_461 BB P_461 NR j_447 RS hK_461 hs_461 (by omega) hvo (by omega) hgm.2.2 hO_461 hR_461 ej_447) (cwV 1 hts gL_act_X15_cook rfl rfl rfl (by decide +kernel) ⟨(Nat.le_of_ble_eq_true rfl), (Nat.le_of_ble_eq_true rfl)⟩) (q_pV hA hW hS (ci := 15) rfl hk0_461) rfl rfl hl.1 rfl (lv_room (Nat.le_of_ble_eq_true rfl)) dL_act_461 ⟨(by show _ ≤ 101; omega), (by show _ ≤ 2006; omega)⟩) hS (fun r_461 f_461 n_461 H locs hp hW hS => ?_)
    obtain ⟨rfl, hB_461⟩ := hp
    obtain ⟨hJ_461, hX_461, hnn_461⟩ := hck_461 f_461 n_461 (BB + 100) (RS j_447 hd (v, 0, (-1))) (by omega) hB_461 (hJ_447.vcook (by omega) ej_447)
    have hr_461 := hJ_461.dice
    refine lv_icmp_ne (tgt := 471) hx hb dL_act_464 (by decide) (fun c_464 => False.elim ((fun h9 => h9 rfl) c_464)) (fun c_464 => ?_)
    refine lv_iconst (v := 1) hx hb dL_act_467 (by decide) ?_
    refine lv_goto (tgt := 472) hx hb dL_act_468 (by decide) ?_
    exact q_zret hx hb hr hlocks hW hS rfl ⟨(RS j_447 hd (v, 0, (-1))).1, s1_447, rfl, hJ_461, (by omega), (fun _ hq => ((hX_461 _ hq).trans ((hfr_455 _ hq).trans ((hfr_447 _ (hJ_13.xr _ hq)).trans ((hfr_13 _ (hJ_6.xr _ hq)).trans (hfr_6 _ (hJ.xr _ hq)))))))⟩ (by show _ ≤ 101; omega) (by show _ ≤ 2006; omega) dL_act_472

