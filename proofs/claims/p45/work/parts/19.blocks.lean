set_option maxHeartbeats 4000000 in
set_option maxRecDepth 100000 in
theorem kX3_allAreSoN (l : Launch) (E : q_E) (f : q_H) (n : Nat) (ck k bk : Nat) (hd v : Nat → Int32) (b : Nat) (w : Int32) (pn : Nat) (rc ac : Int32) (lo hi : Nat) (m0 : Nat) (C0 : q_V → q_V → Bool) (hc : f ck = some (cCook k (nI b) w)) (hB : f bk = some (cBook bk (nI pn) rc ac)) (hk : KIT E f k bk hd v) (hbo : kOut k bk) (hpn : pn ≤ 8) (hck : kOut k ck) (hrC : rC E pn lo hi f m0 (none) C0) : Met l yX3_allAreSo wsX3_allAreSo ({ frames := 16, cells := 0, slots := 0, locals := 600 }) (q_P E [.ref ck, .null] f n) (q_Qi E (fun r f1 n1 => (if C0 hd v = true then 1 else 0) = r ∧ f = f1 ∧ n = n1)) 0 0 (q_ge E) := by
  refine Met.ofW (cc := cX3_allAreSo) (maxL := 6) (ret := (some .boolean)) (by decide) rfl ?_
  intro p e s m args below meth c s₁ B hml hv
  obtain ⟨rfl, hA, hW⟩ := hv
  have hx := B.exec
  have hb := B.bytes
  have hr := B.returns
  have hts := atoms_spec (ws := wsX3_allAreSo) B.pre
  have hown : s.vm.findClass RX3 = some m.cls := findClass_of_methodNamed B.named
  have hlocks := B.notSynchronized
  have hS : va_S (q_ge E) s.heap s.heap [] := va_S.rf
  have iX11 : ∀ w ∈ wsX110, w ∈ wsX3_allAreSo := by decide +kernel
  have hl := lv_entry ([.ref ck, .null]) (n := 6) (Nat.le_of_ble_eq_true rfl)
  rw [lg_entry_eq]
  generalize (lg_sl ([.ref ck, .null]) ++ List.replicate (6 - (lg_sl ([.ref ck, .null])).length) Slot.unset).toArray = ls at hl ⊢
  have hl : lv_has ls 6 [(0, .ref ck), (1, .null)] := hl
  have K2 : ∀ (mm : Nat) (o : Option Nat) (C1 : q_V → q_V → Bool), rC E pn lo hi f mm o C1 → C0 hd v = C1 hd v → ∀ (H : Heap) (locs : List Loc) (ls : Array Slot), q_W E f n H → va_S (q_ge E) s.heap H locs → lv_has ls 6 [(0, .ref ck), (2, va_rf o)] → W p l e (headSpec wsX3_allAreSo ({ frames := 16, cells := 0, slots := 0, locals := 600 })).room s m ([.ref ck, .null] : List Value).toArray below meth c H locs 0 0 (MQ below (q_Qi E (fun r f1 n1 => (if C0 hd v = true then 1 else 0) = r ∧ f = f1 ∧ n = n1)) ([.ref ck, .null] : List Value).toArray s 0 0 (q_ge E)) (F0 m 2 ls []) := by
    intro mm
    induction mm with
    | zero =>
      intro o C1 hrc hCC H locs ls hW hS hl
      obtain ⟨rfl, rfl⟩ := hrc
      refine lv_aload_nN hx hb dX3_allAreSo_2 rfl (lv_at hl 1 rfl) ?_
      refine lv_ifnullN (tgt := 97) hx hb dX3_allAreSo_3 (by decide) ?_
      refine lv_iconst (v := 1) hx hb dX3_allAreSo_97 (by decide) ?_
      exact q_zret hx hb hr hlocks hW hS rfl ⟨(if_pos hCC), rfl, rfl⟩ (Nat.le_of_ble_eq_true rfl) (Nat.le_of_ble_eq_true rfl) dX3_allAreSo_98
    | succ mm ih =>
      intro o C1 hrc hCC H locs ls hW hS hl
      obtain ⟨a, kd, num, x, y, h, C2, D1, D2, rfl, -, -, he, k1, k2, r1, r2, rc1, rfl⟩ := hrc
      rcases (by omega : kd = 30 ∨ kd = 31 ∨ kd = 32) with rfl | rfl | rfl
      · refine lv_aload_n hx hb dX3_allAreSo_2 rfl (lv_at hl 1 rfl) ?_
        refine lv_ifnull hx hb dX3_allAreSo_3 ?_
        refine lv_aload_n hx hb dX3_allAreSo_6 rfl (lv_at hl 0 rfl) ?_
        refine lv_aload_n hx hb dX3_allAreSo_7 rfl (lv_at hl 1 rfl) ?_
        refine q_getN hx hb hts hown hA hW iX11 he rfl 2 (by decide) (va_Nw.use rfl (hA.2.2.2.1 ("HighRecipes$Cooking", 188, "HighRecipes$Value", "left", "LHighRecipes$Value;", "HighRecipes") (by decide +kernel))) (fun _ h9 => h9) (v := .ref x) rfl dX3_allAreSo_8 ?_
        refine lv_iconst (v := 0) hx hb dX3_allAreSo_11 (by decide) ?_
        refine q_ci (va_runV (As := [.ref x, .int 0]) (rest := []) ⟨hx, hb, hml, hown, hts⟩ (kX3_worth l E n f ck k bk hd v (nI b) w pn rc ac lo hi hc hB hk hbo hpn 5 x 0 D1 r1 (by decide)) (cwV 2 hts gX3_allAreSo_X3_worth rfl rfl rfl (by decide +kernel) ⟨(Nat.le_of_ble_eq_true rfl), (Nat.le_of_ble_eq_true rfl)⟩) (q_pV hA hW hS (ci := 4) rfl hc) rfl rfl hl.1 rfl (lv_room (Nat.le_of_ble_eq_true rfl)) dX3_allAreSo_12 ⟨Nat.le_of_ble_eq_true rfl, Nat.le_of_ble_eq_true rfl⟩) hS (fun r_12 f_12 n_12 H locs hp hW hS => ?_)
        obtain ⟨rfl, rfl, rfl⟩ := hp
        have hW : q_W E (f) n H := hW
        refine lv_istore_n (lv' := [(3, .int (D1 hd v)), (0, .ref ck), (2, .ref a)]) hx hb dX3_allAreSo_15 rfl hl (by decide) rfl (fun ls hl => ?_)
        refine lv_aload_n hx hb dX3_allAreSo_16 rfl (lv_at hl 1 rfl) ?_
        refine lv_aload_n hx hb dX3_allAreSo_17 rfl (lv_at hl 2 rfl) ?_
        refine q_getN hx hb hts hown hA hW iX11 he rfl 3 (by decide) (va_Nw.use rfl (hA.2.2.2.1 ("HighRecipes$Cooking", 193, "HighRecipes$Value", "right", "LHighRecipes$Value;", "HighRecipes") (by decide +kernel))) (fun _ h9 => h9) (v := .ref y) rfl dX3_allAreSo_18 ?_
        refine lv_iconst (v := 0) hx hb dX3_allAreSo_21 (by decide) ?_
        refine q_ci (va_runV (As := [.ref y, .int 0]) (rest := []) ⟨hx, hb, hml, hown, hts⟩ (kX3_worth l E n f ck k bk hd v (nI b) w pn rc ac lo hi hc hB hk hbo hpn 5 y 0 D2 r2 (by decide)) (cwV 2 hts gX3_allAreSo_X3_worth rfl rfl rfl (by decide +kernel) ⟨(Nat.le_of_ble_eq_true rfl), (Nat.le_of_ble_eq_true rfl)⟩) (q_pV hA hW hS (ci := 4) rfl hc) rfl rfl hl.1 rfl (lv_room (Nat.le_of_ble_eq_true rfl)) dX3_allAreSo_22 ⟨Nat.le_of_ble_eq_true rfl, Nat.le_of_ble_eq_true rfl⟩) hS (fun r_22 f_22 n_22 H locs hp hW hS => ?_)
        obtain ⟨rfl, rfl, rfl⟩ := hp
        have hW : q_W E (f) n H := hW
        refine lv_istore (lv' := [(4, .int (D2 hd v)), (3, .int (D1 hd v)), (0, .ref ck), (2, .ref a)]) hx hb dX3_allAreSo_25 hl (by decide) rfl (fun ls hl => ?_)
        refine lv_aload_n hx hb dX3_allAreSo_27 rfl (lv_at hl 3 rfl) ?_
        refine q_getN hx hb hts hown hA hW iX11 he rfl 0 (by decide) (va_Nw.use rfl (hA.2.2.2.1 ("HighRecipes$Cooking", 196, "HighRecipes$Value", "kind", "LHighRecipes$Kind;", "HighRecipes") (by decide +kernel))) (fun _ h9 => h9) (v := .ref (E.2.2.2 30)) rfl dX3_allAreSo_28 ?_
        refine va_gets (n := "LESS") (v := .ref (E.2.2.2 30)) hx hb (hA.2.2.1.1.1 30 (by decide)).1 hS hown (hts (.fieldLink RX3 197 "HighRecipes$Kind" "LESS" "LHighRecipes$Kind;") (by decide +kernel)) (fun _ h9 => h9) dX3_allAreSo_31 ?_
        refine lv_acmp_ne (rx := (some (E.2.2.2 30))) (ry := (some (E.2.2.2 30))) (tgt := 43) hx hb dX3_allAreSo_34 (by decide) (fun c_34 => False.elim ((fun h9 => h9 rfl) c_34)) (fun c_34 => ?_)
        refine lv_iload_n hx hb dX3_allAreSo_37 rfl (lv_at hl 1 rfl) ?_
        refine lv_iload hx hb dX3_allAreSo_38 (lv_at hl 0 rfl) ?_
        refine lv_icmp_lt (tgt := 75) hx hb dX3_allAreSo_40 (by decide) (fun c_40 => ?_) (fun c_40 => ?_)
        · refine lv_iconst (v := 1) hx hb dX3_allAreSo_75 (by decide) ?_
          refine lv_goto (tgt := 80) hx hb dX3_allAreSo_76 (by decide) ?_
          refine lv_istore (lv' := [(5, .int 1), (4, .int (D2 hd v)), (3, .int (D1 hd v)), (0, .ref ck), (2, .ref a)]) hx hb dX3_allAreSo_80 hl (by decide) rfl (fun ls hl => ?_)
          refine lv_iload hx hb dX3_allAreSo_82 (lv_at hl 0 rfl) ?_
          refine lv_if_ne (tgt := 89) hx hb dX3_allAreSo_84 (by decide) (fun c_84 => ?_) (fun c_84 => False.elim ((fun h9 => absurd h9 (by decide)) c_84))
          refine lv_aload_n hx hb dX3_allAreSo_89 rfl (lv_at hl 4 rfl) ?_
          refine q_getN hx hb hts hown hA hW iX11 he rfl 4 (by decide) (va_Nw.use rfl (hA.2.2.2.1 ("HighRecipes$Cooking", 206, "HighRecipes$Value", "ahead", "LHighRecipes$Value;", "HighRecipes") (by decide +kernel))) (fun _ h9 => h9) (v := va_rf h) rfl dX3_allAreSo_90 ?_
          refine q_astore_nQ (lv' := [(2, va_rf h), (5, .int 1), (4, .int (D2 hd v)), (3, .int (D1 hd v)), (0, .ref ck)]) hx hb dX3_allAreSo_93 rfl hl (by decide) rfl (fun ls hl => ?_)
          refine lv_goto (tgt := 2) hx hb dX3_allAreSo_94 (by decide) ?_
          exact ih h C2 rc1 (by rw [hCC]; simp [c_cmp, c_40]) _ _ _ hW hS (lv_sub hl [4, 0] rfl)
        · refine lv_aload_n hx hb dX3_allAreSo_43 rfl (lv_at hl 3 rfl) ?_
          refine q_getN hx hb hts hown hA hW iX11 he rfl 0 (by decide) (va_Nw.use rfl (hA.2.2.2.1 ("HighRecipes$Cooking", 196, "HighRecipes$Value", "kind", "LHighRecipes$Kind;", "HighRecipes") (by decide +kernel))) (fun _ h9 => h9) (v := .ref (E.2.2.2 30)) rfl dX3_allAreSo_44 ?_
          refine va_gets (n := "GREATER") (v := .ref (E.2.2.2 31)) hx hb (hA.2.2.1.1.1 31 (by decide)).1 hS hown (hts (.fieldLink RX3 200 "HighRecipes$Kind" "GREATER" "LHighRecipes$Kind;") (by decide +kernel)) (fun _ h9 => h9) dX3_allAreSo_47 ?_
          refine lv_acmp_ne (rx := (some (E.2.2.2 30))) (ry := (some (E.2.2.2 31))) (tgt := 59) hx hb dX3_allAreSo_50 (by decide) (fun c_50 => ?_) (fun c_50 => False.elim ((fun h9 => absurd (hA.2.2.1.1.2 _ _ (by decide) (by decide) (Option.some.inj h9)) (by decide)) c_50))
          refine lv_aload_n hx hb dX3_allAreSo_59 rfl (lv_at hl 3 rfl) ?_
          refine q_getN hx hb hts hown hA hW iX11 he rfl 0 (by decide) (va_Nw.use rfl (hA.2.2.2.1 ("HighRecipes$Cooking", 196, "HighRecipes$Value", "kind", "LHighRecipes$Kind;", "HighRecipes") (by decide +kernel))) (fun _ h9 => h9) (v := .ref (E.2.2.2 30)) rfl dX3_allAreSo_60 ?_
          refine va_gets (n := "EQUAL") (v := .ref (E.2.2.2 32)) hx hb (hA.2.2.1.1.1 32 (by decide)).1 hS hown (hts (.fieldLink RX3 203 "HighRecipes$Kind" "EQUAL" "LHighRecipes$Kind;") (by decide +kernel)) (fun _ h9 => h9) dX3_allAreSo_63 ?_
          refine lv_acmp_ne (rx := (some (E.2.2.2 30))) (ry := (some (E.2.2.2 32))) (tgt := 79) hx hb dX3_allAreSo_66 (by decide) (fun c_66 => ?_) (fun c_66 => False.elim ((fun h9 => absurd (hA.2.2.1.1.2 _ _ (by decide) (by decide) (Option.some.inj h9)) (by decide)) c_66))
          refine lv_iconst (v := 0) hx hb dX3_allAreSo_79 (by decide) ?_
          refine lv_istore (lv' := [(5, .int 0), (4, .int (D2 hd v)), (3, .int (D1 hd v)), (0, .ref ck), (2, .ref a)]) hx hb dX3_allAreSo_80 hl (by decide) rfl (fun ls hl => ?_)
          refine lv_iload hx hb dX3_allAreSo_82 (lv_at hl 0 rfl) ?_
          refine lv_if_ne (tgt := 89) hx hb dX3_allAreSo_84 (by decide) (fun c_84 => False.elim ((fun h9 => h9 rfl) c_84)) (fun c_84 => ?_)
          refine lv_iconst (v := 0) hx hb dX3_allAreSo_87 (by decide) ?_
          exact q_zret hx hb hr hlocks hW hS rfl ⟨(by rw [hCC]; simp [c_cmp, c_40]), rfl, rfl⟩ (Nat.le_of_ble_eq_true rfl) (Nat.le_of_ble_eq_true rfl) dX3_allAreSo_88
      · refine lv_aload_n hx hb dX3_allAreSo_2 rfl (lv_at hl 1 rfl) ?_
        refine lv_ifnull hx hb dX3_allAreSo_3 ?_
        refine lv_aload_n hx hb dX3_allAreSo_6 rfl (lv_at hl 0 rfl) ?_
        refine lv_aload_n hx hb dX3_allAreSo_7 rfl (lv_at hl 1 rfl) ?_
        refine q_getN hx hb hts hown hA hW iX11 he rfl 2 (by decide) (va_Nw.use rfl (hA.2.2.2.1 ("HighRecipes$Cooking", 188, "HighRecipes$Value", "left", "LHighRecipes$Value;", "HighRecipes") (by decide +kernel))) (fun _ h9 => h9) (v := .ref x) rfl dX3_allAreSo_8 ?_
        refine lv_iconst (v := 0) hx hb dX3_allAreSo_11 (by decide) ?_
        refine q_ci (va_runV (As := [.ref x, .int 0]) (rest := []) ⟨hx, hb, hml, hown, hts⟩ (kX3_worth l E n f ck k bk hd v (nI b) w pn rc ac lo hi hc hB hk hbo hpn 5 x 0 D1 r1 (by decide)) (cwV 2 hts gX3_allAreSo_X3_worth rfl rfl rfl (by decide +kernel) ⟨(Nat.le_of_ble_eq_true rfl), (Nat.le_of_ble_eq_true rfl)⟩) (q_pV hA hW hS (ci := 4) rfl hc) rfl rfl hl.1 rfl (lv_room (Nat.le_of_ble_eq_true rfl)) dX3_allAreSo_12 ⟨Nat.le_of_ble_eq_true rfl, Nat.le_of_ble_eq_true rfl⟩) hS (fun r_12 f_12 n_12 H locs hp hW hS => ?_)
        obtain ⟨rfl, rfl, rfl⟩ := hp
        have hW : q_W E (f) n H := hW
        refine lv_istore_n (lv' := [(3, .int (D1 hd v)), (0, .ref ck), (2, .ref a)]) hx hb dX3_allAreSo_15 rfl hl (by decide) rfl (fun ls hl => ?_)
        refine lv_aload_n hx hb dX3_allAreSo_16 rfl (lv_at hl 1 rfl) ?_
        refine lv_aload_n hx hb dX3_allAreSo_17 rfl (lv_at hl 2 rfl) ?_
        refine q_getN hx hb hts hown hA hW iX11 he rfl 3 (by decide) (va_Nw.use rfl (hA.2.2.2.1 ("HighRecipes$Cooking", 193, "HighRecipes$Value", "right", "LHighRecipes$Value;", "HighRecipes") (by decide +kernel))) (fun _ h9 => h9) (v := .ref y) rfl dX3_allAreSo_18 ?_
        refine lv_iconst (v := 0) hx hb dX3_allAreSo_21 (by decide) ?_
        refine q_ci (va_runV (As := [.ref y, .int 0]) (rest := []) ⟨hx, hb, hml, hown, hts⟩ (kX3_worth l E n f ck k bk hd v (nI b) w pn rc ac lo hi hc hB hk hbo hpn 5 y 0 D2 r2 (by decide)) (cwV 2 hts gX3_allAreSo_X3_worth rfl rfl rfl (by decide +kernel) ⟨(Nat.le_of_ble_eq_true rfl), (Nat.le_of_ble_eq_true rfl)⟩) (q_pV hA hW hS (ci := 4) rfl hc) rfl rfl hl.1 rfl (lv_room (Nat.le_of_ble_eq_true rfl)) dX3_allAreSo_22 ⟨Nat.le_of_ble_eq_true rfl, Nat.le_of_ble_eq_true rfl⟩) hS (fun r_22 f_22 n_22 H locs hp hW hS => ?_)
        obtain ⟨rfl, rfl, rfl⟩ := hp
        have hW : q_W E (f) n H := hW
        refine lv_istore (lv' := [(4, .int (D2 hd v)), (3, .int (D1 hd v)), (0, .ref ck), (2, .ref a)]) hx hb dX3_allAreSo_25 hl (by decide) rfl (fun ls hl => ?_)
        refine lv_aload_n hx hb dX3_allAreSo_27 rfl (lv_at hl 3 rfl) ?_
        refine q_getN hx hb hts hown hA hW iX11 he rfl 0 (by decide) (va_Nw.use rfl (hA.2.2.2.1 ("HighRecipes$Cooking", 196, "HighRecipes$Value", "kind", "LHighRecipes$Kind;", "HighRecipes") (by decide +kernel))) (fun _ h9 => h9) (v := .ref (E.2.2.2 31)) rfl dX3_allAreSo_28 ?_
        refine va_gets (n := "LESS") (v := .ref (E.2.2.2 30)) hx hb (hA.2.2.1.1.1 30 (by decide)).1 hS hown (hts (.fieldLink RX3 197 "HighRecipes$Kind" "LESS" "LHighRecipes$Kind;") (by decide +kernel)) (fun _ h9 => h9) dX3_allAreSo_31 ?_
        refine lv_acmp_ne (rx := (some (E.2.2.2 31))) (ry := (some (E.2.2.2 30))) (tgt := 43) hx hb dX3_allAreSo_34 (by decide) (fun c_34 => ?_) (fun c_34 => False.elim ((fun h9 => absurd (hA.2.2.1.1.2 _ _ (by decide) (by decide) (Option.some.inj h9)) (by decide)) c_34))
        refine lv_aload_n hx hb dX3_allAreSo_43 rfl (lv_at hl 3 rfl) ?_
        refine q_getN hx hb hts hown hA hW iX11 he rfl 0 (by decide) (va_Nw.use rfl (hA.2.2.2.1 ("HighRecipes$Cooking", 196, "HighRecipes$Value", "kind", "LHighRecipes$Kind;", "HighRecipes") (by decide +kernel))) (fun _ h9 => h9) (v := .ref (E.2.2.2 31)) rfl dX3_allAreSo_44 ?_
        refine va_gets (n := "GREATER") (v := .ref (E.2.2.2 31)) hx hb (hA.2.2.1.1.1 31 (by decide)).1 hS hown (hts (.fieldLink RX3 200 "HighRecipes$Kind" "GREATER" "LHighRecipes$Kind;") (by decide +kernel)) (fun _ h9 => h9) dX3_allAreSo_47 ?_
        refine lv_acmp_ne (rx := (some (E.2.2.2 31))) (ry := (some (E.2.2.2 31))) (tgt := 59) hx hb dX3_allAreSo_50 (by decide) (fun c_50 => False.elim ((fun h9 => h9 rfl) c_50)) (fun c_50 => ?_)
        refine lv_iload_n hx hb dX3_allAreSo_53 rfl (lv_at hl 1 rfl) ?_
        refine lv_iload hx hb dX3_allAreSo_54 (lv_at hl 0 rfl) ?_
        refine lv_icmp_gt (tgt := 75) hx hb dX3_allAreSo_56 (by decide) (fun c_56 => ?_) (fun c_56 => ?_)
        · refine lv_iconst (v := 1) hx hb dX3_allAreSo_75 (by decide) ?_
          refine lv_goto (tgt := 80) hx hb dX3_allAreSo_76 (by decide) ?_
          refine lv_istore (lv' := [(5, .int 1), (4, .int (D2 hd v)), (3, .int (D1 hd v)), (0, .ref ck), (2, .ref a)]) hx hb dX3_allAreSo_80 hl (by decide) rfl (fun ls hl => ?_)
          refine lv_iload hx hb dX3_allAreSo_82 (lv_at hl 0 rfl) ?_
          refine lv_if_ne (tgt := 89) hx hb dX3_allAreSo_84 (by decide) (fun c_84 => ?_) (fun c_84 => False.elim ((fun h9 => absurd h9 (by decide)) c_84))
          refine lv_aload_n hx hb dX3_allAreSo_89 rfl (lv_at hl 4 rfl) ?_
          refine q_getN hx hb hts hown hA hW iX11 he rfl 4 (by decide) (va_Nw.use rfl (hA.2.2.2.1 ("HighRecipes$Cooking", 206, "HighRecipes$Value", "ahead", "LHighRecipes$Value;", "HighRecipes") (by decide +kernel))) (fun _ h9 => h9) (v := va_rf h) rfl dX3_allAreSo_90 ?_
          refine q_astore_nQ (lv' := [(2, va_rf h), (5, .int 1), (4, .int (D2 hd v)), (3, .int (D1 hd v)), (0, .ref ck)]) hx hb dX3_allAreSo_93 rfl hl (by decide) rfl (fun ls hl => ?_)
          refine lv_goto (tgt := 2) hx hb dX3_allAreSo_94 (by decide) ?_
          exact ih h C2 rc1 (by rw [hCC]; simp [c_cmp, c_56]) _ _ _ hW hS (lv_sub hl [4, 0] rfl)
        · refine lv_aload_n hx hb dX3_allAreSo_59 rfl (lv_at hl 3 rfl) ?_
          refine q_getN hx hb hts hown hA hW iX11 he rfl 0 (by decide) (va_Nw.use rfl (hA.2.2.2.1 ("HighRecipes$Cooking", 196, "HighRecipes$Value", "kind", "LHighRecipes$Kind;", "HighRecipes") (by decide +kernel))) (fun _ h9 => h9) (v := .ref (E.2.2.2 31)) rfl dX3_allAreSo_60 ?_
          refine va_gets (n := "EQUAL") (v := .ref (E.2.2.2 32)) hx hb (hA.2.2.1.1.1 32 (by decide)).1 hS hown (hts (.fieldLink RX3 203 "HighRecipes$Kind" "EQUAL" "LHighRecipes$Kind;") (by decide +kernel)) (fun _ h9 => h9) dX3_allAreSo_63 ?_
          refine lv_acmp_ne (rx := (some (E.2.2.2 31))) (ry := (some (E.2.2.2 32))) (tgt := 79) hx hb dX3_allAreSo_66 (by decide) (fun c_66 => ?_) (fun c_66 => False.elim ((fun h9 => absurd (hA.2.2.1.1.2 _ _ (by decide) (by decide) (Option.some.inj h9)) (by decide)) c_66))
          refine lv_iconst (v := 0) hx hb dX3_allAreSo_79 (by decide) ?_
          refine lv_istore (lv' := [(5, .int 0), (4, .int (D2 hd v)), (3, .int (D1 hd v)), (0, .ref ck), (2, .ref a)]) hx hb dX3_allAreSo_80 hl (by decide) rfl (fun ls hl => ?_)
          refine lv_iload hx hb dX3_allAreSo_82 (lv_at hl 0 rfl) ?_
          refine lv_if_ne (tgt := 89) hx hb dX3_allAreSo_84 (by decide) (fun c_84 => False.elim ((fun h9 => h9 rfl) c_84)) (fun c_84 => ?_)
          refine lv_iconst (v := 0) hx hb dX3_allAreSo_87 (by decide) ?_
          exact q_zret hx hb hr hlocks hW hS rfl ⟨(by rw [hCC]; simp [c_cmp, c_56]), rfl, rfl⟩ (Nat.le_of_ble_eq_true rfl) (Nat.le_of_ble_eq_true rfl) dX3_allAreSo_88
      · refine lv_aload_n hx hb dX3_allAreSo_2 rfl (lv_at hl 1 rfl) ?_
        refine lv_ifnull hx hb dX3_allAreSo_3 ?_
        refine lv_aload_n hx hb dX3_allAreSo_6 rfl (lv_at hl 0 rfl) ?_
        refine lv_aload_n hx hb dX3_allAreSo_7 rfl (lv_at hl 1 rfl) ?_
        refine q_getN hx hb hts hown hA hW iX11 he rfl 2 (by decide) (va_Nw.use rfl (hA.2.2.2.1 ("HighRecipes$Cooking", 188, "HighRecipes$Value", "left", "LHighRecipes$Value;", "HighRecipes") (by decide +kernel))) (fun _ h9 => h9) (v := .ref x) rfl dX3_allAreSo_8 ?_
        refine lv_iconst (v := 0) hx hb dX3_allAreSo_11 (by decide) ?_
        refine q_ci (va_runV (As := [.ref x, .int 0]) (rest := []) ⟨hx, hb, hml, hown, hts⟩ (kX3_worth l E n f ck k bk hd v (nI b) w pn rc ac lo hi hc hB hk hbo hpn 5 x 0 D1 r1 (by decide)) (cwV 2 hts gX3_allAreSo_X3_worth rfl rfl rfl (by decide +kernel) ⟨(Nat.le_of_ble_eq_true rfl), (Nat.le_of_ble_eq_true rfl)⟩) (q_pV hA hW hS (ci := 4) rfl hc) rfl rfl hl.1 rfl (lv_room (Nat.le_of_ble_eq_true rfl)) dX3_allAreSo_12 ⟨Nat.le_of_ble_eq_true rfl, Nat.le_of_ble_eq_true rfl⟩) hS (fun r_12 f_12 n_12 H locs hp hW hS => ?_)
        obtain ⟨rfl, rfl, rfl⟩ := hp
        have hW : q_W E (f) n H := hW
        refine lv_istore_n (lv' := [(3, .int (D1 hd v)), (0, .ref ck), (2, .ref a)]) hx hb dX3_allAreSo_15 rfl hl (by decide) rfl (fun ls hl => ?_)
        refine lv_aload_n hx hb dX3_allAreSo_16 rfl (lv_at hl 1 rfl) ?_
        refine lv_aload_n hx hb dX3_allAreSo_17 rfl (lv_at hl 2 rfl) ?_
        refine q_getN hx hb hts hown hA hW iX11 he rfl 3 (by decide) (va_Nw.use rfl (hA.2.2.2.1 ("HighRecipes$Cooking", 193, "HighRecipes$Value", "right", "LHighRecipes$Value;", "HighRecipes") (by decide +kernel))) (fun _ h9 => h9) (v := .ref y) rfl dX3_allAreSo_18 ?_
        refine lv_iconst (v := 0) hx hb dX3_allAreSo_21 (by decide) ?_
        refine q_ci (va_runV (As := [.ref y, .int 0]) (rest := []) ⟨hx, hb, hml, hown, hts⟩ (kX3_worth l E n f ck k bk hd v (nI b) w pn rc ac lo hi hc hB hk hbo hpn 5 y 0 D2 r2 (by decide)) (cwV 2 hts gX3_allAreSo_X3_worth rfl rfl rfl (by decide +kernel) ⟨(Nat.le_of_ble_eq_true rfl), (Nat.le_of_ble_eq_true rfl)⟩) (q_pV hA hW hS (ci := 4) rfl hc) rfl rfl hl.1 rfl (lv_room (Nat.le_of_ble_eq_true rfl)) dX3_allAreSo_22 ⟨Nat.le_of_ble_eq_true rfl, Nat.le_of_ble_eq_true rfl⟩) hS (fun r_22 f_22 n_22 H locs hp hW hS => ?_)
        obtain ⟨rfl, rfl, rfl⟩ := hp
        have hW : q_W E (f) n H := hW
        refine lv_istore (lv' := [(4, .int (D2 hd v)), (3, .int (D1 hd v)), (0, .ref ck), (2, .ref a)]) hx hb dX3_allAreSo_25 hl (by decide) rfl (fun ls hl => ?_)
        refine lv_aload_n hx hb dX3_allAreSo_27 rfl (lv_at hl 3 rfl) ?_
        refine q_getN hx hb hts hown hA hW iX11 he rfl 0 (by decide) (va_Nw.use rfl (hA.2.2.2.1 ("HighRecipes$Cooking", 196, "HighRecipes$Value", "kind", "LHighRecipes$Kind;", "HighRecipes") (by decide +kernel))) (fun _ h9 => h9) (v := .ref (E.2.2.2 32)) rfl dX3_allAreSo_28 ?_
        refine va_gets (n := "LESS") (v := .ref (E.2.2.2 30)) hx hb (hA.2.2.1.1.1 30 (by decide)).1 hS hown (hts (.fieldLink RX3 197 "HighRecipes$Kind" "LESS" "LHighRecipes$Kind;") (by decide +kernel)) (fun _ h9 => h9) dX3_allAreSo_31 ?_
        refine lv_acmp_ne (rx := (some (E.2.2.2 32))) (ry := (some (E.2.2.2 30))) (tgt := 43) hx hb dX3_allAreSo_34 (by decide) (fun c_34 => ?_) (fun c_34 => False.elim ((fun h9 => absurd (hA.2.2.1.1.2 _ _ (by decide) (by decide) (Option.some.inj h9)) (by decide)) c_34))
        refine lv_aload_n hx hb dX3_allAreSo_43 rfl (lv_at hl 3 rfl) ?_
        refine q_getN hx hb hts hown hA hW iX11 he rfl 0 (by decide) (va_Nw.use rfl (hA.2.2.2.1 ("HighRecipes$Cooking", 196, "HighRecipes$Value", "kind", "LHighRecipes$Kind;", "HighRecipes") (by decide +kernel))) (fun _ h9 => h9) (v := .ref (E.2.2.2 32)) rfl dX3_allAreSo_44 ?_
        refine va_gets (n := "GREATER") (v := .ref (E.2.2.2 31)) hx hb (hA.2.2.1.1.1 31 (by decide)).1 hS hown (hts (.fieldLink RX3 200 "HighRecipes$Kind" "GREATER" "LHighRecipes$Kind;") (by decide +kernel)) (fun _ h9 => h9) dX3_allAreSo_47 ?_
        refine lv_acmp_ne (rx := (some (E.2.2.2 32))) (ry := (some (E.2.2.2 31))) (tgt := 59) hx hb dX3_allAreSo_50 (by decide) (fun c_50 => ?_) (fun c_50 => False.elim ((fun h9 => absurd (hA.2.2.1.1.2 _ _ (by decide) (by decide) (Option.some.inj h9)) (by decide)) c_50))
        refine lv_aload_n hx hb dX3_allAreSo_59 rfl (lv_at hl 3 rfl) ?_
        refine q_getN hx hb hts hown hA hW iX11 he rfl 0 (by decide) (va_Nw.use rfl (hA.2.2.2.1 ("HighRecipes$Cooking", 196, "HighRecipes$Value", "kind", "LHighRecipes$Kind;", "HighRecipes") (by decide +kernel))) (fun _ h9 => h9) (v := .ref (E.2.2.2 32)) rfl dX3_allAreSo_60 ?_
        refine va_gets (n := "EQUAL") (v := .ref (E.2.2.2 32)) hx hb (hA.2.2.1.1.1 32 (by decide)).1 hS hown (hts (.fieldLink RX3 203 "HighRecipes$Kind" "EQUAL" "LHighRecipes$Kind;") (by decide +kernel)) (fun _ h9 => h9) dX3_allAreSo_63 ?_
        refine lv_acmp_ne (rx := (some (E.2.2.2 32))) (ry := (some (E.2.2.2 32))) (tgt := 79) hx hb dX3_allAreSo_66 (by decide) (fun c_66 => False.elim ((fun h9 => h9 rfl) c_66)) (fun c_66 => ?_)
        refine lv_iload_n hx hb dX3_allAreSo_69 rfl (lv_at hl 1 rfl) ?_
        refine lv_iload hx hb dX3_allAreSo_70 (lv_at hl 0 rfl) ?_
        refine lv_icmp_ne (tgt := 79) hx hb dX3_allAreSo_72 (by decide) (fun c_72 => ?_) (fun c_72 => ?_)
        · refine lv_iconst (v := 0) hx hb dX3_allAreSo_79 (by decide) ?_
          refine lv_istore (lv' := [(5, .int 0), (4, .int (D2 hd v)), (3, .int (D1 hd v)), (0, .ref ck), (2, .ref a)]) hx hb dX3_allAreSo_80 hl (by decide) rfl (fun ls hl => ?_)
          refine lv_iload hx hb dX3_allAreSo_82 (lv_at hl 0 rfl) ?_
          refine lv_if_ne (tgt := 89) hx hb dX3_allAreSo_84 (by decide) (fun c_84 => False.elim ((fun h9 => h9 rfl) c_84)) (fun c_84 => ?_)
          refine lv_iconst (v := 0) hx hb dX3_allAreSo_87 (by decide) ?_
          exact q_zret hx hb hr hlocks hW hS rfl ⟨(by rw [hCC]; simp [c_cmp, c_72]), rfl, rfl⟩ (Nat.le_of_ble_eq_true rfl) (Nat.le_of_ble_eq_true rfl) dX3_allAreSo_88
        · refine lv_iconst (v := 1) hx hb dX3_allAreSo_75 (by decide) ?_
          refine lv_goto (tgt := 80) hx hb dX3_allAreSo_76 (by decide) ?_
          refine lv_istore (lv' := [(5, .int 1), (4, .int (D2 hd v)), (3, .int (D1 hd v)), (0, .ref ck), (2, .ref a)]) hx hb dX3_allAreSo_80 hl (by decide) rfl (fun ls hl => ?_)
          refine lv_iload hx hb dX3_allAreSo_82 (lv_at hl 0 rfl) ?_
          refine lv_if_ne (tgt := 89) hx hb dX3_allAreSo_84 (by decide) (fun c_84 => ?_) (fun c_84 => False.elim ((fun h9 => absurd h9 (by decide)) c_84))
          refine lv_aload_n hx hb dX3_allAreSo_89 rfl (lv_at hl 4 rfl) ?_
          refine q_getN hx hb hts hown hA hW iX11 he rfl 4 (by decide) (va_Nw.use rfl (hA.2.2.2.1 ("HighRecipes$Cooking", 206, "HighRecipes$Value", "ahead", "LHighRecipes$Value;", "HighRecipes") (by decide +kernel))) (fun _ h9 => h9) (v := va_rf h) rfl dX3_allAreSo_90 ?_
          refine q_astore_nQ (lv' := [(2, va_rf h), (5, .int 1), (4, .int (D2 hd v)), (3, .int (D1 hd v)), (0, .ref ck)]) hx hb dX3_allAreSo_93 rfl hl (by decide) rfl (fun ls hl => ?_)
          refine lv_goto (tgt := 2) hx hb dX3_allAreSo_94 (by decide) ?_
          exact ih h C2 rc1 (by rw [hCC]; simp [c_cmp, c_72]) _ _ _ hW hS (lv_sub hl [4, 0] rfl)
  refine lv_aload_nN hx hb dX3_allAreSo_0 rfl (lv_at hl 1 rfl) ?_
  refine lv_astore_nN (lv' := [(2, .null), (0, .ref ck), (1, .null)]) hx hb dX3_allAreSo_1 rfl hl (by decide) rfl (fun ls hl => ?_)
  exact K2 m0 (none) C0 hrC rfl _ _ _ hW hS (lv_sub hl [1, 0] rfl)

set_option maxHeartbeats 4000000 in
set_option maxRecDepth 100000 in
theorem kX3_allAreSoS (l : Launch) (E : q_E) (f : q_H) (n : Nat) (ck k bk : Nat) (hd v : Nat → Int32) (b : Nat) (w : Int32) (pn : Nat) (rc ac : Int32) (lo hi : Nat) (m0 : Nat) (C0 : q_V → q_V → Bool) (a0 : Nat) (hc : f ck = some (cCook k (nI b) w)) (hB : f bk = some (cBook bk (nI pn) rc ac)) (hk : KIT E f k bk hd v) (hbo : kOut k bk) (hpn : pn ≤ 8) (hck : kOut k ck) (hrC : rC E pn lo hi f m0 (some a0) C0) : Met l yX3_allAreSo wsX3_allAreSo ({ frames := 16, cells := 0, slots := 0, locals := 600 }) (q_P E [.ref ck, .ref a0] f n) (q_Qi E (fun r f1 n1 => (if C0 hd v = true then 1 else 0) = r ∧ f = f1 ∧ n = n1)) 0 0 (q_ge E) := by
  refine Met.ofW (cc := cX3_allAreSo) (maxL := 6) (ret := (some .boolean)) (by decide) rfl ?_
  intro p e s m args below meth c s₁ B hml hv
  obtain ⟨rfl, hA, hW⟩ := hv
  have hx := B.exec
  have hb := B.bytes
  have hr := B.returns
  have hts := atoms_spec (ws := wsX3_allAreSo) B.pre
  have hown : s.vm.findClass RX3 = some m.cls := findClass_of_methodNamed B.named
  have hlocks := B.notSynchronized
  have hS : va_S (q_ge E) s.heap s.heap [] := va_S.rf
  have iX11 : ∀ w ∈ wsX110, w ∈ wsX3_allAreSo := by decide +kernel
  have hl := lv_entry ([.ref ck, .ref a0]) (n := 6) (Nat.le_of_ble_eq_true rfl)
  rw [lg_entry_eq]
  generalize (lg_sl ([.ref ck, .ref a0]) ++ List.replicate (6 - (lg_sl ([.ref ck, .ref a0])).length) Slot.unset).toArray = ls at hl ⊢
  have hl : lv_has ls 6 [(0, .ref ck), (1, .ref a0)] := hl
  have K2 : ∀ (mm : Nat) (o : Option Nat) (C1 : q_V → q_V → Bool), rC E pn lo hi f mm o C1 → C0 hd v = C1 hd v → ∀ (H : Heap) (locs : List Loc) (ls : Array Slot), q_W E f n H → va_S (q_ge E) s.heap H locs → lv_has ls 6 [(0, .ref ck), (2, va_rf o)] → W p l e (headSpec wsX3_allAreSo ({ frames := 16, cells := 0, slots := 0, locals := 600 })).room s m ([.ref ck, .ref a0] : List Value).toArray below meth c H locs 0 0 (MQ below (q_Qi E (fun r f1 n1 => (if C0 hd v = true then 1 else 0) = r ∧ f = f1 ∧ n = n1)) ([.ref ck, .ref a0] : List Value).toArray s 0 0 (q_ge E)) (F0 m 2 ls []) := by
    intro mm
    induction mm with
    | zero =>
      intro o C1 hrc hCC H locs ls hW hS hl
      obtain ⟨rfl, rfl⟩ := hrc
      refine lv_aload_nN hx hb dX3_allAreSo_2 rfl (lv_at hl 1 rfl) ?_
      refine lv_ifnullN (tgt := 97) hx hb dX3_allAreSo_3 (by decide) ?_
      refine lv_iconst (v := 1) hx hb dX3_allAreSo_97 (by decide) ?_
      exact q_zret hx hb hr hlocks hW hS rfl ⟨(if_pos hCC), rfl, rfl⟩ (Nat.le_of_ble_eq_true rfl) (Nat.le_of_ble_eq_true rfl) dX3_allAreSo_98
    | succ mm ih =>
      intro o C1 hrc hCC H locs ls hW hS hl
      obtain ⟨a, kd, num, x, y, h, C2, D1, D2, rfl, -, -, he, k1, k2, r1, r2, rc1, rfl⟩ := hrc
      rcases (by omega : kd = 30 ∨ kd = 31 ∨ kd = 32) with rfl | rfl | rfl
      · refine lv_aload_n hx hb dX3_allAreSo_2 rfl (lv_at hl 1 rfl) ?_
        refine lv_ifnull hx hb dX3_allAreSo_3 ?_
        refine lv_aload_n hx hb dX3_allAreSo_6 rfl (lv_at hl 0 rfl) ?_
        refine lv_aload_n hx hb dX3_allAreSo_7 rfl (lv_at hl 1 rfl) ?_
        refine q_getN hx hb hts hown hA hW iX11 he rfl 2 (by decide) (va_Nw.use rfl (hA.2.2.2.1 ("HighRecipes$Cooking", 188, "HighRecipes$Value", "left", "LHighRecipes$Value;", "HighRecipes") (by decide +kernel))) (fun _ h9 => h9) (v := .ref x) rfl dX3_allAreSo_8 ?_
        refine lv_iconst (v := 0) hx hb dX3_allAreSo_11 (by decide) ?_
        refine q_ci (va_runV (As := [.ref x, .int 0]) (rest := []) ⟨hx, hb, hml, hown, hts⟩ (kX3_worth l E n f ck k bk hd v (nI b) w pn rc ac lo hi hc hB hk hbo hpn 5 x 0 D1 r1 (by decide)) (cwV 2 hts gX3_allAreSo_X3_worth rfl rfl rfl (by decide +kernel) ⟨(Nat.le_of_ble_eq_true rfl), (Nat.le_of_ble_eq_true rfl)⟩) (q_pV hA hW hS (ci := 4) rfl hc) rfl rfl hl.1 rfl (lv_room (Nat.le_of_ble_eq_true rfl)) dX3_allAreSo_12 ⟨Nat.le_of_ble_eq_true rfl, Nat.le_of_ble_eq_true rfl⟩) hS (fun r_12 f_12 n_12 H locs hp hW hS => ?_)
        obtain ⟨rfl, rfl, rfl⟩ := hp
        have hW : q_W E (f) n H := hW
        refine lv_istore_n (lv' := [(3, .int (D1 hd v)), (0, .ref ck), (2, .ref a)]) hx hb dX3_allAreSo_15 rfl hl (by decide) rfl (fun ls hl => ?_)
        refine lv_aload_n hx hb dX3_allAreSo_16 rfl (lv_at hl 1 rfl) ?_
        refine lv_aload_n hx hb dX3_allAreSo_17 rfl (lv_at hl 2 rfl) ?_
        refine q_getN hx hb hts hown hA hW iX11 he rfl 3 (by decide) (va_Nw.use rfl (hA.2.2.2.1 ("HighRecipes$Cooking", 193, "HighRecipes$Value", "right", "LHighRecipes$Value;", "HighRecipes") (by decide +kernel))) (fun _ h9 => h9) (v := .ref y) rfl dX3_allAreSo_18 ?_
        refine lv_iconst (v := 0) hx hb dX3_allAreSo_21 (by decide) ?_
        refine q_ci (va_runV (As := [.ref y, .int 0]) (rest := []) ⟨hx, hb, hml, hown, hts⟩ (kX3_worth l E n f ck k bk hd v (nI b) w pn rc ac lo hi hc hB hk hbo hpn 5 y 0 D2 r2 (by decide)) (cwV 2 hts gX3_allAreSo_X3_worth rfl rfl rfl (by decide +kernel) ⟨(Nat.le_of_ble_eq_true rfl), (Nat.le_of_ble_eq_true rfl)⟩) (q_pV hA hW hS (ci := 4) rfl hc) rfl rfl hl.1 rfl (lv_room (Nat.le_of_ble_eq_true rfl)) dX3_allAreSo_22 ⟨Nat.le_of_ble_eq_true rfl, Nat.le_of_ble_eq_true rfl⟩) hS (fun r_22 f_22 n_22 H locs hp hW hS => ?_)
        obtain ⟨rfl, rfl, rfl⟩ := hp
        have hW : q_W E (f) n H := hW
        refine lv_istore (lv' := [(4, .int (D2 hd v)), (3, .int (D1 hd v)), (0, .ref ck), (2, .ref a)]) hx hb dX3_allAreSo_25 hl (by decide) rfl (fun ls hl => ?_)
        refine lv_aload_n hx hb dX3_allAreSo_27 rfl (lv_at hl 3 rfl) ?_
        refine q_getN hx hb hts hown hA hW iX11 he rfl 0 (by decide) (va_Nw.use rfl (hA.2.2.2.1 ("HighRecipes$Cooking", 196, "HighRecipes$Value", "kind", "LHighRecipes$Kind;", "HighRecipes") (by decide +kernel))) (fun _ h9 => h9) (v := .ref (E.2.2.2 30)) rfl dX3_allAreSo_28 ?_
        refine va_gets (n := "LESS") (v := .ref (E.2.2.2 30)) hx hb (hA.2.2.1.1.1 30 (by decide)).1 hS hown (hts (.fieldLink RX3 197 "HighRecipes$Kind" "LESS" "LHighRecipes$Kind;") (by decide +kernel)) (fun _ h9 => h9) dX3_allAreSo_31 ?_
        refine lv_acmp_ne (rx := (some (E.2.2.2 30))) (ry := (some (E.2.2.2 30))) (tgt := 43) hx hb dX3_allAreSo_34 (by decide) (fun c_34 => False.elim ((fun h9 => h9 rfl) c_34)) (fun c_34 => ?_)
        refine lv_iload_n hx hb dX3_allAreSo_37 rfl (lv_at hl 1 rfl) ?_
        refine lv_iload hx hb dX3_allAreSo_38 (lv_at hl 0 rfl) ?_
        refine lv_icmp_lt (tgt := 75) hx hb dX3_allAreSo_40 (by decide) (fun c_40 => ?_) (fun c_40 => ?_)
        · refine lv_iconst (v := 1) hx hb dX3_allAreSo_75 (by decide) ?_
          refine lv_goto (tgt := 80) hx hb dX3_allAreSo_76 (by decide) ?_
          refine lv_istore (lv' := [(5, .int 1), (4, .int (D2 hd v)), (3, .int (D1 hd v)), (0, .ref ck), (2, .ref a)]) hx hb dX3_allAreSo_80 hl (by decide) rfl (fun ls hl => ?_)
          refine lv_iload hx hb dX3_allAreSo_82 (lv_at hl 0 rfl) ?_
          refine lv_if_ne (tgt := 89) hx hb dX3_allAreSo_84 (by decide) (fun c_84 => ?_) (fun c_84 => False.elim ((fun h9 => absurd h9 (by decide)) c_84))
          refine lv_aload_n hx hb dX3_allAreSo_89 rfl (lv_at hl 4 rfl) ?_
          refine q_getN hx hb hts hown hA hW iX11 he rfl 4 (by decide) (va_Nw.use rfl (hA.2.2.2.1 ("HighRecipes$Cooking", 206, "HighRecipes$Value", "ahead", "LHighRecipes$Value;", "HighRecipes") (by decide +kernel))) (fun _ h9 => h9) (v := va_rf h) rfl dX3_allAreSo_90 ?_
          refine q_astore_nQ (lv' := [(2, va_rf h), (5, .int 1), (4, .int (D2 hd v)), (3, .int (D1 hd v)), (0, .ref ck)]) hx hb dX3_allAreSo_93 rfl hl (by decide) rfl (fun ls hl => ?_)
          refine lv_goto (tgt := 2) hx hb dX3_allAreSo_94 (by decide) ?_
          exact ih h C2 rc1 (by rw [hCC]; simp [c_cmp, c_40]) _ _ _ hW hS (lv_sub hl [4, 0] rfl)
        · refine lv_aload_n hx hb dX3_allAreSo_43 rfl (lv_at hl 3 rfl) ?_
          refine q_getN hx hb hts hown hA hW iX11 he rfl 0 (by decide) (va_Nw.use rfl (hA.2.2.2.1 ("HighRecipes$Cooking", 196, "HighRecipes$Value", "kind", "LHighRecipes$Kind;", "HighRecipes") (by decide +kernel))) (fun _ h9 => h9) (v := .ref (E.2.2.2 30)) rfl dX3_allAreSo_44 ?_
          refine va_gets (n := "GREATER") (v := .ref (E.2.2.2 31)) hx hb (hA.2.2.1.1.1 31 (by decide)).1 hS hown (hts (.fieldLink RX3 200 "HighRecipes$Kind" "GREATER" "LHighRecipes$Kind;") (by decide +kernel)) (fun _ h9 => h9) dX3_allAreSo_47 ?_
          refine lv_acmp_ne (rx := (some (E.2.2.2 30))) (ry := (some (E.2.2.2 31))) (tgt := 59) hx hb dX3_allAreSo_50 (by decide) (fun c_50 => ?_) (fun c_50 => False.elim ((fun h9 => absurd (hA.2.2.1.1.2 _ _ (by decide) (by decide) (Option.some.inj h9)) (by decide)) c_50))
          refine lv_aload_n hx hb dX3_allAreSo_59 rfl (lv_at hl 3 rfl) ?_
          refine q_getN hx hb hts hown hA hW iX11 he rfl 0 (by decide) (va_Nw.use rfl (hA.2.2.2.1 ("HighRecipes$Cooking", 196, "HighRecipes$Value", "kind", "LHighRecipes$Kind;", "HighRecipes") (by decide +kernel))) (fun _ h9 => h9) (v := .ref (E.2.2.2 30)) rfl dX3_allAreSo_60 ?_
          refine va_gets (n := "EQUAL") (v := .ref (E.2.2.2 32)) hx hb (hA.2.2.1.1.1 32 (by decide)).1 hS hown (hts (.fieldLink RX3 203 "HighRecipes$Kind" "EQUAL" "LHighRecipes$Kind;") (by decide +kernel)) (fun _ h9 => h9) dX3_allAreSo_63 ?_
          refine lv_acmp_ne (rx := (some (E.2.2.2 30))) (ry := (some (E.2.2.2 32))) (tgt := 79) hx hb dX3_allAreSo_66 (by decide) (fun c_66 => ?_) (fun c_66 => False.elim ((fun h9 => absurd (hA.2.2.1.1.2 _ _ (by decide) (by decide) (Option.some.inj h9)) (by decide)) c_66))
          refine lv_iconst (v := 0) hx hb dX3_allAreSo_79 (by decide) ?_
          refine lv_istore (lv' := [(5, .int 0), (4, .int (D2 hd v)), (3, .int (D1 hd v)), (0, .ref ck), (2, .ref a)]) hx hb dX3_allAreSo_80 hl (by decide) rfl (fun ls hl => ?_)
          refine lv_iload hx hb dX3_allAreSo_82 (lv_at hl 0 rfl) ?_
          refine lv_if_ne (tgt := 89) hx hb dX3_allAreSo_84 (by decide) (fun c_84 => False.elim ((fun h9 => h9 rfl) c_84)) (fun c_84 => ?_)
          refine lv_iconst (v := 0) hx hb dX3_allAreSo_87 (by decide) ?_
          exact q_zret hx hb hr hlocks hW hS rfl ⟨(by rw [hCC]; simp [c_cmp, c_40]), rfl, rfl⟩ (Nat.le_of_ble_eq_true rfl) (Nat.le_of_ble_eq_true rfl) dX3_allAreSo_88
      · refine lv_aload_n hx hb dX3_allAreSo_2 rfl (lv_at hl 1 rfl) ?_
        refine lv_ifnull hx hb dX3_allAreSo_3 ?_
        refine lv_aload_n hx hb dX3_allAreSo_6 rfl (lv_at hl 0 rfl) ?_
        refine lv_aload_n hx hb dX3_allAreSo_7 rfl (lv_at hl 1 rfl) ?_
        refine q_getN hx hb hts hown hA hW iX11 he rfl 2 (by decide) (va_Nw.use rfl (hA.2.2.2.1 ("HighRecipes$Cooking", 188, "HighRecipes$Value", "left", "LHighRecipes$Value;", "HighRecipes") (by decide +kernel))) (fun _ h9 => h9) (v := .ref x) rfl dX3_allAreSo_8 ?_
        refine lv_iconst (v := 0) hx hb dX3_allAreSo_11 (by decide) ?_
        refine q_ci (va_runV (As := [.ref x, .int 0]) (rest := []) ⟨hx, hb, hml, hown, hts⟩ (kX3_worth l E n f ck k bk hd v (nI b) w pn rc ac lo hi hc hB hk hbo hpn 5 x 0 D1 r1 (by decide)) (cwV 2 hts gX3_allAreSo_X3_worth rfl rfl rfl (by decide +kernel) ⟨(Nat.le_of_ble_eq_true rfl), (Nat.le_of_ble_eq_true rfl)⟩) (q_pV hA hW hS (ci := 4) rfl hc) rfl rfl hl.1 rfl (lv_room (Nat.le_of_ble_eq_true rfl)) dX3_allAreSo_12 ⟨Nat.le_of_ble_eq_true rfl, Nat.le_of_ble_eq_true rfl⟩) hS (fun r_12 f_12 n_12 H locs hp hW hS => ?_)
        obtain ⟨rfl, rfl, rfl⟩ := hp
        have hW : q_W E (f) n H := hW
        refine lv_istore_n (lv' := [(3, .int (D1 hd v)), (0, .ref ck), (2, .ref a)]) hx hb dX3_allAreSo_15 rfl hl (by decide) rfl (fun ls hl => ?_)
        refine lv_aload_n hx hb dX3_allAreSo_16 rfl (lv_at hl 1 rfl) ?_
        refine lv_aload_n hx hb dX3_allAreSo_17 rfl (lv_at hl 2 rfl) ?_
        refine q_getN hx hb hts hown hA hW iX11 he rfl 3 (by decide) (va_Nw.use rfl (hA.2.2.2.1 ("HighRecipes$Cooking", 193, "HighRecipes$Value", "right", "LHighRecipes$Value;", "HighRecipes") (by decide +kernel))) (fun _ h9 => h9) (v := .ref y) rfl dX3_allAreSo_18 ?_
        refine lv_iconst (v := 0) hx hb dX3_allAreSo_21 (by decide) ?_
        refine q_ci (va_runV (As := [.ref y, .int 0]) (rest := []) ⟨hx, hb, hml, hown, hts⟩ (kX3_worth l E n f ck k bk hd v (nI b) w pn rc ac lo hi hc hB hk hbo hpn 5 y 0 D2 r2 (by decide)) (cwV 2 hts gX3_allAreSo_X3_worth rfl rfl rfl (by decide +kernel) ⟨(Nat.le_of_ble_eq_true rfl), (Nat.le_of_ble_eq_true rfl)⟩) (q_pV hA hW hS (ci := 4) rfl hc) rfl rfl hl.1 rfl (lv_room (Nat.le_of_ble_eq_true rfl)) dX3_allAreSo_22 ⟨Nat.le_of_ble_eq_true rfl, Nat.le_of_ble_eq_true rfl⟩) hS (fun r_22 f_22 n_22 H locs hp hW hS => ?_)
        obtain ⟨rfl, rfl, rfl⟩ := hp
        have hW : q_W E (f) n H := hW
        refine lv_istore (lv' := [(4, .int (D2 hd v)), (3, .int (D1 hd v)), (0, .ref ck), (2, .ref a)]) hx hb dX3_allAreSo_25 hl (by decide) rfl (fun ls hl => ?_)
        refine lv_aload_n hx hb dX3_allAreSo_27 rfl (lv_at hl 3 rfl) ?_
        refine q_getN hx hb hts hown hA hW iX11 he rfl 0 (by decide) (va_Nw.use rfl (hA.2.2.2.1 ("HighRecipes$Cooking", 196, "HighRecipes$Value", "kind", "LHighRecipes$Kind;", "HighRecipes") (by decide +kernel))) (fun _ h9 => h9) (v := .ref (E.2.2.2 31)) rfl dX3_allAreSo_28 ?_
        refine va_gets (n := "LESS") (v := .ref (E.2.2.2 30)) hx hb (hA.2.2.1.1.1 30 (by decide)).1 hS hown (hts (.fieldLink RX3 197 "HighRecipes$Kind" "LESS" "LHighRecipes$Kind;") (by decide +kernel)) (fun _ h9 => h9) dX3_allAreSo_31 ?_
        refine lv_acmp_ne (rx := (some (E.2.2.2 31))) (ry := (some (E.2.2.2 30))) (tgt := 43) hx hb dX3_allAreSo_34 (by decide) (fun c_34 => ?_) (fun c_34 => False.elim ((fun h9 => absurd (hA.2.2.1.1.2 _ _ (by decide) (by decide) (Option.some.inj h9)) (by decide)) c_34))
        refine lv_aload_n hx hb dX3_allAreSo_43 rfl (lv_at hl 3 rfl) ?_
        refine q_getN hx hb hts hown hA hW iX11 he rfl 0 (by decide) (va_Nw.use rfl (hA.2.2.2.1 ("HighRecipes$Cooking", 196, "HighRecipes$Value", "kind", "LHighRecipes$Kind;", "HighRecipes") (by decide +kernel))) (fun _ h9 => h9) (v := .ref (E.2.2.2 31)) rfl dX3_allAreSo_44 ?_
        refine va_gets (n := "GREATER") (v := .ref (E.2.2.2 31)) hx hb (hA.2.2.1.1.1 31 (by decide)).1 hS hown (hts (.fieldLink RX3 200 "HighRecipes$Kind" "GREATER" "LHighRecipes$Kind;") (by decide +kernel)) (fun _ h9 => h9) dX3_allAreSo_47 ?_
        refine lv_acmp_ne (rx := (some (E.2.2.2 31))) (ry := (some (E.2.2.2 31))) (tgt := 59) hx hb dX3_allAreSo_50 (by decide) (fun c_50 => False.elim ((fun h9 => h9 rfl) c_50)) (fun c_50 => ?_)
        refine lv_iload_n hx hb dX3_allAreSo_53 rfl (lv_at hl 1 rfl) ?_
        refine lv_iload hx hb dX3_allAreSo_54 (lv_at hl 0 rfl) ?_
        refine lv_icmp_gt (tgt := 75) hx hb dX3_allAreSo_56 (by decide) (fun c_56 => ?_) (fun c_56 => ?_)
        · refine lv_iconst (v := 1) hx hb dX3_allAreSo_75 (by decide) ?_
          refine lv_goto (tgt := 80) hx hb dX3_allAreSo_76 (by decide) ?_
          refine lv_istore (lv' := [(5, .int 1), (4, .int (D2 hd v)), (3, .int (D1 hd v)), (0, .ref ck), (2, .ref a)]) hx hb dX3_allAreSo_80 hl (by decide) rfl (fun ls hl => ?_)
          refine lv_iload hx hb dX3_allAreSo_82 (lv_at hl 0 rfl) ?_
          refine lv_if_ne (tgt := 89) hx hb dX3_allAreSo_84 (by decide) (fun c_84 => ?_) (fun c_84 => False.elim ((fun h9 => absurd h9 (by decide)) c_84))
          refine lv_aload_n hx hb dX3_allAreSo_89 rfl (lv_at hl 4 rfl) ?_
          refine q_getN hx hb hts hown hA hW iX11 he rfl 4 (by decide) (va_Nw.use rfl (hA.2.2.2.1 ("HighRecipes$Cooking", 206, "HighRecipes$Value", "ahead", "LHighRecipes$Value;", "HighRecipes") (by decide +kernel))) (fun _ h9 => h9) (v := va_rf h) rfl dX3_allAreSo_90 ?_
          refine q_astore_nQ (lv' := [(2, va_rf h), (5, .int 1), (4, .int (D2 hd v)), (3, .int (D1 hd v)), (0, .ref ck)]) hx hb dX3_allAreSo_93 rfl hl (by decide) rfl (fun ls hl => ?_)
          refine lv_goto (tgt := 2) hx hb dX3_allAreSo_94 (by decide) ?_
          exact ih h C2 rc1 (by rw [hCC]; simp [c_cmp, c_56]) _ _ _ hW hS (lv_sub hl [4, 0] rfl)
        · refine lv_aload_n hx hb dX3_allAreSo_59 rfl (lv_at hl 3 rfl) ?_
          refine q_getN hx hb hts hown hA hW iX11 he rfl 0 (by decide) (va_Nw.use rfl (hA.2.2.2.1 ("HighRecipes$Cooking", 196, "HighRecipes$Value", "kind", "LHighRecipes$Kind;", "HighRecipes") (by decide +kernel))) (fun _ h9 => h9) (v := .ref (E.2.2.2 31)) rfl dX3_allAreSo_60 ?_
          refine va_gets (n := "EQUAL") (v := .ref (E.2.2.2 32)) hx hb (hA.2.2.1.1.1 32 (by decide)).1 hS hown (hts (.fieldLink RX3 203 "HighRecipes$Kind" "EQUAL" "LHighRecipes$Kind;") (by decide +kernel)) (fun _ h9 => h9) dX3_allAreSo_63 ?_
          refine lv_acmp_ne (rx := (some (E.2.2.2 31))) (ry := (some (E.2.2.2 32))) (tgt := 79) hx hb dX3_allAreSo_66 (by decide) (fun c_66 => ?_) (fun c_66 => False.elim ((fun h9 => absurd (hA.2.2.1.1.2 _ _ (by decide) (by decide) (Option.some.inj h9)) (by decide)) c_66))
          refine lv_iconst (v := 0) hx hb dX3_allAreSo_79 (by decide) ?_
          refine lv_istore (lv' := [(5, .int 0), (4, .int (D2 hd v)), (3, .int (D1 hd v)), (0, .ref ck), (2, .ref a)]) hx hb dX3_allAreSo_80 hl (by decide) rfl (fun ls hl => ?_)
          refine lv_iload hx hb dX3_allAreSo_82 (lv_at hl 0 rfl) ?_
          refine lv_if_ne (tgt := 89) hx hb dX3_allAreSo_84 (by decide) (fun c_84 => False.elim ((fun h9 => h9 rfl) c_84)) (fun c_84 => ?_)
          refine lv_iconst (v := 0) hx hb dX3_allAreSo_87 (by decide) ?_
          exact q_zret hx hb hr hlocks hW hS rfl ⟨(by rw [hCC]; simp [c_cmp, c_56]), rfl, rfl⟩ (Nat.le_of_ble_eq_true rfl) (Nat.le_of_ble_eq_true rfl) dX3_allAreSo_88
      · refine lv_aload_n hx hb dX3_allAreSo_2 rfl (lv_at hl 1 rfl) ?_
        refine lv_ifnull hx hb dX3_allAreSo_3 ?_
        refine lv_aload_n hx hb dX3_allAreSo_6 rfl (lv_at hl 0 rfl) ?_
        refine lv_aload_n hx hb dX3_allAreSo_7 rfl (lv_at hl 1 rfl) ?_
        refine q_getN hx hb hts hown hA hW iX11 he rfl 2 (by decide) (va_Nw.use rfl (hA.2.2.2.1 ("HighRecipes$Cooking", 188, "HighRecipes$Value", "left", "LHighRecipes$Value;", "HighRecipes") (by decide +kernel))) (fun _ h9 => h9) (v := .ref x) rfl dX3_allAreSo_8 ?_
        refine lv_iconst (v := 0) hx hb dX3_allAreSo_11 (by decide) ?_
        refine q_ci (va_runV (As := [.ref x, .int 0]) (rest := []) ⟨hx, hb, hml, hown, hts⟩ (kX3_worth l E n f ck k bk hd v (nI b) w pn rc ac lo hi hc hB hk hbo hpn 5 x 0 D1 r1 (by decide)) (cwV 2 hts gX3_allAreSo_X3_worth rfl rfl rfl (by decide +kernel) ⟨(Nat.le_of_ble_eq_true rfl), (Nat.le_of_ble_eq_true rfl)⟩) (q_pV hA hW hS (ci := 4) rfl hc) rfl rfl hl.1 rfl (lv_room (Nat.le_of_ble_eq_true rfl)) dX3_allAreSo_12 ⟨Nat.le_of_ble_eq_true rfl, Nat.le_of_ble_eq_true rfl⟩) hS (fun r_12 f_12 n_12 H locs hp hW hS => ?_)
        obtain ⟨rfl, rfl, rfl⟩ := hp
        have hW : q_W E (f) n H := hW
        refine lv_istore_n (lv' := [(3, .int (D1 hd v)), (0, .ref ck), (2, .ref a)]) hx hb dX3_allAreSo_15 rfl hl (by decide) rfl (fun ls hl => ?_)
        refine lv_aload_n hx hb dX3_allAreSo_16 rfl (lv_at hl 1 rfl) ?_
        refine lv_aload_n hx hb dX3_allAreSo_17 rfl (lv_at hl 2 rfl) ?_
        refine q_getN hx hb hts hown hA hW iX11 he rfl 3 (by decide) (va_Nw.use rfl (hA.2.2.2.1 ("HighRecipes$Cooking", 193, "HighRecipes$Value", "right", "LHighRecipes$Value;", "HighRecipes") (by decide +kernel))) (fun _ h9 => h9) (v := .ref y) rfl dX3_allAreSo_18 ?_
        refine lv_iconst (v := 0) hx hb dX3_allAreSo_21 (by decide) ?_
        refine q_ci (va_runV (As := [.ref y, .int 0]) (rest := []) ⟨hx, hb, hml, hown, hts⟩ (kX3_worth l E n f ck k bk hd v (nI b) w pn rc ac lo hi hc hB hk hbo hpn 5 y 0 D2 r2 (by decide)) (cwV 2 hts gX3_allAreSo_X3_worth rfl rfl rfl (by decide +kernel) ⟨(Nat.le_of_ble_eq_true rfl), (Nat.le_of_ble_eq_true rfl)⟩) (q_pV hA hW hS (ci := 4) rfl hc) rfl rfl hl.1 rfl (lv_room (Nat.le_of_ble_eq_true rfl)) dX3_allAreSo_22 ⟨Nat.le_of_ble_eq_true rfl, Nat.le_of_ble_eq_true rfl⟩) hS (fun r_22 f_22 n_22 H locs hp hW hS => ?_)
        obtain ⟨rfl, rfl, rfl⟩ := hp
        have hW : q_W E (f) n H := hW
        refine lv_istore (lv' := [(4, .int (D2 hd v)), (3, .int (D1 hd v)), (0, .ref ck), (2, .ref a)]) hx hb dX3_allAreSo_25 hl (by decide) rfl (fun ls hl => ?_)
        refine lv_aload_n hx hb dX3_allAreSo_27 rfl (lv_at hl 3 rfl) ?_
        refine q_getN hx hb hts hown hA hW iX11 he rfl 0 (by decide) (va_Nw.use rfl (hA.2.2.2.1 ("HighRecipes$Cooking", 196, "HighRecipes$Value", "kind", "LHighRecipes$Kind;", "HighRecipes") (by decide +kernel))) (fun _ h9 => h9) (v := .ref (E.2.2.2 32)) rfl dX3_allAreSo_28 ?_
        refine va_gets (n := "LESS") (v := .ref (E.2.2.2 30)) hx hb (hA.2.2.1.1.1 30 (by decide)).1 hS hown (hts (.fieldLink RX3 197 "HighRecipes$Kind" "LESS" "LHighRecipes$Kind;") (by decide +kernel)) (fun _ h9 => h9) dX3_allAreSo_31 ?_
        refine lv_acmp_ne (rx := (some (E.2.2.2 32))) (ry := (some (E.2.2.2 30))) (tgt := 43) hx hb dX3_allAreSo_34 (by decide) (fun c_34 => ?_) (fun c_34 => False.elim ((fun h9 => absurd (hA.2.2.1.1.2 _ _ (by decide) (by decide) (Option.some.inj h9)) (by decide)) c_34))
        refine lv_aload_n hx hb dX3_allAreSo_43 rfl (lv_at hl 3 rfl) ?_
        refine q_getN hx hb hts hown hA hW iX11 he rfl 0 (by decide) (va_Nw.use rfl (hA.2.2.2.1 ("HighRecipes$Cooking", 196, "HighRecipes$Value", "kind", "LHighRecipes$Kind;", "HighRecipes") (by decide +kernel))) (fun _ h9 => h9) (v := .ref (E.2.2.2 32)) rfl dX3_allAreSo_44 ?_
        refine va_gets (n := "GREATER") (v := .ref (E.2.2.2 31)) hx hb (hA.2.2.1.1.1 31 (by decide)).1 hS hown (hts (.fieldLink RX3 200 "HighRecipes$Kind" "GREATER" "LHighRecipes$Kind;") (by decide +kernel)) (fun _ h9 => h9) dX3_allAreSo_47 ?_
        refine lv_acmp_ne (rx := (some (E.2.2.2 32))) (ry := (some (E.2.2.2 31))) (tgt := 59) hx hb dX3_allAreSo_50 (by decide) (fun c_50 => ?_) (fun c_50 => False.elim ((fun h9 => absurd (hA.2.2.1.1.2 _ _ (by decide) (by decide) (Option.some.inj h9)) (by decide)) c_50))
        refine lv_aload_n hx hb dX3_allAreSo_59 rfl (lv_at hl 3 rfl) ?_
        refine q_getN hx hb hts hown hA hW iX11 he rfl 0 (by decide) (va_Nw.use rfl (hA.2.2.2.1 ("HighRecipes$Cooking", 196, "HighRecipes$Value", "kind", "LHighRecipes$Kind;", "HighRecipes") (by decide +kernel))) (fun _ h9 => h9) (v := .ref (E.2.2.2 32)) rfl dX3_allAreSo_60 ?_
        refine va_gets (n := "EQUAL") (v := .ref (E.2.2.2 32)) hx hb (hA.2.2.1.1.1 32 (by decide)).1 hS hown (hts (.fieldLink RX3 203 "HighRecipes$Kind" "EQUAL" "LHighRecipes$Kind;") (by decide +kernel)) (fun _ h9 => h9) dX3_allAreSo_63 ?_
        refine lv_acmp_ne (rx := (some (E.2.2.2 32))) (ry := (some (E.2.2.2 32))) (tgt := 79) hx hb dX3_allAreSo_66 (by decide) (fun c_66 => False.elim ((fun h9 => h9 rfl) c_66)) (fun c_66 => ?_)
        refine lv_iload_n hx hb dX3_allAreSo_69 rfl (lv_at hl 1 rfl) ?_
        refine lv_iload hx hb dX3_allAreSo_70 (lv_at hl 0 rfl) ?_
        refine lv_icmp_ne (tgt := 79) hx hb dX3_allAreSo_72 (by decide) (fun c_72 => ?_) (fun c_72 => ?_)
        · refine lv_iconst (v := 0) hx hb dX3_allAreSo_79 (by decide) ?_
          refine lv_istore (lv' := [(5, .int 0), (4, .int (D2 hd v)), (3, .int (D1 hd v)), (0, .ref ck), (2, .ref a)]) hx hb dX3_allAreSo_80 hl (by decide) rfl (fun ls hl => ?_)
          refine lv_iload hx hb dX3_allAreSo_82 (lv_at hl 0 rfl) ?_
          refine lv_if_ne (tgt := 89) hx hb dX3_allAreSo_84 (by decide) (fun c_84 => False.elim ((fun h9 => h9 rfl) c_84)) (fun c_84 => ?_)
          refine lv_iconst (v := 0) hx hb dX3_allAreSo_87 (by decide) ?_
          exact q_zret hx hb hr hlocks hW hS rfl ⟨(by rw [hCC]; simp [c_cmp, c_72]), rfl, rfl⟩ (Nat.le_of_ble_eq_true rfl) (Nat.le_of_ble_eq_true rfl) dX3_allAreSo_88
        · refine lv_iconst (v := 1) hx hb dX3_allAreSo_75 (by decide) ?_
          refine lv_goto (tgt := 80) hx hb dX3_allAreSo_76 (by decide) ?_
          refine lv_istore (lv' := [(5, .int 1), (4, .int (D2 hd v)), (3, .int (D1 hd v)), (0, .ref ck), (2, .ref a)]) hx hb dX3_allAreSo_80 hl (by decide) rfl (fun ls hl => ?_)
          refine lv_iload hx hb dX3_allAreSo_82 (lv_at hl 0 rfl) ?_
          refine lv_if_ne (tgt := 89) hx hb dX3_allAreSo_84 (by decide) (fun c_84 => ?_) (fun c_84 => False.elim ((fun h9 => absurd h9 (by decide)) c_84))
          refine lv_aload_n hx hb dX3_allAreSo_89 rfl (lv_at hl 4 rfl) ?_
          refine q_getN hx hb hts hown hA hW iX11 he rfl 4 (by decide) (va_Nw.use rfl (hA.2.2.2.1 ("HighRecipes$Cooking", 206, "HighRecipes$Value", "ahead", "LHighRecipes$Value;", "HighRecipes") (by decide +kernel))) (fun _ h9 => h9) (v := va_rf h) rfl dX3_allAreSo_90 ?_
          refine q_astore_nQ (lv' := [(2, va_rf h), (5, .int 1), (4, .int (D2 hd v)), (3, .int (D1 hd v)), (0, .ref ck)]) hx hb dX3_allAreSo_93 rfl hl (by decide) rfl (fun ls hl => ?_)
          refine lv_goto (tgt := 2) hx hb dX3_allAreSo_94 (by decide) ?_
          exact ih h C2 rc1 (by rw [hCC]; simp [c_cmp, c_72]) _ _ _ hW hS (lv_sub hl [4, 0] rfl)
  refine lv_aload_n hx hb dX3_allAreSo_0 rfl (lv_at hl 1 rfl) ?_
  refine lv_astore_n (lv' := [(2, .ref a0), (0, .ref ck), (1, .ref a0)]) hx hb dX3_allAreSo_1 rfl hl (by decide) rfl (fun ls hl => ?_)
  exact K2 m0 (some a0) C0 hrC rfl _ _ _ hW hS (lv_sub hl [1, 0] rfl)

