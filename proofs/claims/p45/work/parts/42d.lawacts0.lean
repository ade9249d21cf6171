set_option maxHeartbeats 4000000 in
set_option maxRecDepth 100000 in
theorem kX13_drawn_0 (l : Launch) (E : q_E) (f : q_H) (n : Nat) (r la pn R q : Nat) (RS : Nat → q_S) (s : Int32) (g : Nat → Int32) (h0 : f r = some (cDice s)) (h1 : f la = some (aI E 1 g)) (hp1 : 1 ≤ pn) (hp2 : pn ≤ 8) (hR : R ≤ 6) (hq : q ≤ 100) (hg : g 0 = nI q) : Met l yX13_drawn wsX13_drawn ({ frames := 22, cells := 1317, slots := 3654, locals := 660 }) (q_P E [.ref r, .int (nI pn), .int (nI R), .int 0, .ref la] f n) (q_Qq E (fun r0 f1 n1 => ∃ (a : Nat) (S : q_S) (V : List Int32) (c : Nat) (s1 : Int32) (g1 : Nat → Int32), some a = r0 ∧ f1 r = some (cDice s1) ∧ f1 la = some (aI E 1 g1) ∧ c ≤ q ∧ g1 0 = nI (q - c) ∧ n ≤ n1 ∧ LACT E pn R RS (fun q => n ≤ q ∧ q < n1) f1 4 (a, S, V, c) ∧ ∀ z9, z9 ≠ r → z9 ≠ la → z9 < n → f1 z9 = f z9)) 1317 3654 (q_ge E) := by
  refine Met.ofW (cc := cX13_drawn) (maxL := 9) (ret := (some (.object "HighRecipesLaw$Act"))) (by decide) rfl ?_
  intro p0_ e0_ s0_ m0_ args0_ below0_ meth0_ c0_ s1_ B hml hv
  obtain ⟨rfl, hA, hW⟩ := hv
  have hx := B.exec
  have hb := B.bytes
  have hr := B.returns
  have hts := atoms_spec (ws := wsX13_drawn) B.pre
  have hown : s0_.vm.findClass RX13 = some m0_.cls := findClass_of_methodNamed B.named
  have hlocks := B.notSynchronized
  have hS : va_S (q_ge E) s0_.heap s0_.heap [] := va_S.rf
  have iX13 : ∀ w ∈ wsX130, w ∈ wsX13_drawn := by decide +kernel
  have iX16 : ∀ w ∈ wsX160, w ∈ wsX13_drawn := by decide +kernel
  have hl := lv_entry ([.ref r, .int (nI pn), .int (nI R), .int 0, .ref la]) (n := 9) (Nat.le_of_ble_eq_true rfl)
  rw [lg_entry_eq]
  generalize (lg_sl ([.ref r, .int (nI pn), .int (nI R), .int 0, .ref la]) ++ List.replicate (9 - (lg_sl ([.ref r, .int (nI pn), .int (nI R), .int 0, .ref la])).length) Slot.unset).toArray = ls at hl ⊢
  have hl : lv_has ls 9 [(0, .ref r), (1, .int (nI pn)), (2, .int (nI R)), (3, .int 0), (4, .ref la)] := hl
  have l_h0 := hW.lt h0
  have l_h1 := hW.lt h1
  have hrl := ne_ab h0 h1
  refine q_new (ci := 13) hx hb hts hown hA hW hS iX13 tyX13 tyX13_ok (hts (.classLink RX13 8 RX13) (by decide +kernel)) (hts (.instantiable RX13 8) (by decide +kernel)) (hts (.initialized RX13) (by decide +kernel)) rfl (fs := [.int 0, .int 0, .null, .null, .null, .null, .null, .null]) (by decide) (by show _ ≤ 1317; omega) (by show _ ≤ 3654; omega) dX13_drawn_0 (fun H hW hS => ?_)
  have hW : q_W E (va_up f n (some (cLA 0 0 none none none none none none))) (n + 1) H := hW
  refine lv_dup hx hb dX13_drawn_3 rfl ?_
  refine q_cv (va_runI (As := []) (rest := [.ref n]) ⟨hx, hb, hml, hown, hts⟩ (kX13_init l E (va_up f n (some (cLA 0 0 none none none none none none))) (n + 1) n q_eq) (cwI 0 hts gX13_drawn_X13_init rfl rfl rfl (hts (.initialized RX13) (by decide +kernel)) (hts (.methodLink RX13 36 yX13_init) (by decide +kernel)) (hts (.instanceMethod yX13_init) (by decide +kernel)) rfl (by decide +kernel) ⟨(Nat.le_of_ble_eq_true rfl), (Nat.le_of_ble_eq_true rfl)⟩) (q_pS hA hW hS) rfl rfl hl.1 rfl (lv_room (Nat.le_of_ble_eq_true rfl)) dX13_drawn_4 ⟨(by show _ ≤ 1317; omega), (by show _ ≤ 3654; omega)⟩) hS (fun f_4 n_4 H locs hp hW hS => ?_)
  obtain ⟨e0_4, e1_4, e2_4, e3_4, e4_4, en_4, hfr_4⟩ := hp
  have l_e0_4 := hW.lt e0_4
  have l_e1_4 := hW.lt e1_4
  have l_e2_4 := hW.lt e2_4
  have l_e3_4 := hW.lt e3_4
  have l_e4_4 := hW.lt e4_4
  have hr_4 : f_4 r = some (cDice s) := (hfr_4 _ (by omega) (by omega)).trans (q_ne (by omega) h0)
  have hla_4 : f_4 la = some (aI E 1 g) := (hfr_4 _ (by omega) (by omega)).trans (q_ne (by omega) h1)
  refine lv_astore (lv' := [(5, .ref n), (0, .ref r), (1, .int (nI pn)), (2, .int (nI R)), (3, .int 0), (4, .ref la)]) hx hb dX13_drawn_7 hl (by decide) rfl (fun ls hl => ?_)
  refine lv_aload_n hx hb dX13_drawn_9 rfl (lv_at hl 1 rfl) ?_
  refine lv_iload_n hx hb dX13_drawn_10 rfl (lv_at hl 4 rfl) ?_
  refine lv_iconst (v := 3) hx hb dX13_drawn_11 (by decide) ?_
  refine lv_icmp_ge (tgt := 20) hx hb dX13_drawn_12 (by decide) (fun c_12 => absurd c_12 (by decide)) (fun c_12 => ?_)
  refine lv_bipush (v := 15) hx hb dX13_drawn_15 (by decide) ?_
  refine lv_goto (tgt := 22) hx hb dX13_drawn_17 (by decide) ?_
  refine q_ci (va_runV (As := [.int 15]) (rest := []) ⟨hx, hb, hml, hown, hts⟩ (kX14_next l E f_4 n_4 r 15 s hr_4 (by decide) (by decide)) (cwV 1 hts gX13_drawn_X14_next rfl rfl rfl (by decide +kernel) ⟨(Nat.le_of_ble_eq_true rfl), (Nat.le_of_ble_eq_true rfl)⟩) (q_pV hA hW hS (ci := 14) rfl hr_4) rfl rfl hl.1 rfl (lv_room (Nat.le_of_ble_eq_true rfl)) dX13_drawn_22 ⟨(by show _ ≤ 1317; omega), (by show _ ≤ 3654; omega)⟩) hS (fun r_22 f_22 n_22 H locs hp hW hS => ?_)
  obtain ⟨j_22, s1_22, rfl, e0_22, ej_22, en_22, hfr_22⟩ := hp
  have l_e0_22 := hW.lt e0_22
  have hla_22 : f_22 la = some (aI E 1 g) := (hfr_22 _ (by omega)).trans hla_4
  have hn_22 : f_22 n = some (cLA 0 0 none (some (n + 1)) (some ((n + 1) + 1)) (some ((n + 1) + 2)) (some ((n + 1) + 3)) none) := (hfr_22 _ (by omega)).trans e0_4
  have hn___1_22 : f_22 (n + 1) = some (aI E 0 (fun _ => 0)) := (hfr_22 _ (by omega)).trans e1_4
  have hn___2_22 : f_22 (n + 2) = some (aQ E 7 0 (fun _ => none)) := (hfr_22 _ (by omega)).trans e2_4
  have hn___3_22 : f_22 (n + 3) = some (aQ E 7 0 (fun _ => none)) := (hfr_22 _ (by omega)).trans e3_4
  have hn___4_22 : f_22 (n + 4) = some (aQ E 6 0 (fun _ => none)) := (hfr_22 _ (by omega)).trans e4_4
  refine lv_istore (lv' := [(6, .int (nI j_22)), (5, .ref n), (0, .ref r), (1, .int (nI pn)), (2, .int (nI R)), (3, .int 0), (4, .ref la)]) hx hb dX13_drawn_25 hl (by decide) rfl (fun ls hl => ?_)
  refine lv_aload hx hb dX13_drawn_27 (lv_at hl 1 rfl) ?_
  refine lv_iload hx hb dX13_drawn_29 (lv_at hl 0 rfl) ?_
  refine lv_iconst (v := 3) hx hb dX13_drawn_31 (by decide) ?_
  refine lv_icmp_ge (tgt := 39) hx hb dX13_drawn_32 (by decide) (fun c_32 => ?_) (fun c_32 => ?_)
  · have g32 : 3 ≤ j_22 := q_leN (a := 3) (b := j_22) (by decide) c_32 (by omega)
    refine lv_iload hx hb dX13_drawn_39 (lv_at hl 0 rfl) ?_
    refine lv_iconst (v := 5) hx hb dX13_drawn_41 (by decide) ?_
    refine lv_icmp_ge (tgt := 49) hx hb dX13_drawn_42 (by decide) (fun c_42 => ?_) (fun c_42 => ?_)
    · have g42 : 5 ≤ j_22 := q_leN (a := 5) (b := j_22) (by decide) c_42 (by omega)
      refine lv_iload hx hb dX13_drawn_49 (lv_at hl 0 rfl) ?_
      refine lv_bipush (v := 7) hx hb dX13_drawn_51 (by decide) ?_
      refine lv_icmp_ge (tgt := 60) hx hb dX13_drawn_53 (by decide) (fun c_53 => ?_) (fun c_53 => ?_)
      · have g53 : 7 ≤ j_22 := q_leN (a := 7) (b := j_22) (by decide) c_53 (by omega)
        refine lv_iload hx hb dX13_drawn_60 (lv_at hl 0 rfl) ?_
        refine lv_bipush (v := 9) hx hb dX13_drawn_62 (by decide) ?_
        refine lv_icmp_ge (tgt := 71) hx hb dX13_drawn_64 (by decide) (fun c_64 => ?_) (fun c_64 => ?_)
        · have g64 : 9 ≤ j_22 := q_leN (a := 9) (b := j_22) (by decide) c_64 (by omega)
          refine lv_iload hx hb dX13_drawn_71 (lv_at hl 0 rfl) ?_
          refine lv_bipush (v := 12) hx hb dX13_drawn_73 (by decide) ?_
          refine lv_icmp_ge (tgt := 85) hx hb dX13_drawn_75 (by decide) (fun c_75 => ?_) (fun c_75 => ?_)
          · have g75 : 12 ≤ j_22 := q_leN (a := 12) (b := j_22) (by decide) c_75 (by omega)
            refine lv_iload hx hb dX13_drawn_85 (lv_at hl 0 rfl) ?_
            refine lv_bipush (v := 12) hx hb dX13_drawn_87 (by decide) ?_
            refine lv_icmp_ne (tgt := 105) hx hb dX13_drawn_89 (by decide) (fun c_89 => ?_) (fun c_89 => ?_)
            · have g89 : j_22 ≠ 12 := fun e => c_89 (by rw [e]; rfl)
              refine lv_iload hx hb dX13_drawn_105 (lv_at hl 0 rfl) ?_
              refine lv_iconst (v := 5) hx hb dX13_drawn_107 (by decide) ?_
              refine lv_isub hx hb dX13_drawn_108 ?_
              rcases (show j_22 = 13 ∨ j_22 = 14 by omega) with hjv | hjv
              · rw [show nI j_22 - 5 = 8 from by rw [hjv]; decide]
                refine q_put hx hb hts hown hA hW hS iX13 tyX13 tyX13_ok nmX13 hn_22 rfl 0 (by decide) (hts (.fieldLink RX13 37 "HighRecipesLaw$Act" "does" "I") (by decide +kernel)) (fun _ h9 => h9) rfl rfl rfl (Nat.le_of_ble_eq_true rfl) dX13_drawn_109 (fun H locs hW hS => ?_)
                have hW : q_W E (va_up f_22 n (some (cLA 8 0 none (some (n + 1)) (some ((n + 1) + 1)) (some ((n + 1) + 2)) (some ((n + 1) + 3)) none))) n_22 H := hW
                refine lv_aload hx hb dX13_drawn_112 (lv_at hl 1 rfl) ?_
                refine lv_aload hx hb dX13_drawn_114 (lv_at hl 1 rfl) ?_
                refine q_get hx hb hts hown hA hW iX13 q_eq rfl 0 (by decide) (hts (.fieldLink RX13 37 "HighRecipesLaw$Act" "does" "I") (by decide +kernel)) (fun _ h9 => h9) (v := .int 8) rfl dX13_drawn_116 ?_
                refine lv_bipush (v := 7) hx hb dX13_drawn_119 (by decide) ?_
                refine lv_icmp_ne (tgt := 132) hx hb dX13_drawn_121 (by decide) (fun c_121 => ?_) (fun c_121 => absurd c_121 (by decide))
                refine lv_aload_n hx hb dX13_drawn_132 rfl (lv_at hl 2 rfl) ?_
                refine lv_iload_n hx hb dX13_drawn_133 rfl (lv_at hl 3 rfl) ?_
                refine q_ci (va_runV (As := [.int (nI pn)]) (rest := [.ref n]) ⟨hx, hb, hml, hown, hts⟩ (kX14_next l E (va_up f_22 n (some (cLA 8 0 none (some (n + 1)) (some ((n + 1) + 1)) (some ((n + 1) + 2)) (some ((n + 1) + 3)) none))) n_22 r pn s1_22 (q_ne (by omega) e0_22) (by omega) (by omega)) (cwV 1 hts gX13_drawn_X14_next rfl rfl rfl (by decide +kernel) ⟨(Nat.le_of_ble_eq_true rfl), (Nat.le_of_ble_eq_true rfl)⟩) (q_pV hA hW hS (ci := 14) rfl (q_ne (by omega) e0_22)) rfl rfl hl.1 rfl (lv_room (Nat.le_of_ble_eq_true rfl)) dX13_drawn_134 ⟨(by show _ ≤ 1317; omega), (by show _ ≤ 3654; omega)⟩) hS (fun r_134 f_134 n_134 H locs hp hW hS => ?_)
                obtain ⟨j_134, s1_134, rfl, e0_134, ej_134, en_134, hfr_134⟩ := hp
                have l_e0_134 := hW.lt e0_134
                have hla_134 : f_134 la = some (aI E 1 g) := (hfr_134 _ (by omega)).trans (q_ne (by omega) hla_22)
                have hn_134 : f_134 n = some (cLA 8 0 none (some (n + 1)) (some ((n + 1) + 1)) (some ((n + 1) + 2)) (some ((n + 1) + 3)) none) := (hfr_134 _ (by omega)).trans q_eq
                have hn___1_134 : f_134 (n + 1) = some (aI E 0 (fun _ => 0)) := (hfr_134 _ (by omega)).trans (q_ne (by omega) hn___1_22)
                have hn___2_134 : f_134 (n + 2) = some (aQ E 7 0 (fun _ => none)) := (hfr_134 _ (by omega)).trans (q_ne (by omega) hn___2_22)
                have hn___3_134 : f_134 (n + 3) = some (aQ E 7 0 (fun _ => none)) := (hfr_134 _ (by omega)).trans (q_ne (by omega) hn___3_22)
                have hn___4_134 : f_134 (n + 4) = some (aQ E 6 0 (fun _ => none)) := (hfr_134 _ (by omega)).trans (q_ne (by omega) hn___4_22)
                refine q_put hx hb hts hown hA hW hS iX13 tyX13 tyX13_ok nmX13 hn_134 rfl 1 (by decide) (hts (.fieldLink RX13 41 "HighRecipesLaw$Act" "whom" "I") (by decide +kernel)) (fun _ h9 => h9) rfl rfl rfl (Nat.le_of_ble_eq_true rfl) dX13_drawn_137 (fun H locs hW hS => ?_)
                have hW : q_W E (va_up f_134 n (some (cLA 8 (nI j_134) none (some (n + 1)) (some ((n + 1) + 1)) (some ((n + 1) + 2)) (some ((n + 1) + 3)) none))) n_134 H := hW
                refine lv_aload hx hb dX13_drawn_140 (lv_at hl 1 rfl) ?_
                refine q_get hx hb hts hown hA hW iX13 q_eq rfl 0 (by decide) (hts (.fieldLink RX13 37 "HighRecipesLaw$Act" "does" "I") (by decide +kernel)) (fun _ h9 => h9) (v := .int 8) rfl dX13_drawn_142 ?_
                refine lv_iconst (v := 2) hx hb dX13_drawn_145 (by decide) ?_
                refine lv_icmp_lt (tgt := 168) hx hb dX13_drawn_146 (by decide) (fun c_146 => absurd c_146 (by decide)) (fun c_146 => ?_)
                refine lv_aload hx hb dX13_drawn_149 (lv_at hl 1 rfl) ?_
                refine q_get hx hb hts hown hA hW iX13 q_eq rfl 0 (by decide) (hts (.fieldLink RX13 37 "HighRecipesLaw$Act" "does" "I") (by decide +kernel)) (fun _ h9 => h9) (v := .int 8) rfl dX13_drawn_151 ?_
                refine lv_iconst (v := 5) hx hb dX13_drawn_154 (by decide) ?_
                refine lv_icmp_eq (tgt := 168) hx hb dX13_drawn_155 (by decide) (fun c_155 => absurd c_155 (by decide)) (fun c_155 => ?_)
                refine lv_aload hx hb dX13_drawn_158 (lv_at hl 1 rfl) ?_
                refine q_get hx hb hts hown hA hW iX13 q_eq rfl 0 (by decide) (hts (.fieldLink RX13 37 "HighRecipesLaw$Act" "does" "I") (by decide +kernel)) (fun _ h9 => h9) (v := .int 8) rfl dX13_drawn_160 ?_
                refine lv_bipush (v := 6) hx hb dX13_drawn_163 (by decide) ?_
                refine lv_icmp_ne (tgt := 184) hx hb dX13_drawn_165 (by decide) (fun c_165 => ?_) (fun c_165 => absurd c_165 (by decide))
                refine lv_aload hx hb dX13_drawn_184 (lv_at hl 1 rfl) ?_
                refine q_get hx hb hts hown hA hW iX13 q_eq rfl 0 (by decide) (hts (.fieldLink RX13 37 "HighRecipesLaw$Act" "does" "I") (by decide +kernel)) (fun _ h9 => h9) (v := .int 8) rfl dX13_drawn_186 ?_
                refine lv_iconst (v := 2) hx hb dX13_drawn_189 (by decide) ?_
                refine lv_icmp_ne (tgt := 210) hx hb dX13_drawn_190 (by decide) (fun c_190 => ?_) (fun c_190 => absurd c_190 (by decide))
                refine lv_aload hx hb dX13_drawn_210 (lv_at hl 1 rfl) ?_
                refine q_get hx hb hts hown hA hW iX13 q_eq rfl 0 (by decide) (hts (.fieldLink RX13 37 "HighRecipesLaw$Act" "does" "I") (by decide +kernel)) (fun _ h9 => h9) (v := .int 8) rfl dX13_drawn_212 ?_
                refine lv_iconst (v := 3) hx hb dX13_drawn_215 (by decide) ?_
                refine lv_icmp_ne (tgt := 235) hx hb dX13_drawn_216 (by decide) (fun c_216 => ?_) (fun c_216 => absurd c_216 (by decide))
                refine lv_aload hx hb dX13_drawn_235 (lv_at hl 1 rfl) ?_
                refine q_get hx hb hts hown hA hW iX13 q_eq rfl 0 (by decide) (hts (.fieldLink RX13 37 "HighRecipesLaw$Act" "does" "I") (by decide +kernel)) (fun _ h9 => h9) (v := .int 8) rfl dX13_drawn_237 ?_
                refine lv_bipush (v := 8) hx hb dX13_drawn_240 (by decide) ?_
                refine lv_icmp_ne (tgt := 283) hx hb dX13_drawn_242 (by decide) (fun c_242 => absurd c_242 (by decide)) (fun c_242 => ?_)
                refine lv_aload hx hb dX13_drawn_245 (lv_at hl 1 rfl) ?_
                refine lv_aload_n hx hb dX13_drawn_247 rfl (lv_at hl 2 rfl) ?_
                refine lv_iconst (v := 4) hx hb dX13_drawn_248 (by decide) ?_
                refine q_ci (va_runV (As := [.int 4]) (rest := [.ref n]) ⟨hx, hb, hml, hown, hts⟩ (kX14_next l E (va_up f_134 n (some (cLA 8 (nI j_134) none (some (n + 1)) (some ((n + 1) + 1)) (some ((n + 1) + 2)) (some ((n + 1) + 3)) none))) n_134 r 4 s1_134 (q_ne (by omega) e0_134) (by decide) (by decide)) (cwV 1 hts gX13_drawn_X14_next rfl rfl rfl (by decide +kernel) ⟨(Nat.le_of_ble_eq_true rfl), (Nat.le_of_ble_eq_true rfl)⟩) (q_pV hA hW hS (ci := 14) rfl (q_ne (by omega) e0_134)) rfl rfl hl.1 rfl (lv_room (Nat.le_of_ble_eq_true rfl)) dX13_drawn_249 ⟨(by show _ ≤ 1317; omega), (by show _ ≤ 3654; omega)⟩) hS (fun r_249 f_249 n_249 H locs hp hW hS => ?_)
                obtain ⟨j_249, s1_249, rfl, e0_249, ej_249, en_249, hfr_249⟩ := hp
                have l_e0_249 := hW.lt e0_249
                have hla_249 : f_249 la = some (aI E 1 g) := (hfr_249 _ (by omega)).trans (q_ne (by omega) hla_134)
                have hn_249 : f_249 n = some (cLA 8 (nI j_134) none (some (n + 1)) (some ((n + 1) + 1)) (some ((n + 1) + 2)) (some ((n + 1) + 3)) none) := (hfr_249 _ (by omega)).trans q_eq
                have hn___1_249 : f_249 (n + 1) = some (aI E 0 (fun _ => 0)) := (hfr_249 _ (by omega)).trans (q_ne (by omega) hn___1_134)
                have hn___2_249 : f_249 (n + 2) = some (aQ E 7 0 (fun _ => none)) := (hfr_249 _ (by omega)).trans (q_ne (by omega) hn___2_134)
                have hn___3_249 : f_249 (n + 3) = some (aQ E 7 0 (fun _ => none)) := (hfr_249 _ (by omega)).trans (q_ne (by omega) hn___3_134)
                have hn___4_249 : f_249 (n + 4) = some (aQ E 6 0 (fun _ => none)) := (hfr_249 _ (by omega)).trans (q_ne (by omega) hn___4_134)
                refine lv_if_ne (tgt := 265) hx hb dX13_drawn_252 (by decide) (fun c_252 => ?_) (fun c_252 => ?_)
                · have hz4 : j_249 ≠ 0 := fun e => c_252 (by rw [e]; rfl)
                  refine q_new (ci := 16) hx hb hts hown hA hW hS iX16 tyX16 tyX16_ok (hts (.classLink RX13 13 RX16) (by decide +kernel)) (hts (.instantiable RX16 4) (by decide +kernel)) (hts (.initialized RX16) (by decide +kernel)) rfl (fs := [.int 0, .int 0, .null, .null]) (by decide) (by show _ ≤ 1317; omega) (by show _ ≤ 3654; omega) dX13_drawn_265 (fun H hW hS => ?_)
                  have hW : q_W E (va_up f_249 n_249 (some (cNode 0 0 none none))) (n_249 + 1) H := hW
                  refine lv_dup hx hb dX13_drawn_268 rfl ?_
                  refine lv_iconst (v := 0) hx hb dX13_drawn_269 (by decide) ?_
                  refine lv_aload_n hx hb dX13_drawn_270 rfl (lv_at hl 2 rfl) ?_
                  refine lv_iconst (v := 4) hx hb dX13_drawn_271 (by decide) ?_
                  refine q_ci (va_runV (As := [.int 4]) (rest := [.int 0, .ref n_249, .ref n_249, .ref n]) ⟨hx, hb, hml, hown, hts⟩ (kX14_next l E (va_up f_249 n_249 (some (cNode 0 0 none none))) (n_249 + 1) r 4 s1_249 (q_ne (by omega) e0_249) (by decide) (by decide)) (cwV 1 hts gX13_drawn_X14_next rfl rfl rfl (by decide +kernel) ⟨(Nat.le_of_ble_eq_true rfl), (Nat.le_of_ble_eq_true rfl)⟩) (q_pV hA hW hS (ci := 14) rfl (q_ne (by omega) e0_249)) rfl rfl hl.1 rfl (lv_room (Nat.le_of_ble_eq_true rfl)) dX13_drawn_272 ⟨(by show _ ≤ 1317; omega), (by show _ ≤ 3654; omega)⟩) hS (fun r_272 f_272 n_272 H locs hp hW hS => ?_)
                  obtain ⟨j_272, s1_272, rfl, e0_272, ej_272, en_272, hfr_272⟩ := hp
                  have l_e0_272 := hW.lt e0_272
                  have hla_272 : f_272 la = some (aI E 1 g) := (hfr_272 _ (by omega)).trans (q_ne (by omega) hla_249)
                  have hn_272 : f_272 n = some (cLA 8 (nI j_134) none (some (n + 1)) (some ((n + 1) + 1)) (some ((n + 1) + 2)) (some ((n + 1) + 3)) none) := (hfr_272 _ (by omega)).trans (q_ne (by omega) hn_249)
                  have hn___1_272 : f_272 (n + 1) = some (aI E 0 (fun _ => 0)) := (hfr_272 _ (by omega)).trans (q_ne (by omega) hn___1_249)
                  have hn___2_272 : f_272 (n + 2) = some (aQ E 7 0 (fun _ => none)) := (hfr_272 _ (by omega)).trans (q_ne (by omega) hn___2_249)
                  have hn___3_272 : f_272 (n + 3) = some (aQ E 7 0 (fun _ => none)) := (hfr_272 _ (by omega)).trans (q_ne (by omega) hn___3_249)
                  have hn___4_272 : f_272 (n + 4) = some (aQ E 6 0 (fun _ => none)) := (hfr_272 _ (by omega)).trans (q_ne (by omega) hn___4_249)
                  have hn_249_272 : f_272 n_249 = some (cNode 0 0 none none) := (hfr_272 _ (by omega)).trans q_eq
                  refine lv_null hx hb dX13_drawn_275 ?_
                  refine lv_null hx hb dX13_drawn_276 ?_
                  refine q_cv (va_runI (As := [.int 0, .int (nI j_272), .null, .null]) (rest := [.ref n_249, .ref n]) ⟨hx, hb, hml, hown, hts⟩ (kX16_init l E f_272 n_272 n_249 0 (nI j_272) 0 0 none none none none hn_249_272) (cwI 4 hts gX13_drawn_X16_init rfl rfl rfl (hts (.initialized RX16) (by decide +kernel)) (hts (.methodLink RX13 51 yX16_init) (by decide +kernel)) (hts (.instanceMethod yX16_init) (by decide +kernel)) rfl (by decide +kernel) ⟨(Nat.le_of_ble_eq_true rfl), (Nat.le_of_ble_eq_true rfl)⟩) (q_pS hA hW hS) rfl rfl hl.1 rfl (lv_room (Nat.le_of_ble_eq_true rfl)) dX13_drawn_277 ⟨(by show _ ≤ 1317; omega), (by show _ ≤ 3654; omega)⟩) hS (fun f_277 n_277 H locs hp hW hS => ?_)
                  obtain ⟨rfl, rfl⟩ := hp
                  have hW : q_W E (va_up f_272 n_249 (some (cNode 0 (nI j_272) none none))) n_272 H := hW
                  refine q_put hx hb hts hown hA hW hS iX13 tyX13 tyX13_ok nmX13 (q_ne (by omega) hn_272) rfl 2 (by decide) (hts (.fieldLink RX13 47 "HighRecipesLaw$Act" "value" "LHighRecipesLaw$Node;") (by decide +kernel)) (fun _ h9 => h9) rfl rfl rfl (Nat.le_of_ble_eq_true rfl) dX13_drawn_280 (fun H locs hW hS => ?_)
                  have hW : q_W E (va_up (va_up f_272 n_249 (some (cNode 0 (nI j_272) none none))) n (some (cLA 8 (nI j_134) (some n_249) (some (n + 1)) (some ((n + 1) + 1)) (some ((n + 1) + 2)) (some ((n + 1) + 3)) none))) n_272 H := hW
                  refine lv_aload hx hb dX13_drawn_283 (lv_at hl 1 rfl) ?_
                  refine q_get hx hb hts hown hA hW iX13 q_eq rfl 0 (by decide) (hts (.fieldLink RX13 37 "HighRecipesLaw$Act" "does" "I") (by decide +kernel)) (fun _ h9 => h9) (v := .int 8) rfl dX13_drawn_285 ?_
                  refine lv_bipush (v := 9) hx hb dX13_drawn_288 (by decide) ?_
                  refine lv_icmp_ne (tgt := 392) hx hb dX13_drawn_290 (by decide) (fun c_290 => ?_) (fun c_290 => absurd c_290 (by decide))
                  refine lv_aload hx hb dX13_drawn_392 (lv_at hl 1 rfl) ?_
                  refine q_get hx hb hts hown hA hW iX13 q_eq rfl 0 (by decide) (hts (.fieldLink RX13 37 "HighRecipesLaw$Act" "does" "I") (by decide +kernel)) (fun _ h9 => h9) (v := .int 8) rfl dX13_drawn_394 ?_
                  refine lv_bipush (v := 7) hx hb dX13_drawn_397 (by decide) ?_
                  refine lv_icmp_le (tgt := 418) hx hb dX13_drawn_399 (by decide) (fun c_399 => absurd c_399 (by decide)) (fun c_399 => ?_)
                  refine lv_aload hx hb dX13_drawn_402 (lv_at hl 1 rfl) ?_
                  refine lv_aload_n hx hb dX13_drawn_404 rfl (lv_at hl 2 rfl) ?_
                  refine lv_iload_n hx hb dX13_drawn_405 rfl (lv_at hl 3 rfl) ?_
                  refine lv_iload_n hx hb dX13_drawn_406 rfl (lv_at hl 4 rfl) ?_
                  refine lv_iload_n hx hb dX13_drawn_407 rfl (lv_at hl 5 rfl) ?_
                  refine lv_iconst (v := 1) hx hb dX13_drawn_408 (by decide) ?_
                  refine lv_iadd hx hb dX13_drawn_409 ?_
                  rw [show (0 : Int32) + 1 = 1 from by decide]
                  refine lv_aload hx hb dX13_drawn_410 (lv_at hl 6 rfl) ?_
                  refine q_cq (va_runS (As := [.ref r, .int (nI pn), .int (nI R), .int 1, .ref la]) (rest := [.ref n]) ⟨hx, hb, hml, hown, hts⟩ (kX13_some_1 l E (va_up (va_up f_272 n_249 (some (cNode 0 (nI j_272) none none))) n (some (cLA 8 (nI j_134) (some n_249) (some (n + 1)) (some ((n + 1) + 1)) (some ((n + 1) + 2)) (some ((n + 1) + 3)) none))) n_272 r la pn R q RS s1_272 g (q_ne (by omega) (q_ne (by omega) e0_272)) (q_ne (by omega) (q_ne (by omega) hla_272)) hp1 hp2 hR (by omega) hg) (va_cwS 5 hts gX13_drawn_X13_some rfl rfl rfl (by decide +kernel) ⟨(Nat.le_of_ble_eq_true rfl), (Nat.le_of_ble_eq_true rfl)⟩) (q_pS hA hW hS) rfl rfl hl.1 rfl (lv_room (Nat.le_of_ble_eq_true rfl)) dX13_drawn_412 ⟨(by show _ ≤ 1317; omega), (by show _ ≤ 3654; omega)⟩) hS (fun r_412 f_412 n_412 H locs hp hW hS => ?_)
                  obtain ⟨b_412, L_412, s1_412, g1_412, rfl, e0_412, e1_412, ec_412, eg_412, en_412, eL_412, hfr_412⟩ := hp
                  have l_e0_412 := hW.lt e0_412
                  have l_e1_412 := hW.lt e1_412
                  have hn_412 : f_412 n = some (cLA 8 (nI j_134) (some n_249) (some (n + 1)) (some ((n + 1) + 1)) (some ((n + 1) + 2)) (some ((n + 1) + 3)) none) := (hfr_412 _ (by omega) (by omega) (by omega)).trans q_eq
                  have hn___1_412 : f_412 (n + 1) = some (aI E 0 (fun _ => 0)) := (hfr_412 _ (by omega) (by omega) (by omega)).trans (q_ne (by omega) (q_ne (by omega) hn___1_272))
                  have hn___2_412 : f_412 (n + 2) = some (aQ E 7 0 (fun _ => none)) := (hfr_412 _ (by omega) (by omega) (by omega)).trans (q_ne (by omega) (q_ne (by omega) hn___2_272))
                  have hn___3_412 : f_412 (n + 3) = some (aQ E 7 0 (fun _ => none)) := (hfr_412 _ (by omega) (by omega) (by omega)).trans (q_ne (by omega) (q_ne (by omega) hn___3_272))
                  have hn___4_412 : f_412 (n + 4) = some (aQ E 6 0 (fun _ => none)) := (hfr_412 _ (by omega) (by omega) (by omega)).trans (q_ne (by omega) (q_ne (by omega) hn___4_272))
                  have hn_249_412 : f_412 n_249 = some (cNode 0 (nI j_272) none none) := (hfr_412 _ (by omega) (by omega) (by omega)).trans (q_ne (by omega) q_eq)
                  refine q_put hx hb hts hown hA hW hS iX13 tyX13 tyX13_ok nmX13 hn_412 rfl 6 (by decide) (hts (.fieldLink RX13 22 "HighRecipesLaw$Act" "block" "[LHighRecipesLaw$Act;") (by decide +kernel)) (fun _ h9 => h9) rfl rfl rfl (Nat.le_of_ble_eq_true rfl) dX13_drawn_415 (fun H locs hW hS => ?_)
                  have hW : q_W E (va_up f_412 n (some (cLA 8 (nI j_134) (some n_249) (some (n + 1)) (some ((n + 1) + 1)) (some ((n + 1) + 2)) (some b_412) none))) n_412 H := hW
                  refine lv_aload hx hb dX13_drawn_418 (lv_at hl 1 rfl) ?_
                  refine q_get hx hb hts hown hA hW iX13 q_eq rfl 0 (by decide) (hts (.fieldLink RX13 37 "HighRecipesLaw$Act" "does" "I") (by decide +kernel)) (fun _ h9 => h9) (v := .int 8) rfl dX13_drawn_420 ?_
                  refine lv_bipush (v := 9) hx hb dX13_drawn_423 (by decide) ?_
                  refine lv_icmp_ne (tgt := 452) hx hb dX13_drawn_425 (by decide) (fun c_425 => ?_) (fun c_425 => absurd c_425 (by decide))
                  refine lv_aload hx hb dX13_drawn_452 (lv_at hl 1 rfl) ?_
                  have H412 : ∀ q : Nat, (n_272 ≤ q ∧ q < n_412) → (n ≤ q ∧ q < n_412) ∧ (va_up f_412 n (some (cLA 8 (nI j_134) (some n_249) (some (n + 1)) (some ((n + 1) + 1)) (some ((n + 1) + 2)) (some b_412) none))) q = f_412 q := fun q hq => ⟨⟨by omega, by omega⟩, (q_ne (by omega) rfl)⟩
                  exact q_aret (v := some n) hx hb hr (Or.inl ⟨_, rfl⟩) hlocks hW hS ⟨n, (k_again (fun _ _ => nI j_272) (bS L_412)), (kt 25 ++ (dg j_272) ++ bT L_412), (bC L_412), s1_412, g1_412, rfl, (q_ne (by omega) e0_412), (q_ne (by omega) e1_412), (by omega), eg_412, (by omega), (⟨⟨by omega, by omega⟩, _, _, _, _, _, _, _, _, q_eq, Or.inr (Or.inr (Or.inr (Or.inr (Or.inr (Or.inr (Or.inr (Or.inl ⟨j_134, _, (fun _ _ => nI j_272), (dg j_272), L_412, ej_134, rfl, rfl, rfl, rfl, (Or.inl ⟨⟨by omega, by omega⟩, 0, j_272, _, _, (q_ne (by omega) hn_249_412), Or.inl ⟨rfl, by omega, rfl, rfl⟩⟩), (LB.to H412 (fun x hx => LACT.to H412 (Nat.le_refl _) (fun _ _ => rfl) 3 x hx) eL_412), rfl⟩)))))))⟩), (fun q g0 g1 g2 => (q_ne (by omega) ((hfr_412 _ (by omega) (by omega) (by omega)).trans (q_ne (by omega) (q_ne (by omega) ((hfr_272 _ (by omega)).trans (q_ne (by omega) ((hfr_249 _ (by omega)).trans (q_ne (by omega) ((hfr_134 _ (by omega)).trans (q_ne (by omega) ((hfr_22 _ (by omega)).trans ((hfr_4 _ (by omega) (by omega)).trans (q_ne (by omega) rfl))))))))))))))⟩ (by show _ ≤ 1317; omega) (by show _ ≤ 3654; omega) dX13_drawn_454
                · refine lv_aload_n hx hb dX13_drawn_255 rfl (lv_at hl 2 rfl) ?_
                  refine lv_iload_n hx hb dX13_drawn_256 rfl (lv_at hl 3 rfl) ?_
                  refine lv_iconst (v := 0) hx hb dX13_drawn_257 (by decide) ?_
                  refine lv_iconst (v := 5) hx hb dX13_drawn_258 (by decide) ?_
                  refine q_cq (va_runS (As := [.ref r, .int (nI pn), .int 0, .int 5]) (rest := [.ref n]) ⟨hx, hb, hml, hown, hts⟩ (kX16_drawn_0 l E f_249 n_249 r pn 5 s1_249 e0_249 hp1 hp2 (by decide) (by decide)) (va_cwS 4 hts gX13_drawn_X16_drawn rfl rfl rfl (by decide +kernel) ⟨(Nat.le_of_ble_eq_true rfl), (Nat.le_of_ble_eq_true rfl)⟩) (q_pS hA hW hS) rfl rfl hl.1 rfl (lv_room (Nat.le_of_ble_eq_true rfl)) dX13_drawn_259 ⟨(by show _ ≤ 1317; omega), (by show _ ≤ 3654; omega)⟩) hS (fun r_259 f_259 n_259 H locs hp hW hS => ?_)
                  obtain ⟨a_259, s1_259, D_259, V_259, rfl, e0_259, en_259, eN_259, hfr_259⟩ := hp
                  have l_e0_259 := hW.lt e0_259
                  have hla_259 : f_259 la = some (aI E 1 g) := (hfr_259 _ (by omega) (by omega)).trans hla_249
                  have hn_259 : f_259 n = some (cLA 8 (nI j_134) none (some (n + 1)) (some ((n + 1) + 1)) (some ((n + 1) + 2)) (some ((n + 1) + 3)) none) := (hfr_259 _ (by omega) (by omega)).trans hn_249
                  have hn___1_259 : f_259 (n + 1) = some (aI E 0 (fun _ => 0)) := (hfr_259 _ (by omega) (by omega)).trans hn___1_249
                  have hn___2_259 : f_259 (n + 2) = some (aQ E 7 0 (fun _ => none)) := (hfr_259 _ (by omega) (by omega)).trans hn___2_249
                  have hn___3_259 : f_259 (n + 3) = some (aQ E 7 0 (fun _ => none)) := (hfr_259 _ (by omega) (by omega)).trans hn___3_249
                  have hn___4_259 : f_259 (n + 4) = some (aQ E 6 0 (fun _ => none)) := (hfr_259 _ (by omega) (by omega)).trans hn___4_249
                  refine lv_goto (tgt := 280) hx hb dX13_drawn_262 (by decide) ?_
                  refine q_put hx hb hts hown hA hW hS iX13 tyX13 tyX13_ok nmX13 hn_259 rfl 2 (by decide) (hts (.fieldLink RX13 47 "HighRecipesLaw$Act" "value" "LHighRecipesLaw$Node;") (by decide +kernel)) (fun _ h9 => h9) rfl rfl rfl (Nat.le_of_ble_eq_true rfl) dX13_drawn_280 (fun H locs hW hS => ?_)
                  have hW : q_W E (va_up f_259 n (some (cLA 8 (nI j_134) (some a_259) (some (n + 1)) (some ((n + 1) + 1)) (some ((n + 1) + 2)) (some ((n + 1) + 3)) none))) n_259 H := hW
                  refine lv_aload hx hb dX13_drawn_283 (lv_at hl 1 rfl) ?_
                  refine q_get hx hb hts hown hA hW iX13 q_eq rfl 0 (by decide) (hts (.fieldLink RX13 37 "HighRecipesLaw$Act" "does" "I") (by decide +kernel)) (fun _ h9 => h9) (v := .int 8) rfl dX13_drawn_285 ?_
                  refine lv_bipush (v := 9) hx hb dX13_drawn_288 (by decide) ?_
                  refine lv_icmp_ne (tgt := 392) hx hb dX13_drawn_290 (by decide) (fun c_290 => ?_) (fun c_290 => absurd c_290 (by decide))
                  refine lv_aload hx hb dX13_drawn_392 (lv_at hl 1 rfl) ?_
                  refine q_get hx hb hts hown hA hW iX13 q_eq rfl 0 (by decide) (hts (.fieldLink RX13 37 "HighRecipesLaw$Act" "does" "I") (by decide +kernel)) (fun _ h9 => h9) (v := .int 8) rfl dX13_drawn_394 ?_
                  refine lv_bipush (v := 7) hx hb dX13_drawn_397 (by decide) ?_
                  refine lv_icmp_le (tgt := 418) hx hb dX13_drawn_399 (by decide) (fun c_399 => absurd c_399 (by decide)) (fun c_399 => ?_)
                  refine lv_aload hx hb dX13_drawn_402 (lv_at hl 1 rfl) ?_
                  refine lv_aload_n hx hb dX13_drawn_404 rfl (lv_at hl 2 rfl) ?_
                  refine lv_iload_n hx hb dX13_drawn_405 rfl (lv_at hl 3 rfl) ?_
                  refine lv_iload_n hx hb dX13_drawn_406 rfl (lv_at hl 4 rfl) ?_
                  refine lv_iload_n hx hb dX13_drawn_407 rfl (lv_at hl 5 rfl) ?_
                  refine lv_iconst (v := 1) hx hb dX13_drawn_408 (by decide) ?_
                  refine lv_iadd hx hb dX13_drawn_409 ?_
                  rw [show (0 : Int32) + 1 = 1 from by decide]
                  refine lv_aload hx hb dX13_drawn_410 (lv_at hl 6 rfl) ?_
                  refine q_cq (va_runS (As := [.ref r, .int (nI pn), .int (nI R), .int 1, .ref la]) (rest := [.ref n]) ⟨hx, hb, hml, hown, hts⟩ (kX13_some_1 l E (va_up f_259 n (some (cLA 8 (nI j_134) (some a_259) (some (n + 1)) (some ((n + 1) + 1)) (some ((n + 1) + 2)) (some ((n + 1) + 3)) none))) n_259 r la pn R q RS s1_259 g (q_ne (by omega) e0_259) (q_ne (by omega) hla_259) hp1 hp2 hR (by omega) hg) (va_cwS 5 hts gX13_drawn_X13_some rfl rfl rfl (by decide +kernel) ⟨(Nat.le_of_ble_eq_true rfl), (Nat.le_of_ble_eq_true rfl)⟩) (q_pS hA hW hS) rfl rfl hl.1 rfl (lv_room (Nat.le_of_ble_eq_true rfl)) dX13_drawn_412 ⟨(by show _ ≤ 1317; omega), (by show _ ≤ 3654; omega)⟩) hS (fun r_412 f_412 n_412 H locs hp hW hS => ?_)
                  obtain ⟨b_412, L_412, s1_412, g1_412, rfl, e0_412, e1_412, ec_412, eg_412, en_412, eL_412, hfr_412⟩ := hp
                  have l_e0_412 := hW.lt e0_412
                  have l_e1_412 := hW.lt e1_412
                  have hn_412 : f_412 n = some (cLA 8 (nI j_134) (some a_259) (some (n + 1)) (some ((n + 1) + 1)) (some ((n + 1) + 2)) (some ((n + 1) + 3)) none) := (hfr_412 _ (by omega) (by omega) (by omega)).trans q_eq
                  have hn___1_412 : f_412 (n + 1) = some (aI E 0 (fun _ => 0)) := (hfr_412 _ (by omega) (by omega) (by omega)).trans (q_ne (by omega) hn___1_259)
                  have hn___2_412 : f_412 (n + 2) = some (aQ E 7 0 (fun _ => none)) := (hfr_412 _ (by omega) (by omega) (by omega)).trans (q_ne (by omega) hn___2_259)
                  have hn___3_412 : f_412 (n + 3) = some (aQ E 7 0 (fun _ => none)) := (hfr_412 _ (by omega) (by omega) (by omega)).trans (q_ne (by omega) hn___3_259)
                  have hn___4_412 : f_412 (n + 4) = some (aQ E 6 0 (fun _ => none)) := (hfr_412 _ (by omega) (by omega) (by omega)).trans (q_ne (by omega) hn___4_259)
                  refine q_put hx hb hts hown hA hW hS iX13 tyX13 tyX13_ok nmX13 hn_412 rfl 6 (by decide) (hts (.fieldLink RX13 22 "HighRecipesLaw$Act" "block" "[LHighRecipesLaw$Act;") (by decide +kernel)) (fun _ h9 => h9) rfl rfl rfl (Nat.le_of_ble_eq_true rfl) dX13_drawn_415 (fun H locs hW hS => ?_)
                  have hW : q_W E (va_up f_412 n (some (cLA 8 (nI j_134) (some a_259) (some (n + 1)) (some ((n + 1) + 1)) (some ((n + 1) + 2)) (some b_412) none))) n_412 H := hW
                  refine lv_aload hx hb dX13_drawn_418 (lv_at hl 1 rfl) ?_
                  refine q_get hx hb hts hown hA hW iX13 q_eq rfl 0 (by decide) (hts (.fieldLink RX13 37 "HighRecipesLaw$Act" "does" "I") (by decide +kernel)) (fun _ h9 => h9) (v := .int 8) rfl dX13_drawn_420 ?_
                  refine lv_bipush (v := 9) hx hb dX13_drawn_423 (by decide) ?_
                  refine lv_icmp_ne (tgt := 452) hx hb dX13_drawn_425 (by decide) (fun c_425 => ?_) (fun c_425 => absurd c_425 (by decide))
                  refine lv_aload hx hb dX13_drawn_452 (lv_at hl 1 rfl) ?_
                  have H259 : ∀ q : Nat, (n_249 ≤ q ∧ q < n_259) → (n ≤ q ∧ q < n_412) ∧ (va_up f_412 n (some (cLA 8 (nI j_134) (some a_259) (some (n + 1)) (some ((n + 1) + 1)) (some ((n + 1) + 2)) (some b_412) none))) q = f_259 q := fun q hq => ⟨⟨by omega, by omega⟩, (q_ne (by omega) ((hfr_412 _ (by omega) (by omega) (by omega)).trans (q_ne (by omega) rfl)))⟩
                  have H412 : ∀ q : Nat, (n_259 ≤ q ∧ q < n_412) → (n ≤ q ∧ q < n_412) ∧ (va_up f_412 n (some (cLA 8 (nI j_134) (some a_259) (some (n + 1)) (some ((n + 1) + 1)) (some ((n + 1) + 2)) (some b_412) none))) q = f_412 q := fun q hq => ⟨⟨by omega, by omega⟩, (q_ne (by omega) rfl)⟩
                  exact q_aret (v := some n) hx hb hr (Or.inl ⟨_, rfl⟩) hlocks hW hS ⟨n, (k_again D_259 (bS L_412)), (kt 25 ++ V_259 ++ bT L_412), (bC L_412), s1_412, g1_412, rfl, (q_ne (by omega) e0_412), (q_ne (by omega) e1_412), (by omega), eg_412, (by omega), (⟨⟨by omega, by omega⟩, _, _, _, _, _, _, _, _, q_eq, Or.inr (Or.inr (Or.inr (Or.inr (Or.inr (Or.inr (Or.inr (Or.inl ⟨j_134, _, D_259, V_259, L_412, ej_134, rfl, rfl, rfl, rfl, ((NODE.to H259 eN_259)).up, (LB.to H412 (fun x hx => LACT.to H412 (Nat.le_refl _) (fun _ _ => rfl) 3 x hx) eL_412), rfl⟩)))))))⟩), (fun q g0 g1 g2 => (q_ne (by omega) ((hfr_412 _ (by omega) (by omega) (by omega)).trans (q_ne (by omega) ((hfr_259 _ (by omega) (by omega)).trans ((hfr_249 _ (by omega)).trans (q_ne (by omega) ((hfr_134 _ (by omega)).trans (q_ne (by omega) ((hfr_22 _ (by omega)).trans ((hfr_4 _ (by omega) (by omega)).trans (q_ne (by omega) rfl))))))))))))⟩ (by show _ ≤ 1317; omega) (by show _ ≤ 3654; omega) dX13_drawn_454
              · rw [show nI j_22 - 5 = 9 from by rw [hjv]; decide]
                refine q_put hx hb hts hown hA hW hS iX13 tyX13 tyX13_ok nmX13 hn_22 rfl 0 (by decide) (hts (.fieldLink RX13 37 "HighRecipesLaw$Act" "does" "I") (by decide +kernel)) (fun _ h9 => h9) rfl rfl rfl (Nat.le_of_ble_eq_true rfl) dX13_drawn_109 (fun H locs hW hS => ?_)
                have hW : q_W E (va_up f_22 n (some (cLA 9 0 none (some (n + 1)) (some ((n + 1) + 1)) (some ((n + 1) + 2)) (some ((n + 1) + 3)) none))) n_22 H := hW
                refine lv_aload hx hb dX13_drawn_112 (lv_at hl 1 rfl) ?_
                refine lv_aload hx hb dX13_drawn_114 (lv_at hl 1 rfl) ?_
                refine q_get hx hb hts hown hA hW iX13 q_eq rfl 0 (by decide) (hts (.fieldLink RX13 37 "HighRecipesLaw$Act" "does" "I") (by decide +kernel)) (fun _ h9 => h9) (v := .int 9) rfl dX13_drawn_116 ?_
                refine lv_bipush (v := 7) hx hb dX13_drawn_119 (by decide) ?_
                refine lv_icmp_ne (tgt := 132) hx hb dX13_drawn_121 (by decide) (fun c_121 => ?_) (fun c_121 => absurd c_121 (by decide))
                refine lv_aload_n hx hb dX13_drawn_132 rfl (lv_at hl 2 rfl) ?_
                refine lv_iload_n hx hb dX13_drawn_133 rfl (lv_at hl 3 rfl) ?_
                refine q_ci (va_runV (As := [.int (nI pn)]) (rest := [.ref n]) ⟨hx, hb, hml, hown, hts⟩ (kX14_next l E (va_up f_22 n (some (cLA 9 0 none (some (n + 1)) (some ((n + 1) + 1)) (some ((n + 1) + 2)) (some ((n + 1) + 3)) none))) n_22 r pn s1_22 (q_ne (by omega) e0_22) (by omega) (by omega)) (cwV 1 hts gX13_drawn_X14_next rfl rfl rfl (by decide +kernel) ⟨(Nat.le_of_ble_eq_true rfl), (Nat.le_of_ble_eq_true rfl)⟩) (q_pV hA hW hS (ci := 14) rfl (q_ne (by omega) e0_22)) rfl rfl hl.1 rfl (lv_room (Nat.le_of_ble_eq_true rfl)) dX13_drawn_134 ⟨(by show _ ≤ 1317; omega), (by show _ ≤ 3654; omega)⟩) hS (fun r_134 f_134 n_134 H locs hp hW hS => ?_)
                obtain ⟨j_134, s1_134, rfl, e0_134, ej_134, en_134, hfr_134⟩ := hp
                have l_e0_134 := hW.lt e0_134
                have hla_134 : f_134 la = some (aI E 1 g) := (hfr_134 _ (by omega)).trans (q_ne (by omega) hla_22)
                have hn_134 : f_134 n = some (cLA 9 0 none (some (n + 1)) (some ((n + 1) + 1)) (some ((n + 1) + 2)) (some ((n + 1) + 3)) none) := (hfr_134 _ (by omega)).trans q_eq
                have hn___1_134 : f_134 (n + 1) = some (aI E 0 (fun _ => 0)) := (hfr_134 _ (by omega)).trans (q_ne (by omega) hn___1_22)
                have hn___2_134 : f_134 (n + 2) = some (aQ E 7 0 (fun _ => none)) := (hfr_134 _ (by omega)).trans (q_ne (by omega) hn___2_22)
                have hn___3_134 : f_134 (n + 3) = some (aQ E 7 0 (fun _ => none)) := (hfr_134 _ (by omega)).trans (q_ne (by omega) hn___3_22)
                have hn___4_134 : f_134 (n + 4) = some (aQ E 6 0 (fun _ => none)) := (hfr_134 _ (by omega)).trans (q_ne (by omega) hn___4_22)
                refine q_put hx hb hts hown hA hW hS iX13 tyX13 tyX13_ok nmX13 hn_134 rfl 1 (by decide) (hts (.fieldLink RX13 41 "HighRecipesLaw$Act" "whom" "I") (by decide +kernel)) (fun _ h9 => h9) rfl rfl rfl (Nat.le_of_ble_eq_true rfl) dX13_drawn_137 (fun H locs hW hS => ?_)
                have hW : q_W E (va_up f_134 n (some (cLA 9 (nI j_134) none (some (n + 1)) (some ((n + 1) + 1)) (some ((n + 1) + 2)) (some ((n + 1) + 3)) none))) n_134 H := hW
                refine lv_aload hx hb dX13_drawn_140 (lv_at hl 1 rfl) ?_
                refine q_get hx hb hts hown hA hW iX13 q_eq rfl 0 (by decide) (hts (.fieldLink RX13 37 "HighRecipesLaw$Act" "does" "I") (by decide +kernel)) (fun _ h9 => h9) (v := .int 9) rfl dX13_drawn_142 ?_
                refine lv_iconst (v := 2) hx hb dX13_drawn_145 (by decide) ?_
                refine lv_icmp_lt (tgt := 168) hx hb dX13_drawn_146 (by decide) (fun c_146 => absurd c_146 (by decide)) (fun c_146 => ?_)
                refine lv_aload hx hb dX13_drawn_149 (lv_at hl 1 rfl) ?_
                refine q_get hx hb hts hown hA hW iX13 q_eq rfl 0 (by decide) (hts (.fieldLink RX13 37 "HighRecipesLaw$Act" "does" "I") (by decide +kernel)) (fun _ h9 => h9) (v := .int 9) rfl dX13_drawn_151 ?_
                refine lv_iconst (v := 5) hx hb dX13_drawn_154 (by decide) ?_
                refine lv_icmp_eq (tgt := 168) hx hb dX13_drawn_155 (by decide) (fun c_155 => absurd c_155 (by decide)) (fun c_155 => ?_)
                refine lv_aload hx hb dX13_drawn_158 (lv_at hl 1 rfl) ?_
                refine q_get hx hb hts hown hA hW iX13 q_eq rfl 0 (by decide) (hts (.fieldLink RX13 37 "HighRecipesLaw$Act" "does" "I") (by decide +kernel)) (fun _ h9 => h9) (v := .int 9) rfl dX13_drawn_160 ?_
                refine lv_bipush (v := 6) hx hb dX13_drawn_163 (by decide) ?_
                refine lv_icmp_ne (tgt := 184) hx hb dX13_drawn_165 (by decide) (fun c_165 => ?_) (fun c_165 => absurd c_165 (by decide))
                refine lv_aload hx hb dX13_drawn_184 (lv_at hl 1 rfl) ?_
                refine q_get hx hb hts hown hA hW iX13 q_eq rfl 0 (by decide) (hts (.fieldLink RX13 37 "HighRecipesLaw$Act" "does" "I") (by decide +kernel)) (fun _ h9 => h9) (v := .int 9) rfl dX13_drawn_186 ?_
                refine lv_iconst (v := 2) hx hb dX13_drawn_189 (by decide) ?_
                refine lv_icmp_ne (tgt := 210) hx hb dX13_drawn_190 (by decide) (fun c_190 => ?_) (fun c_190 => absurd c_190 (by decide))
                refine lv_aload hx hb dX13_drawn_210 (lv_at hl 1 rfl) ?_
                refine q_get hx hb hts hown hA hW iX13 q_eq rfl 0 (by decide) (hts (.fieldLink RX13 37 "HighRecipesLaw$Act" "does" "I") (by decide +kernel)) (fun _ h9 => h9) (v := .int 9) rfl dX13_drawn_212 ?_
                refine lv_iconst (v := 3) hx hb dX13_drawn_215 (by decide) ?_
                refine lv_icmp_ne (tgt := 235) hx hb dX13_drawn_216 (by decide) (fun c_216 => ?_) (fun c_216 => absurd c_216 (by decide))
                refine lv_aload hx hb dX13_drawn_235 (lv_at hl 1 rfl) ?_
                refine q_get hx hb hts hown hA hW iX13 q_eq rfl 0 (by decide) (hts (.fieldLink RX13 37 "HighRecipesLaw$Act" "does" "I") (by decide +kernel)) (fun _ h9 => h9) (v := .int 9) rfl dX13_drawn_237 ?_
                refine lv_bipush (v := 8) hx hb dX13_drawn_240 (by decide) ?_
                refine lv_icmp_ne (tgt := 283) hx hb dX13_drawn_242 (by decide) (fun c_242 => ?_) (fun c_242 => absurd c_242 (by decide))
                refine lv_aload hx hb dX13_drawn_283 (lv_at hl 1 rfl) ?_
                refine q_get hx hb hts hown hA hW iX13 q_eq rfl 0 (by decide) (hts (.fieldLink RX13 37 "HighRecipesLaw$Act" "does" "I") (by decide +kernel)) (fun _ h9 => h9) (v := .int 9) rfl dX13_drawn_285 ?_
                refine lv_bipush (v := 9) hx hb dX13_drawn_288 (by decide) ?_
                refine lv_icmp_ne (tgt := 392) hx hb dX13_drawn_290 (by decide) (fun c_290 => absurd c_290 (by decide)) (fun c_290 => ?_)
                refine lv_iconst (v := 1) hx hb dX13_drawn_293 (by decide) ?_
                refine lv_aload_n hx hb dX13_drawn_294 rfl (lv_at hl 2 rfl) ?_
                refine lv_iconst (v := 2) hx hb dX13_drawn_295 (by decide) ?_
                refine q_ci (va_runV (As := [.int 2]) (rest := [.int 1]) ⟨hx, hb, hml, hown, hts⟩ (kX14_next l E (va_up f_134 n (some (cLA 9 (nI j_134) none (some (n + 1)) (some ((n + 1) + 1)) (some ((n + 1) + 2)) (some ((n + 1) + 3)) none))) n_134 r 2 s1_134 (q_ne (by omega) e0_134) (by decide) (by decide)) (cwV 1 hts gX13_drawn_X14_next rfl rfl rfl (by decide +kernel) ⟨(Nat.le_of_ble_eq_true rfl), (Nat.le_of_ble_eq_true rfl)⟩) (q_pV hA hW hS (ci := 14) rfl (q_ne (by omega) e0_134)) rfl rfl hl.1 rfl (lv_room (Nat.le_of_ble_eq_true rfl)) dX13_drawn_296 ⟨(by show _ ≤ 1317; omega), (by show _ ≤ 3654; omega)⟩) hS (fun r_296 f_296 n_296 H locs hp hW hS => ?_)
                obtain ⟨j_296, s1_296, rfl, e0_296, ej_296, en_296, hfr_296⟩ := hp
                have l_e0_296 := hW.lt e0_296
                have hla_296 : f_296 la = some (aI E 1 g) := (hfr_296 _ (by omega)).trans (q_ne (by omega) hla_134)
                have hn_296 : f_296 n = some (cLA 9 (nI j_134) none (some (n + 1)) (some ((n + 1) + 1)) (some ((n + 1) + 2)) (some ((n + 1) + 3)) none) := (hfr_296 _ (by omega)).trans q_eq
                have hn___1_296 : f_296 (n + 1) = some (aI E 0 (fun _ => 0)) := (hfr_296 _ (by omega)).trans (q_ne (by omega) hn___1_134)
                have hn___2_296 : f_296 (n + 2) = some (aQ E 7 0 (fun _ => none)) := (hfr_296 _ (by omega)).trans (q_ne (by omega) hn___2_134)
                have hn___3_296 : f_296 (n + 3) = some (aQ E 7 0 (fun _ => none)) := (hfr_296 _ (by omega)).trans (q_ne (by omega) hn___3_134)
                have hn___4_296 : f_296 (n + 4) = some (aQ E 6 0 (fun _ => none)) := (hfr_296 _ (by omega)).trans (q_ne (by omega) hn___4_134)
                refine lv_iadd hx hb dX13_drawn_299 ?_
                rcases (show j_296 = 0 ∨ j_296 = 1 by omega) with hjm | hjm
                · rw [show 1 + nI j_296 = 1 from by rw [hjm]; decide]
                  refine lv_istore (lv' := [(7, .int 1), (6, .int (nI j_22)), (5, .ref n), (0, .ref r), (1, .int (nI pn)), (2, .int (nI R)), (3, .int 0), (4, .ref la)]) hx hb dX13_drawn_300 hl (by decide) rfl (fun ls hl => ?_)
                  refine lv_aload hx hb dX13_drawn_302 (lv_at hl 2 rfl) ?_
                  refine lv_iload hx hb dX13_drawn_304 (lv_at hl 0 rfl) ?_
                  refine q_newa (atype := .int) hx hb hA hW hS (hts (.arrayClass .int) (by decide +kernel)) (ty := .int) rfl 0 rfl (fun C h9 => by cases h9) (N' := 1) (a0 := (1, .inl (fun _ => 0))) (fun _ => rfl) (by decide) (by decide) (Nat.le_of_ble_eq_true rfl) (by show _ ≤ 1317; omega) (by show _ ≤ 3654; omega) dX13_drawn_306 (fun H hW hS => ?_)
                  have hW : q_W E (va_up f_296 n_296 (some (aI E 1 (fun _ => 0)))) (n_296 + 1) H := hW
                  refine q_put hx hb hts hown hA hW hS iX13 tyX13 tyX13_ok nmX13 (q_ne (by omega) hn_296) rfl 3 (by decide) (hts (.fieldLink RX13 7 "HighRecipesLaw$Act" "signs" "[I") (by decide +kernel)) (fun _ h9 => h9) rfl rfl rfl (Nat.le_of_ble_eq_true rfl) dX13_drawn_308 (fun H locs hW hS => ?_)
                  have hW : q_W E (va_up (va_up f_296 n_296 (some (aI E 1 (fun _ => 0)))) n (some (cLA 9 (nI j_134) none (some n_296) (some ((n + 1) + 1)) (some ((n + 1) + 2)) (some ((n + 1) + 3)) none))) (n_296 + 1) H := hW
                  refine lv_aload hx hb dX13_drawn_311 (lv_at hl 2 rfl) ?_
                  refine lv_iload hx hb dX13_drawn_313 (lv_at hl 0 rfl) ?_
                  refine q_newq hx hb hown hA hW hS (hts (.classLink RX13 13 "HighRecipesLaw$Node") (by decide +kernel)) (hA.2.2.2.2.2.2.2.1 "HighRecipesLaw$Node" (by decide +kernel)) 7 rfl (N' := 1) (by decide) (by decide) (Nat.le_of_ble_eq_true rfl) (by show _ ≤ 1317; omega) (by show _ ≤ 3654; omega) dX13_drawn_315 (fun H hW hS => ?_)
                  have hW : q_W E (va_up (va_up (va_up f_296 n_296 (some (aI E 1 (fun _ => 0)))) n (some (cLA 9 (nI j_134) none (some n_296) (some ((n + 1) + 1)) (some ((n + 1) + 2)) (some ((n + 1) + 3)) none))) (n_296 + 1) (some (aQ E 7 1 (fun _ => none)))) (n_296 + 1 + 1) H := hW
                  refine q_put hx hb hts hown hA hW hS iX13 tyX13 tyX13_ok nmX13 (q_ne (by omega) q_eq) rfl 4 (by decide) (hts (.fieldLink RX13 15 "HighRecipesLaw$Act" "ones" "[LHighRecipesLaw$Node;") (by decide +kernel)) (fun _ h9 => h9) rfl rfl rfl (Nat.le_of_ble_eq_true rfl) dX13_drawn_318 (fun H locs hW hS => ?_)
                  have hW : q_W E (va_up (va_up (va_up (va_up f_296 n_296 (some (aI E 1 (fun _ => 0)))) n (some (cLA 9 (nI j_134) none (some n_296) (some ((n + 1) + 1)) (some ((n + 1) + 2)) (some ((n + 1) + 3)) none))) (n_296 + 1) (some (aQ E 7 1 (fun _ => none)))) n (some (cLA 9 (nI j_134) none (some n_296) (some (n_296 + 1)) (some ((n + 1) + 2)) (some ((n + 1) + 3)) none))) (n_296 + 2) H := hW
                  refine lv_aload hx hb dX13_drawn_321 (lv_at hl 2 rfl) ?_
                  refine lv_iload hx hb dX13_drawn_323 (lv_at hl 0 rfl) ?_
                  refine q_newq hx hb hown hA hW hS (hts (.classLink RX13 13 "HighRecipesLaw$Node") (by decide +kernel)) (hA.2.2.2.2.2.2.2.1 "HighRecipesLaw$Node" (by decide +kernel)) 7 rfl (N' := 1) (by decide) (by decide) (Nat.le_of_ble_eq_true rfl) (by show _ ≤ 1317; omega) (by show _ ≤ 3654; omega) dX13_drawn_325 (fun H hW hS => ?_)
                  have hW : q_W E (va_up (va_up (va_up (va_up (va_up f_296 n_296 (some (aI E 1 (fun _ => 0)))) n (some (cLA 9 (nI j_134) none (some n_296) (some ((n + 1) + 1)) (some ((n + 1) + 2)) (some ((n + 1) + 3)) none))) (n_296 + 1) (some (aQ E 7 1 (fun _ => none)))) n (some (cLA 9 (nI j_134) none (some n_296) (some (n_296 + 1)) (some ((n + 1) + 2)) (some ((n + 1) + 3)) none))) (n_296 + 2) (some (aQ E 7 1 (fun _ => none)))) (n_296 + 2 + 1) H := hW
                  refine q_put hx hb hts hown hA hW hS iX13 tyX13 tyX13_ok nmX13 (q_ne (by omega) q_eq) rfl 5 (by decide) (hts (.fieldLink RX13 19 "HighRecipesLaw$Act" "others" "[LHighRecipesLaw$Node;") (by decide +kernel)) (fun _ h9 => h9) rfl rfl rfl (Nat.le_of_ble_eq_true rfl) dX13_drawn_328 (fun H locs hW hS => ?_)
                  have hW : q_W E (va_up (va_up (va_up (va_up (va_up (va_up f_296 n_296 (some (aI E 1 (fun _ => 0)))) n (some (cLA 9 (nI j_134) none (some n_296) (some ((n + 1) + 1)) (some ((n + 1) + 2)) (some ((n + 1) + 3)) none))) (n_296 + 1) (some (aQ E 7 1 (fun _ => none)))) n (some (cLA 9 (nI j_134) none (some n_296) (some (n_296 + 1)) (some ((n + 1) + 2)) (some ((n + 1) + 3)) none))) (n_296 + 2) (some (aQ E 7 1 (fun _ => none)))) n (some (cLA 9 (nI j_134) none (some n_296) (some (n_296 + 1)) (some (n_296 + 2)) (some ((n + 1) + 3)) none))) (n_296 + 3) H := hW
                  refine lv_iconst (v := 0) hx hb dX13_drawn_331 (by decide) ?_
                  refine lv_istore (lv' := [(8, .int 0), (7, .int 1), (6, .int (nI j_22)), (5, .ref n), (0, .ref r), (1, .int (nI pn)), (2, .int (nI R)), (3, .int 0), (4, .ref la)]) hx hb dX13_drawn_332 hl (by decide) rfl (fun ls hl => ?_)
                  refine lv_iload hx hb dX13_drawn_334 (lv_at hl 0 rfl) ?_
                  refine lv_iload hx hb dX13_drawn_336 (lv_at hl 1 rfl) ?_
                  refine lv_icmp_ge (tgt := 392) hx hb dX13_drawn_338 (by decide) (fun c_338 => absurd c_338 (by decide)) (fun c_338 => ?_)
                  refine lv_aload hx hb dX13_drawn_341 (lv_at hl 3 rfl) ?_
                  refine q_get hx hb hts hown hA hW iX13 q_eq rfl 3 (by decide) (hts (.fieldLink RX13 7 "HighRecipesLaw$Act" "signs" "[I") (by decide +kernel)) (fun _ h9 => h9) (v := .ref n_296) rfl dX13_drawn_343 ?_
                  refine lv_iload hx hb dX13_drawn_346 (lv_at hl 0 rfl) ?_
                  refine lv_aload_n hx hb dX13_drawn_348 rfl (lv_at hl 4 rfl) ?_
                  refine lv_iconst (v := 3) hx hb dX13_drawn_349 (by decide) ?_
                  refine q_ci (va_runV (As := [.int 3]) (rest := [.int 0, .ref n_296]) ⟨hx, hb, hml, hown, hts⟩ (kX14_next l E (va_up (va_up (va_up (va_up (va_up (va_up f_296 n_296 (some (aI E 1 (fun _ => 0)))) n (some (cLA 9 (nI j_134) none (some n_296) (some ((n + 1) + 1)) (some ((n + 1) + 2)) (some ((n + 1) + 3)) none))) (n_296 + 1) (some (aQ E 7 1 (fun _ => none)))) n (some (cLA 9 (nI j_134) none (some n_296) (some (n_296 + 1)) (some ((n + 1) + 2)) (some ((n + 1) + 3)) none))) (n_296 + 2) (some (aQ E 7 1 (fun _ => none)))) n (some (cLA 9 (nI j_134) none (some n_296) (some (n_296 + 1)) (some (n_296 + 2)) (some ((n + 1) + 3)) none))) (n_296 + 3) r 3 s1_296 (q_ne (by omega) (q_ne (by omega) (q_ne (by omega) (q_ne (by omega) (q_ne (by omega) (q_ne (by omega) e0_296)))))) (by decide) (by decide)) (cwV 1 hts gX13_drawn_X14_next rfl rfl rfl (by decide +kernel) ⟨(Nat.le_of_ble_eq_true rfl), (Nat.le_of_ble_eq_true rfl)⟩) (q_pV hA hW hS (ci := 14) rfl (q_ne (by omega) (q_ne (by omega) (q_ne (by omega) (q_ne (by omega) (q_ne (by omega) (q_ne (by omega) e0_296))))))) rfl rfl hl.1 rfl (lv_room (Nat.le_of_ble_eq_true rfl)) dX13_drawn_350 ⟨(by show _ ≤ 1317; omega), (by show _ ≤ 3654; omega)⟩) hS (fun r_350 f_350 n_350 H locs hp hW hS => ?_)
                  obtain ⟨j_350, s1_350, rfl, e0_350, ej_350, en_350, hfr_350⟩ := hp
                  have l_e0_350 := hW.lt e0_350
                  have hla_350 : f_350 la = some (aI E 1 g) := (hfr_350 _ (by omega)).trans (q_ne (by omega) (q_ne (by omega) (q_ne (by omega) (q_ne (by omega) (q_ne (by omega) (q_ne (by omega) hla_296))))))
                  have hn_350 : f_350 n = some (cLA 9 (nI j_134) none (some n_296) (some (n_296 + 1)) (some (n_296 + 2)) (some ((n + 1) + 3)) none) := (hfr_350 _ (by omega)).trans q_eq
                  have hn___1_350 : f_350 (n + 1) = some (aI E 0 (fun _ => 0)) := (hfr_350 _ (by omega)).trans (q_ne (by omega) (q_ne (by omega) (q_ne (by omega) (q_ne (by omega) (q_ne (by omega) (q_ne (by omega) hn___1_296))))))
                  have hn___2_350 : f_350 (n + 2) = some (aQ E 7 0 (fun _ => none)) := (hfr_350 _ (by omega)).trans (q_ne (by omega) (q_ne (by omega) (q_ne (by omega) (q_ne (by omega) (q_ne (by omega) (q_ne (by omega) hn___2_296))))))
                  have hn___3_350 : f_350 (n + 3) = some (aQ E 7 0 (fun _ => none)) := (hfr_350 _ (by omega)).trans (q_ne (by omega) (q_ne (by omega) (q_ne (by omega) (q_ne (by omega) (q_ne (by omega) (q_ne (by omega) hn___3_296))))))
                  have hn___4_350 : f_350 (n + 4) = some (aQ E 6 0 (fun _ => none)) := (hfr_350 _ (by omega)).trans (q_ne (by omega) (q_ne (by omega) (q_ne (by omega) (q_ne (by omega) (q_ne (by omega) (q_ne (by omega) hn___4_296))))))
                  have hn_296_350 : f_350 n_296 = some (aI E 1 (fun _ => 0)) := (hfr_350 _ (by omega)).trans (q_ne (by omega) (q_ne (by omega) (q_ne (by omega) (q_ne (by omega) (q_ne (by omega) q_eq)))))
                  have hn_296___1_350 : f_350 (n_296 + 1) = some (aQ E 7 1 (fun _ => none)) := (hfr_350 _ (by omega)).trans (q_ne (by omega) (q_ne (by omega) (q_ne (by omega) q_eq)))
                  have hn_296___2_350 : f_350 (n_296 + 2) = some (aQ E 7 1 (fun _ => none)) := (hfr_350 _ (by omega)).trans (q_ne (by omega) q_eq)
                  refine q_iast hx hb hA hW hS hn_296_350 (vp_in_nI (by decide) (by decide)) dX13_drawn_353 (fun H locs hW hS => ?_)
                  rw [show (0 : Int32).toNatClampNeg = 0 from (by decide)] at hW
                  have hW : q_W E (va_up f_350 n_296 (some (aI E 1 (upd (fun _ => 0) 0 (nI j_350))))) n_350 H := hW
                  refine lv_aload hx hb dX13_drawn_354 (lv_at hl 3 rfl) ?_
                  refine q_get hx hb hts hown hA hW iX13 (q_ne (by omega) hn_350) rfl 4 (by decide) (hts (.fieldLink RX13 15 "HighRecipesLaw$Act" "ones" "[LHighRecipesLaw$Node;") (by decide +kernel)) (fun _ h9 => h9) (v := .ref (n_296 + 1)) rfl dX13_drawn_356 ?_
                  refine lv_iload hx hb dX13_drawn_359 (lv_at hl 0 rfl) ?_
                  refine lv_aload_n hx hb dX13_drawn_361 rfl (lv_at hl 4 rfl) ?_
                  refine lv_iload_n hx hb dX13_drawn_362 rfl (lv_at hl 5 rfl) ?_
                  refine lv_iconst (v := 0) hx hb dX13_drawn_363 (by decide) ?_
                  refine lv_bipush (v := 40) hx hb dX13_drawn_364 (by decide) ?_
                  refine q_cq (va_runS (As := [.ref r, .int (nI pn), .int 0, .int 40]) (rest := [.int 0, .ref (n_296 + 1)]) ⟨hx, hb, hml, hown, hts⟩ (kX16_drawn_0 l E (va_up f_350 n_296 (some (aI E 1 (upd (fun _ => 0) 0 (nI j_350))))) n_350 r pn 40 s1_350 (q_ne (by omega) e0_350) hp1 hp2 (by decide) (by decide)) (va_cwS 4 hts gX13_drawn_X16_drawn rfl rfl rfl (by decide +kernel) ⟨(Nat.le_of_ble_eq_true rfl), (Nat.le_of_ble_eq_true rfl)⟩) (q_pS hA hW hS) rfl rfl hl.1 rfl (lv_room (Nat.le_of_ble_eq_true rfl)) dX13_drawn_366 ⟨(by show _ ≤ 1317; omega), (by show _ ≤ 3654; omega)⟩) hS (fun r_366 f_366 n_366 H locs hp hW hS => ?_)
                  obtain ⟨a_366, s1_366, D_366, V_366, rfl, e0_366, en_366, eN_366, hfr_366⟩ := hp
                  have l_e0_366 := hW.lt e0_366
                  have hla_366 : f_366 la = some (aI E 1 g) := (hfr_366 _ (by omega) (by omega)).trans (q_ne (by omega) hla_350)
                  have hn_366 : f_366 n = some (cLA 9 (nI j_134) none (some n_296) (some (n_296 + 1)) (some (n_296 + 2)) (some ((n + 1) + 3)) none) := (hfr_366 _ (by omega) (by omega)).trans (q_ne (by omega) hn_350)
                  have hn___1_366 : f_366 (n + 1) = some (aI E 0 (fun _ => 0)) := (hfr_366 _ (by omega) (by omega)).trans (q_ne (by omega) hn___1_350)
                  have hn___2_366 : f_366 (n + 2) = some (aQ E 7 0 (fun _ => none)) := (hfr_366 _ (by omega) (by omega)).trans (q_ne (by omega) hn___2_350)
                  have hn___3_366 : f_366 (n + 3) = some (aQ E 7 0 (fun _ => none)) := (hfr_366 _ (by omega) (by omega)).trans (q_ne (by omega) hn___3_350)
                  have hn___4_366 : f_366 (n + 4) = some (aQ E 6 0 (fun _ => none)) := (hfr_366 _ (by omega) (by omega)).trans (q_ne (by omega) hn___4_350)
                  have hn_296_366 : f_366 n_296 = some (aI E 1 (upd (fun _ => 0) 0 (nI j_350))) := (hfr_366 _ (by omega) (by omega)).trans q_eq
                  have hn_296___1_366 : f_366 (n_296 + 1) = some (aQ E 7 1 (fun _ => none)) := (hfr_366 _ (by omega) (by omega)).trans (q_ne (by omega) hn_296___1_350)
                  have hn_296___2_366 : f_366 (n_296 + 2) = some (aQ E 7 1 (fun _ => none)) := (hfr_366 _ (by omega) (by omega)).trans (q_ne (by omega) hn_296___2_350)
                  obtain ⟨hcb366, so366, k366, x366, y366, hcn366⟩ := eN_366.cell
                  have hcc366 : (_ : Nat) ≤ a_366 ∧ a_366 < _ := hcb366
                  refine q_aast hx hb hA hW hS 7 rfl hn_296___1_366 hcn366 rfl (vp_in_nI (by decide) (by decide)) dX13_drawn_369 (fun H locs hW hS => ?_)
                  rw [show (0 : Int32).toNatClampNeg = 0 from (by decide)] at hW
                  have hW : q_W E (va_up f_366 (n_296 + 1) (some (aQ E 7 1 (va_up (fun _ => none) 0 (some a_366))))) n_366 H := hW
                  refine lv_aload hx hb dX13_drawn_370 (lv_at hl 3 rfl) ?_
                  refine q_get hx hb hts hown hA hW iX13 (q_ne (by omega) hn_366) rfl 5 (by decide) (hts (.fieldLink RX13 19 "HighRecipesLaw$Act" "others" "[LHighRecipesLaw$Node;") (by decide +kernel)) (fun _ h9 => h9) (v := .ref (n_296 + 2)) rfl dX13_drawn_372 ?_
                  refine lv_iload hx hb dX13_drawn_375 (lv_at hl 0 rfl) ?_
                  refine lv_aload_n hx hb dX13_drawn_377 rfl (lv_at hl 4 rfl) ?_
                  refine lv_iload_n hx hb dX13_drawn_378 rfl (lv_at hl 5 rfl) ?_
                  refine lv_iconst (v := 0) hx hb dX13_drawn_379 (by decide) ?_
                  refine lv_bipush (v := 40) hx hb dX13_drawn_380 (by decide) ?_
                  refine q_cq (va_runS (As := [.ref r, .int (nI pn), .int 0, .int 40]) (rest := [.int 0, .ref (n_296 + 2)]) ⟨hx, hb, hml, hown, hts⟩ (kX16_drawn_0 l E (va_up f_366 (n_296 + 1) (some (aQ E 7 1 (va_up (fun _ => none) 0 (some a_366))))) n_366 r pn 40 s1_366 (q_ne (by omega) e0_366) hp1 hp2 (by decide) (by decide)) (va_cwS 4 hts gX13_drawn_X16_drawn rfl rfl rfl (by decide +kernel) ⟨(Nat.le_of_ble_eq_true rfl), (Nat.le_of_ble_eq_true rfl)⟩) (q_pS hA hW hS) rfl rfl hl.1 rfl (lv_room (Nat.le_of_ble_eq_true rfl)) dX13_drawn_382 ⟨(by show _ ≤ 1317; omega), (by show _ ≤ 3654; omega)⟩) hS (fun r_382 f_382 n_382 H locs hp hW hS => ?_)
                  obtain ⟨a_382, s1_382, D_382, V_382, rfl, e0_382, en_382, eN_382, hfr_382⟩ := hp
                  have l_e0_382 := hW.lt e0_382
                  have hla_382 : f_382 la = some (aI E 1 g) := (hfr_382 _ (by omega) (by omega)).trans (q_ne (by omega) hla_366)
                  have hn_382 : f_382 n = some (cLA 9 (nI j_134) none (some n_296) (some (n_296 + 1)) (some (n_296 + 2)) (some ((n + 1) + 3)) none) := (hfr_382 _ (by omega) (by omega)).trans (q_ne (by omega) hn_366)
                  have hn___1_382 : f_382 (n + 1) = some (aI E 0 (fun _ => 0)) := (hfr_382 _ (by omega) (by omega)).trans (q_ne (by omega) hn___1_366)
                  have hn___2_382 : f_382 (n + 2) = some (aQ E 7 0 (fun _ => none)) := (hfr_382 _ (by omega) (by omega)).trans (q_ne (by omega) hn___2_366)
                  have hn___3_382 : f_382 (n + 3) = some (aQ E 7 0 (fun _ => none)) := (hfr_382 _ (by omega) (by omega)).trans (q_ne (by omega) hn___3_366)
                  have hn___4_382 : f_382 (n + 4) = some (aQ E 6 0 (fun _ => none)) := (hfr_382 _ (by omega) (by omega)).trans (q_ne (by omega) hn___4_366)
                  have hn_296_382 : f_382 n_296 = some (aI E 1 (upd (fun _ => 0) 0 (nI j_350))) := (hfr_382 _ (by omega) (by omega)).trans (q_ne (by omega) hn_296_366)
                  have hn_296___1_382 : f_382 (n_296 + 1) = some (aQ E 7 1 (va_up (fun _ => none) 0 (some a_366))) := (hfr_382 _ (by omega) (by omega)).trans q_eq
                  have hn_296___2_382 : f_382 (n_296 + 2) = some (aQ E 7 1 (fun _ => none)) := (hfr_382 _ (by omega) (by omega)).trans (q_ne (by omega) hn_296___2_366)
                  have ha_366_382 : f_382 a_366 = some (cNode so366 k366 x366 y366) := (hfr_382 _ (by omega) (by omega)).trans (q_ne (by omega) hcn366)
                  obtain ⟨hcb382, so382, k382, x382, y382, hcn382⟩ := eN_382.cell
                  have hcc382 : (_ : Nat) ≤ a_382 ∧ a_382 < _ := hcb382
                  refine q_aast hx hb hA hW hS 7 rfl hn_296___2_382 hcn382 rfl (vp_in_nI (by decide) (by decide)) dX13_drawn_385 (fun H locs hW hS => ?_)
                  rw [show (0 : Int32).toNatClampNeg = 0 from (by decide)] at hW
                  have hW : q_W E (va_up f_382 (n_296 + 2) (some (aQ E 7 1 (va_up (fun _ => none) 0 (some a_382))))) n_382 H := hW
                  refine lv_iinc (v := 1) (lv' := [(8, .int 1), (7, .int 1), (6, .int (nI j_22)), (5, .ref n), (0, .ref r), (1, .int (nI pn)), (2, .int (nI R)), (3, .int 0), (4, .ref la)]) hx hb dX13_drawn_386 hl (k := 0) rfl (by decide) (by decide) rfl (fun ls hl => ?_)
                  refine lv_goto (tgt := 334) hx hb dX13_drawn_389 (by decide) ?_
                  refine lv_iload hx hb dX13_drawn_334 (lv_at hl 0 rfl) ?_
                  refine lv_iload hx hb dX13_drawn_336 (lv_at hl 1 rfl) ?_
                  refine lv_icmp_ge (tgt := 392) hx hb dX13_drawn_338 (by decide) (fun c_338 => ?_) (fun c_338 => absurd c_338 (by decide))
                  refine lv_aload hx hb dX13_drawn_392 (lv_at hl 3 rfl) ?_
                  refine q_get hx hb hts hown hA hW iX13 (q_ne (by omega) hn_382) rfl 0 (by decide) (hts (.fieldLink RX13 37 "HighRecipesLaw$Act" "does" "I") (by decide +kernel)) (fun _ h9 => h9) (v := .int 9) rfl dX13_drawn_394 ?_
                  refine lv_bipush (v := 7) hx hb dX13_drawn_397 (by decide) ?_
                  refine lv_icmp_le (tgt := 418) hx hb dX13_drawn_399 (by decide) (fun c_399 => absurd c_399 (by decide)) (fun c_399 => ?_)
                  refine lv_aload hx hb dX13_drawn_402 (lv_at hl 3 rfl) ?_
                  refine lv_aload_n hx hb dX13_drawn_404 rfl (lv_at hl 4 rfl) ?_
                  refine lv_iload_n hx hb dX13_drawn_405 rfl (lv_at hl 5 rfl) ?_
                  refine lv_iload_n hx hb dX13_drawn_406 rfl (lv_at hl 6 rfl) ?_
                  refine lv_iload_n hx hb dX13_drawn_407 rfl (lv_at hl 7 rfl) ?_
                  refine lv_iconst (v := 1) hx hb dX13_drawn_408 (by decide) ?_
                  refine lv_iadd hx hb dX13_drawn_409 ?_
                  rw [show (0 : Int32) + 1 = 1 from by decide]
                  refine lv_aload hx hb dX13_drawn_410 (lv_at hl 8 rfl) ?_
                  refine q_cq (va_runS (As := [.ref r, .int (nI pn), .int (nI R), .int 1, .ref la]) (rest := [.ref n]) ⟨hx, hb, hml, hown, hts⟩ (kX13_some_1 l E (va_up f_382 (n_296 + 2) (some (aQ E 7 1 (va_up (fun _ => none) 0 (some a_382))))) n_382 r la pn R q RS s1_382 g (q_ne (by omega) e0_382) (q_ne (by omega) hla_382) hp1 hp2 hR (by omega) hg) (va_cwS 5 hts gX13_drawn_X13_some rfl rfl rfl (by decide +kernel) ⟨(Nat.le_of_ble_eq_true rfl), (Nat.le_of_ble_eq_true rfl)⟩) (q_pS hA hW hS) rfl rfl hl.1 rfl (lv_room (Nat.le_of_ble_eq_true rfl)) dX13_drawn_412 ⟨(by show _ ≤ 1317; omega), (by show _ ≤ 3654; omega)⟩) hS (fun r_412 f_412 n_412 H locs hp hW hS => ?_)
                  obtain ⟨b_412, L_412, s1_412, g1_412, rfl, e0_412, e1_412, ec_412, eg_412, en_412, eL_412, hfr_412⟩ := hp
                  have l_e0_412 := hW.lt e0_412
                  have l_e1_412 := hW.lt e1_412
                  have hn_412 : f_412 n = some (cLA 9 (nI j_134) none (some n_296) (some (n_296 + 1)) (some (n_296 + 2)) (some ((n + 1) + 3)) none) := (hfr_412 _ (by omega) (by omega) (by omega)).trans (q_ne (by omega) hn_382)
                  have hn___1_412 : f_412 (n + 1) = some (aI E 0 (fun _ => 0)) := (hfr_412 _ (by omega) (by omega) (by omega)).trans (q_ne (by omega) hn___1_382)
                  have hn___2_412 : f_412 (n + 2) = some (aQ E 7 0 (fun _ => none)) := (hfr_412 _ (by omega) (by omega) (by omega)).trans (q_ne (by omega) hn___2_382)
                  have hn___3_412 : f_412 (n + 3) = some (aQ E 7 0 (fun _ => none)) := (hfr_412 _ (by omega) (by omega) (by omega)).trans (q_ne (by omega) hn___3_382)
                  have hn___4_412 : f_412 (n + 4) = some (aQ E 6 0 (fun _ => none)) := (hfr_412 _ (by omega) (by omega) (by omega)).trans (q_ne (by omega) hn___4_382)
                  have hn_296_412 : f_412 n_296 = some (aI E 1 (upd (fun _ => 0) 0 (nI j_350))) := (hfr_412 _ (by omega) (by omega) (by omega)).trans (q_ne (by omega) hn_296_382)
                  have hn_296___1_412 : f_412 (n_296 + 1) = some (aQ E 7 1 (va_up (fun _ => none) 0 (some a_366))) := (hfr_412 _ (by omega) (by omega) (by omega)).trans (q_ne (by omega) hn_296___1_382)
                  have hn_296___2_412 : f_412 (n_296 + 2) = some (aQ E 7 1 (va_up (fun _ => none) 0 (some a_382))) := (hfr_412 _ (by omega) (by omega) (by omega)).trans q_eq
                  have ha_366_412 : f_412 a_366 = some (cNode so366 k366 x366 y366) := (hfr_412 _ (by omega) (by omega) (by omega)).trans (q_ne (by omega) ha_366_382)
                  have ha_382_412 : f_412 a_382 = some (cNode so382 k382 x382 y382) := (hfr_412 _ (by omega) (by omega) (by omega)).trans (q_ne (by omega) hcn382)
                  refine q_put hx hb hts hown hA hW hS iX13 tyX13 tyX13_ok nmX13 hn_412 rfl 6 (by decide) (hts (.fieldLink RX13 22 "HighRecipesLaw$Act" "block" "[LHighRecipesLaw$Act;") (by decide +kernel)) (fun _ h9 => h9) rfl rfl rfl (Nat.le_of_ble_eq_true rfl) dX13_drawn_415 (fun H locs hW hS => ?_)
                  have hW : q_W E (va_up f_412 n (some (cLA 9 (nI j_134) none (some n_296) (some (n_296 + 1)) (some (n_296 + 2)) (some b_412) none))) n_412 H := hW
                  refine lv_aload hx hb dX13_drawn_418 (lv_at hl 3 rfl) ?_
                  refine q_get hx hb hts hown hA hW iX13 q_eq rfl 0 (by decide) (hts (.fieldLink RX13 37 "HighRecipesLaw$Act" "does" "I") (by decide +kernel)) (fun _ h9 => h9) (v := .int 9) rfl dX13_drawn_420 ?_
                  refine lv_bipush (v := 9) hx hb dX13_drawn_423 (by decide) ?_
                  refine lv_icmp_ne (tgt := 452) hx hb dX13_drawn_425 (by decide) (fun c_425 => absurd c_425 (by decide)) (fun c_425 => ?_)
                  refine lv_aload_n hx hb dX13_drawn_428 rfl (lv_at hl 4 rfl) ?_
                  refine lv_iconst (v := 2) hx hb dX13_drawn_429 (by decide) ?_
                  refine q_ci (va_runV (As := [.int 2]) (rest := []) ⟨hx, hb, hml, hown, hts⟩ (kX14_next l E (va_up f_412 n (some (cLA 9 (nI j_134) none (some n_296) (some (n_296 + 1)) (some (n_296 + 2)) (some b_412) none))) n_412 r 2 s1_412 (q_ne (by omega) e0_412) (by decide) (by decide)) (cwV 1 hts gX13_drawn_X14_next rfl rfl rfl (by decide +kernel) ⟨(Nat.le_of_ble_eq_true rfl), (Nat.le_of_ble_eq_true rfl)⟩) (q_pV hA hW hS (ci := 14) rfl (q_ne (by omega) e0_412)) rfl rfl hl.1 rfl (lv_room (Nat.le_of_ble_eq_true rfl)) dX13_drawn_430 ⟨(by show _ ≤ 1317; omega), (by show _ ≤ 3654; omega)⟩) hS (fun r_430 f_430 n_430 H locs hp hW hS => ?_)
                  obtain ⟨j_430, s1_430, rfl, e0_430, ej_430, en_430, hfr_430⟩ := hp
                  have l_e0_430 := hW.lt e0_430
                  have hn_430 : f_430 n = some (cLA 9 (nI j_134) none (some n_296) (some (n_296 + 1)) (some (n_296 + 2)) (some b_412) none) := (hfr_430 _ (by omega)).trans q_eq
                  have hn___1_430 : f_430 (n + 1) = some (aI E 0 (fun _ => 0)) := (hfr_430 _ (by omega)).trans (q_ne (by omega) hn___1_412)
                  have hn___2_430 : f_430 (n + 2) = some (aQ E 7 0 (fun _ => none)) := (hfr_430 _ (by omega)).trans (q_ne (by omega) hn___2_412)
                  have hn___3_430 : f_430 (n + 3) = some (aQ E 7 0 (fun _ => none)) := (hfr_430 _ (by omega)).trans (q_ne (by omega) hn___3_412)
                  have hn___4_430 : f_430 (n + 4) = some (aQ E 6 0 (fun _ => none)) := (hfr_430 _ (by omega)).trans (q_ne (by omega) hn___4_412)
                  have hn_296_430 : f_430 n_296 = some (aI E 1 (upd (fun _ => 0) 0 (nI j_350))) := (hfr_430 _ (by omega)).trans (q_ne (by omega) hn_296_412)
                  have hn_296___1_430 : f_430 (n_296 + 1) = some (aQ E 7 1 (va_up (fun _ => none) 0 (some a_366))) := (hfr_430 _ (by omega)).trans (q_ne (by omega) hn_296___1_412)
                  have hn_296___2_430 : f_430 (n_296 + 2) = some (aQ E 7 1 (va_up (fun _ => none) 0 (some a_382))) := (hfr_430 _ (by omega)).trans (q_ne (by omega) hn_296___2_412)
                  have ha_366_430 : f_430 a_366 = some (cNode so366 k366 x366 y366) := (hfr_430 _ (by omega)).trans (q_ne (by omega) ha_366_412)
                  have ha_382_430 : f_430 a_382 = some (cNode so382 k382 x382 y382) := (hfr_430 _ (by omega)).trans (q_ne (by omega) ha_382_412)
                  have hla_430 : f_430 la = some (aI E 1 g1_412) := (hfr_430 _ (by omega)).trans (q_ne (by omega) e1_412)
                  refine lv_if_ne (tgt := 452) hx hb dX13_drawn_433 (by decide) (fun c_433 => ?_) (fun c_433 => ?_)
                  · have hz2 : j_430 ≠ 0 := fun e => c_433 (by rw [e]; rfl)
                    refine lv_aload hx hb dX13_drawn_452 (lv_at hl 3 rfl) ?_
                    have H366 : ∀ q : Nat, (n_350 ≤ q ∧ q < n_366) → (n ≤ q ∧ q < n_430) ∧ (f_430) q = f_366 q := fun q hq => ⟨⟨by omega, by omega⟩, ((hfr_430 _ (by omega)).trans (q_ne (by omega) ((hfr_412 _ (by omega) (by omega) (by omega)).trans (q_ne (by omega) ((hfr_382 _ (by omega) (by omega)).trans (q_ne (by omega) rfl))))))⟩
                    have H382 : ∀ q : Nat, (n_366 ≤ q ∧ q < n_382) → (n ≤ q ∧ q < n_430) ∧ (f_430) q = f_382 q := fun q hq => ⟨⟨by omega, by omega⟩, ((hfr_430 _ (by omega)).trans (q_ne (by omega) ((hfr_412 _ (by omega) (by omega) (by omega)).trans (q_ne (by omega) rfl))))⟩
                    have hcm : CMPS pn (fun q => n ≤ q ∧ q < n_430) E (f_430) (n_296) (n_296 + 1) (n_296 + 2) [(j_350, (a_366, D_366, V_366), (a_382, D_382, V_382))] := by
                      refine ⟨_, _, _, ⟨by omega, by omega⟩, ⟨by omega, by omega⟩, ⟨by omega, by omega⟩, hn_296_430, hn_296___1_430, hn_296___2_430, fun j x hx => ?_⟩
                      match j, hx with
                      | 0, hx =>
                        cases hx
                        exact ⟨rfl, ej_350, rfl, rfl, (NODE.to H366 eN_366), (NODE.to H382 eN_382)⟩
                      | j + 1, hx => cases hx
                    have H412 : ∀ q : Nat, (n_382 ≤ q ∧ q < n_412) → (n ≤ q ∧ q < n_430) ∧ (f_430) q = f_412 q := fun q hq => ⟨⟨by omega, by omega⟩, ((hfr_430 _ (by omega)).trans (q_ne (by omega) rfl))⟩
                    exact q_aret (v := some n) hx hb hr (Or.inl ⟨_, rfl⟩) hlocks hW hS ⟨n, (k_if (cC ([(j_350, (a_366, D_366, V_366), (a_382, D_382, V_382))] : List CT).reverse) (bS L_412) k_nil), (cV [(j_350, (a_366, D_366, V_366), (a_382, D_382, V_382))] ++ bT L_412), (bC L_412), s1_430, g1_412, rfl, e0_430, hla_430, (by omega), eg_412, (by omega), (⟨⟨by omega, by omega⟩, _, _, _, _, _, _, _, _, hn_430, Or.inr (Or.inr (Or.inr (Or.inr (Or.inr (Or.inr (Or.inr (Or.inr ⟨j_134, L_412, [(j_350, (a_366, D_366, V_366), (a_382, D_382, V_382))], ej_134, rfl, rfl, rfl, Nat.le_refl 1, Nat.le_succ 1, hcm, (LB.to H412 (fun x hx => LACT.to H412 (Nat.le_refl _) (fun _ _ => rfl) 3 x hx) eL_412), Or.inl ⟨rfl, rfl⟩⟩)))))))⟩), (fun q g0 g1 g2 => ((hfr_430 _ (by omega)).trans (q_ne (by omega) ((hfr_412 _ (by omega) (by omega) (by omega)).trans (q_ne (by omega) ((hfr_382 _ (by omega) (by omega)).trans (q_ne (by omega) ((hfr_366 _ (by omega) (by omega)).trans (q_ne (by omega) ((hfr_350 _ (by omega)).trans (q_ne (by omega) (q_ne (by omega) (q_ne (by omega) (q_ne (by omega) (q_ne (by omega) (q_ne (by omega) ((hfr_296 _ (by omega)).trans (q_ne (by omega) ((hfr_134 _ (by omega)).trans (q_ne (by omega) ((hfr_22 _ (by omega)).trans ((hfr_4 _ (by omega) (by omega)).trans (q_ne (by omega) rfl)))))))))))))))))))))))⟩ (by show _ ≤ 1317; omega) (by show _ ≤ 3654; omega) dX13_drawn_454
                  · refine lv_aload hx hb dX13_drawn_436 (lv_at hl 3 rfl) ?_
                    refine lv_aload_n hx hb dX13_drawn_438 rfl (lv_at hl 4 rfl) ?_
                    refine lv_iload_n hx hb dX13_drawn_439 rfl (lv_at hl 5 rfl) ?_
                    refine lv_iload_n hx hb dX13_drawn_440 rfl (lv_at hl 6 rfl) ?_
                    refine lv_iload_n hx hb dX13_drawn_441 rfl (lv_at hl 7 rfl) ?_
                    refine lv_iconst (v := 1) hx hb dX13_drawn_442 (by decide) ?_
                    refine lv_iadd hx hb dX13_drawn_443 ?_
                    rw [show (0 : Int32) + 1 = 1 from by decide]
                    refine lv_aload hx hb dX13_drawn_444 (lv_at hl 8 rfl) ?_
                    refine q_cq (va_runS (As := [.ref r, .int (nI pn), .int (nI R), .int 1, .ref la]) (rest := [.ref n]) ⟨hx, hb, hml, hown, hts⟩ (kX13_some_1 l E f_430 n_430 r la pn R (q - bC L_412) RS s1_430 g1_412 e0_430 hla_430 hp1 hp2 hR (by omega) eg_412) (va_cwS 5 hts gX13_drawn_X13_some rfl rfl rfl (by decide +kernel) ⟨(Nat.le_of_ble_eq_true rfl), (Nat.le_of_ble_eq_true rfl)⟩) (q_pS hA hW hS) rfl rfl hl.1 rfl (lv_room (Nat.le_of_ble_eq_true rfl)) dX13_drawn_446 ⟨(by show _ ≤ 1317; omega), (by show _ ≤ 3654; omega)⟩) hS (fun r_446 f_446 n_446 H locs hp hW hS => ?_)
                    obtain ⟨b_446, L_446, s1_446, g1_446, rfl, e0_446, e1_446, ec_446, eg_446, en_446, eL_446, hfr_446⟩ := hp
                    have l_e0_446 := hW.lt e0_446
                    have l_e1_446 := hW.lt e1_446
                    have hn_446 : f_446 n = some (cLA 9 (nI j_134) none (some n_296) (some (n_296 + 1)) (some (n_296 + 2)) (some b_412) none) := (hfr_446 _ (by omega) (by omega) (by omega)).trans hn_430
                    have hn___1_446 : f_446 (n + 1) = some (aI E 0 (fun _ => 0)) := (hfr_446 _ (by omega) (by omega) (by omega)).trans hn___1_430
                    have hn___2_446 : f_446 (n + 2) = some (aQ E 7 0 (fun _ => none)) := (hfr_446 _ (by omega) (by omega) (by omega)).trans hn___2_430
                    have hn___3_446 : f_446 (n + 3) = some (aQ E 7 0 (fun _ => none)) := (hfr_446 _ (by omega) (by omega) (by omega)).trans hn___3_430
                    have hn___4_446 : f_446 (n + 4) = some (aQ E 6 0 (fun _ => none)) := (hfr_446 _ (by omega) (by omega) (by omega)).trans hn___4_430
                    have hn_296_446 : f_446 n_296 = some (aI E 1 (upd (fun _ => 0) 0 (nI j_350))) := (hfr_446 _ (by omega) (by omega) (by omega)).trans hn_296_430
                    have hn_296___1_446 : f_446 (n_296 + 1) = some (aQ E 7 1 (va_up (fun _ => none) 0 (some a_366))) := (hfr_446 _ (by omega) (by omega) (by omega)).trans hn_296___1_430
                    have hn_296___2_446 : f_446 (n_296 + 2) = some (aQ E 7 1 (va_up (fun _ => none) 0 (some a_382))) := (hfr_446 _ (by omega) (by omega) (by omega)).trans hn_296___2_430
                    have ha_366_446 : f_446 a_366 = some (cNode so366 k366 x366 y366) := (hfr_446 _ (by omega) (by omega) (by omega)).trans ha_366_430
                    have ha_382_446 : f_446 a_382 = some (cNode so382 k382 x382 y382) := (hfr_446 _ (by omega) (by omega) (by omega)).trans ha_382_430
                    refine q_put hx hb hts hown hA hW hS iX13 tyX13 tyX13_ok nmX13 hn_446 rfl 7 (by decide) (hts (.fieldLink RX13 58 "HighRecipesLaw$Act" "other" "[LHighRecipesLaw$Act;") (by decide +kernel)) (fun _ h9 => h9) rfl rfl rfl (Nat.le_of_ble_eq_true rfl) dX13_drawn_449 (fun H locs hW hS => ?_)
                    have hW : q_W E (va_up f_446 n (some (cLA 9 (nI j_134) none (some n_296) (some (n_296 + 1)) (some (n_296 + 2)) (some b_412) (some b_446)))) n_446 H := hW
                    refine lv_aload hx hb dX13_drawn_452 (lv_at hl 3 rfl) ?_
                    have H366 : ∀ q : Nat, (n_350 ≤ q ∧ q < n_366) → (n ≤ q ∧ q < n_446) ∧ (va_up f_446 n (some (cLA 9 (nI j_134) none (some n_296) (some (n_296 + 1)) (some (n_296 + 2)) (some b_412) (some b_446)))) q = f_366 q := fun q hq => ⟨⟨by omega, by omega⟩, (q_ne (by omega) ((hfr_446 _ (by omega) (by omega) (by omega)).trans ((hfr_430 _ (by omega)).trans (q_ne (by omega) ((hfr_412 _ (by omega) (by omega) (by omega)).trans (q_ne (by omega) ((hfr_382 _ (by omega) (by omega)).trans (q_ne (by omega) rfl))))))))⟩
                    have H382 : ∀ q : Nat, (n_366 ≤ q ∧ q < n_382) → (n ≤ q ∧ q < n_446) ∧ (va_up f_446 n (some (cLA 9 (nI j_134) none (some n_296) (some (n_296 + 1)) (some (n_296 + 2)) (some b_412) (some b_446)))) q = f_382 q := fun q hq => ⟨⟨by omega, by omega⟩, (q_ne (by omega) ((hfr_446 _ (by omega) (by omega) (by omega)).trans ((hfr_430 _ (by omega)).trans (q_ne (by omega) ((hfr_412 _ (by omega) (by omega) (by omega)).trans (q_ne (by omega) rfl))))))⟩
                    have hcm : CMPS pn (fun q => n ≤ q ∧ q < n_446) E (va_up f_446 n (some (cLA 9 (nI j_134) none (some n_296) (some (n_296 + 1)) (some (n_296 + 2)) (some b_412) (some b_446)))) (n_296) (n_296 + 1) (n_296 + 2) [(j_350, (a_366, D_366, V_366), (a_382, D_382, V_382))] := by
                      refine ⟨_, _, _, ⟨by omega, by omega⟩, ⟨by omega, by omega⟩, ⟨by omega, by omega⟩, (q_ne (by omega) hn_296_446), (q_ne (by omega) hn_296___1_446), (q_ne (by omega) hn_296___2_446), fun j x hx => ?_⟩
                      match j, hx with
                      | 0, hx =>
                        cases hx
                        exact ⟨rfl, ej_350, rfl, rfl, (NODE.to H366 eN_366), (NODE.to H382 eN_382)⟩
                      | j + 1, hx => cases hx
                    have H412 : ∀ q : Nat, (n_382 ≤ q ∧ q < n_412) → (n ≤ q ∧ q < n_446) ∧ (va_up f_446 n (some (cLA 9 (nI j_134) none (some n_296) (some (n_296 + 1)) (some (n_296 + 2)) (some b_412) (some b_446)))) q = f_412 q := fun q hq => ⟨⟨by omega, by omega⟩, (q_ne (by omega) ((hfr_446 _ (by omega) (by omega) (by omega)).trans ((hfr_430 _ (by omega)).trans (q_ne (by omega) rfl))))⟩
                    have H446 : ∀ q : Nat, (n_430 ≤ q ∧ q < n_446) → (n ≤ q ∧ q < n_446) ∧ (va_up f_446 n (some (cLA 9 (nI j_134) none (some n_296) (some (n_296 + 1)) (some (n_296 + 2)) (some b_412) (some b_446)))) q = f_446 q := fun q hq => ⟨⟨by omega, by omega⟩, (q_ne (by omega) rfl)⟩
                    exact q_aret (v := some n) hx hb hr (Or.inl ⟨_, rfl⟩) hlocks hW hS ⟨n, (k_if (cC ([(j_350, (a_366, D_366, V_366), (a_382, D_382, V_382))] : List CT).reverse) (bS L_412) (bS L_446)), (cV [(j_350, (a_366, D_366, V_366), (a_382, D_382, V_382))] ++ bT L_412 ++ kt 28 ++ bT L_446), (bC L_412 + bC L_446), s1_446, g1_446, rfl, (q_ne (by omega) e0_446), (q_ne (by omega) e1_446), (by omega), (by rw [Nat.sub_sub] at eg_446; exact eg_446), (by omega), (⟨⟨by omega, by omega⟩, _, _, _, _, _, _, _, _, q_eq, Or.inr (Or.inr (Or.inr (Or.inr (Or.inr (Or.inr (Or.inr (Or.inr ⟨j_134, L_412, [(j_350, (a_366, D_366, V_366), (a_382, D_382, V_382))], ej_134, rfl, rfl, rfl, Nat.le_refl 1, Nat.le_succ 1, hcm, (LB.to H412 (fun x hx => LACT.to H412 (Nat.le_refl _) (fun _ _ => rfl) 3 x hx) eL_412), Or.inr ⟨_, L_446, rfl, (LB.to H446 (fun x hx => LACT.to H446 (Nat.le_refl _) (fun _ _ => rfl) 3 x hx) eL_446), rfl⟩⟩)))))))⟩), (fun q g0 g1 g2 => (q_ne (by omega) ((hfr_446 _ (by omega) (by omega) (by omega)).trans ((hfr_430 _ (by omega)).trans (q_ne (by omega) ((hfr_412 _ (by omega) (by omega) (by omega)).trans (q_ne (by omega) ((hfr_382 _ (by omega) (by omega)).trans (q_ne (by omega) ((hfr_366 _ (by omega) (by omega)).trans (q_ne (by omega) ((hfr_350 _ (by omega)).trans (q_ne (by omega) (q_ne (by omega) (q_ne (by omega) (q_ne (by omega) (q_ne (by omega) (q_ne (by omega) ((hfr_296 _ (by omega)).trans (q_ne (by omega) ((hfr_134 _ (by omega)).trans (q_ne (by omega) ((hfr_22 _ (by omega)).trans ((hfr_4 _ (by omega) (by omega)).trans (q_ne (by omega) rfl)))))))))))))))))))))))))⟩ (by show _ ≤ 1317; omega) (by show _ ≤ 3654; omega) dX13_drawn_454
                · rw [show 1 + nI j_296 = 2 from by rw [hjm]; decide]
                  refine lv_istore (lv' := [(7, .int 2), (6, .int (nI j_22)), (5, .ref n), (0, .ref r), (1, .int (nI pn)), (2, .int (nI R)), (3, .int 0), (4, .ref la)]) hx hb dX13_drawn_300 hl (by decide) rfl (fun ls hl => ?_)
                  refine lv_aload hx hb dX13_drawn_302 (lv_at hl 2 rfl) ?_
                  refine lv_iload hx hb dX13_drawn_304 (lv_at hl 0 rfl) ?_
                  refine q_newa (atype := .int) hx hb hA hW hS (hts (.arrayClass .int) (by decide +kernel)) (ty := .int) rfl 0 rfl (fun C h9 => by cases h9) (N' := 2) (a0 := (2, .inl (fun _ => 0))) (fun _ => rfl) (by decide) (by decide) (Nat.le_of_ble_eq_true rfl) (by show _ ≤ 1317; omega) (by show _ ≤ 3654; omega) dX13_drawn_306 (fun H hW hS => ?_)
                  have hW : q_W E (va_up f_296 n_296 (some (aI E 2 (fun _ => 0)))) (n_296 + 1) H := hW
                  refine q_put hx hb hts hown hA hW hS iX13 tyX13 tyX13_ok nmX13 (q_ne (by omega) hn_296) rfl 3 (by decide) (hts (.fieldLink RX13 7 "HighRecipesLaw$Act" "signs" "[I") (by decide +kernel)) (fun _ h9 => h9) rfl rfl rfl (Nat.le_of_ble_eq_true rfl) dX13_drawn_308 (fun H locs hW hS => ?_)
                  have hW : q_W E (va_up (va_up f_296 n_296 (some (aI E 2 (fun _ => 0)))) n (some (cLA 9 (nI j_134) none (some n_296) (some ((n + 1) + 1)) (some ((n + 1) + 2)) (some ((n + 1) + 3)) none))) (n_296 + 1) H := hW
                  refine lv_aload hx hb dX13_drawn_311 (lv_at hl 2 rfl) ?_
                  refine lv_iload hx hb dX13_drawn_313 (lv_at hl 0 rfl) ?_
                  refine q_newq hx hb hown hA hW hS (hts (.classLink RX13 13 "HighRecipesLaw$Node") (by decide +kernel)) (hA.2.2.2.2.2.2.2.1 "HighRecipesLaw$Node" (by decide +kernel)) 7 rfl (N' := 2) (by decide) (by decide) (Nat.le_of_ble_eq_true rfl) (by show _ ≤ 1317; omega) (by show _ ≤ 3654; omega) dX13_drawn_315 (fun H hW hS => ?_)
                  have hW : q_W E (va_up (va_up (va_up f_296 n_296 (some (aI E 2 (fun _ => 0)))) n (some (cLA 9 (nI j_134) none (some n_296) (some ((n + 1) + 1)) (some ((n + 1) + 2)) (some ((n + 1) + 3)) none))) (n_296 + 1) (some (aQ E 7 2 (fun _ => none)))) (n_296 + 1 + 1) H := hW
                  refine q_put hx hb hts hown hA hW hS iX13 tyX13 tyX13_ok nmX13 (q_ne (by omega) q_eq) rfl 4 (by decide) (hts (.fieldLink RX13 15 "HighRecipesLaw$Act" "ones" "[LHighRecipesLaw$Node;") (by decide +kernel)) (fun _ h9 => h9) rfl rfl rfl (Nat.le_of_ble_eq_true rfl) dX13_drawn_318 (fun H locs hW hS => ?_)
                  have hW : q_W E (va_up (va_up (va_up (va_up f_296 n_296 (some (aI E 2 (fun _ => 0)))) n (some (cLA 9 (nI j_134) none (some n_296) (some ((n + 1) + 1)) (some ((n + 1) + 2)) (some ((n + 1) + 3)) none))) (n_296 + 1) (some (aQ E 7 2 (fun _ => none)))) n (some (cLA 9 (nI j_134) none (some n_296) (some (n_296 + 1)) (some ((n + 1) + 2)) (some ((n + 1) + 3)) none))) (n_296 + 2) H := hW
                  refine lv_aload hx hb dX13_drawn_321 (lv_at hl 2 rfl) ?_
                  refine lv_iload hx hb dX13_drawn_323 (lv_at hl 0 rfl) ?_
                  refine q_newq hx hb hown hA hW hS (hts (.classLink RX13 13 "HighRecipesLaw$Node") (by decide +kernel)) (hA.2.2.2.2.2.2.2.1 "HighRecipesLaw$Node" (by decide +kernel)) 7 rfl (N' := 2) (by decide) (by decide) (Nat.le_of_ble_eq_true rfl) (by show _ ≤ 1317; omega) (by show _ ≤ 3654; omega) dX13_drawn_325 (fun H hW hS => ?_)
                  have hW : q_W E (va_up (va_up (va_up (va_up (va_up f_296 n_296 (some (aI E 2 (fun _ => 0)))) n (some (cLA 9 (nI j_134) none (some n_296) (some ((n + 1) + 1)) (some ((n + 1) + 2)) (some ((n + 1) + 3)) none))) (n_296 + 1) (some (aQ E 7 2 (fun _ => none)))) n (some (cLA 9 (nI j_134) none (some n_296) (some (n_296 + 1)) (some ((n + 1) + 2)) (some ((n + 1) + 3)) none))) (n_296 + 2) (some (aQ E 7 2 (fun _ => none)))) (n_296 + 2 + 1) H := hW
                  refine q_put hx hb hts hown hA hW hS iX13 tyX13 tyX13_ok nmX13 (q_ne (by omega) q_eq) rfl 5 (by decide) (hts (.fieldLink RX13 19 "HighRecipesLaw$Act" "others" "[LHighRecipesLaw$Node;") (by decide +kernel)) (fun _ h9 => h9) rfl rfl rfl (Nat.le_of_ble_eq_true rfl) dX13_drawn_328 (fun H locs hW hS => ?_)
                  have hW : q_W E (va_up (va_up (va_up (va_up (va_up (va_up f_296 n_296 (some (aI E 2 (fun _ => 0)))) n (some (cLA 9 (nI j_134) none (some n_296) (some ((n + 1) + 1)) (some ((n + 1) + 2)) (some ((n + 1) + 3)) none))) (n_296 + 1) (some (aQ E 7 2 (fun _ => none)))) n (some (cLA 9 (nI j_134) none (some n_296) (some (n_296 + 1)) (some ((n + 1) + 2)) (some ((n + 1) + 3)) none))) (n_296 + 2) (some (aQ E 7 2 (fun _ => none)))) n (some (cLA 9 (nI j_134) none (some n_296) (some (n_296 + 1)) (some (n_296 + 2)) (some ((n + 1) + 3)) none))) (n_296 + 3) H := hW
                  refine lv_iconst (v := 0) hx hb dX13_drawn_331 (by decide) ?_
                  refine lv_istore (lv' := [(8, .int 0), (7, .int 2), (6, .int (nI j_22)), (5, .ref n), (0, .ref r), (1, .int (nI pn)), (2, .int (nI R)), (3, .int 0), (4, .ref la)]) hx hb dX13_drawn_332 hl (by decide) rfl (fun ls hl => ?_)
                  refine lv_iload hx hb dX13_drawn_334 (lv_at hl 0 rfl) ?_
                  refine lv_iload hx hb dX13_drawn_336 (lv_at hl 1 rfl) ?_
                  refine lv_icmp_ge (tgt := 392) hx hb dX13_drawn_338 (by decide) (fun c_338 => absurd c_338 (by decide)) (fun c_338 => ?_)
                  refine lv_aload hx hb dX13_drawn_341 (lv_at hl 3 rfl) ?_
                  refine q_get hx hb hts hown hA hW iX13 q_eq rfl 3 (by decide) (hts (.fieldLink RX13 7 "HighRecipesLaw$Act" "signs" "[I") (by decide +kernel)) (fun _ h9 => h9) (v := .ref n_296) rfl dX13_drawn_343 ?_
                  refine lv_iload hx hb dX13_drawn_346 (lv_at hl 0 rfl) ?_
                  refine lv_aload_n hx hb dX13_drawn_348 rfl (lv_at hl 4 rfl) ?_
                  refine lv_iconst (v := 3) hx hb dX13_drawn_349 (by decide) ?_
                  refine q_ci (va_runV (As := [.int 3]) (rest := [.int 0, .ref n_296]) ⟨hx, hb, hml, hown, hts⟩ (kX14_next l E (va_up (va_up (va_up (va_up (va_up (va_up f_296 n_296 (some (aI E 2 (fun _ => 0)))) n (some (cLA 9 (nI j_134) none (some n_296) (some ((n + 1) + 1)) (some ((n + 1) + 2)) (some ((n + 1) + 3)) none))) (n_296 + 1) (some (aQ E 7 2 (fun _ => none)))) n (some (cLA 9 (nI j_134) none (some n_296) (some (n_296 + 1)) (some ((n + 1) + 2)) (some ((n + 1) + 3)) none))) (n_296 + 2) (some (aQ E 7 2 (fun _ => none)))) n (some (cLA 9 (nI j_134) none (some n_296) (some (n_296 + 1)) (some (n_296 + 2)) (some ((n + 1) + 3)) none))) (n_296 + 3) r 3 s1_296 (q_ne (by omega) (q_ne (by omega) (q_ne (by omega) (q_ne (by omega) (q_ne (by omega) (q_ne (by omega) e0_296)))))) (by decide) (by decide)) (cwV 1 hts gX13_drawn_X14_next rfl rfl rfl (by decide +kernel) ⟨(Nat.le_of_ble_eq_true rfl), (Nat.le_of_ble_eq_true rfl)⟩) (q_pV hA hW hS (ci := 14) rfl (q_ne (by omega) (q_ne (by omega) (q_ne (by omega) (q_ne (by omega) (q_ne (by omega) (q_ne (by omega) e0_296))))))) rfl rfl hl.1 rfl (lv_room (Nat.le_of_ble_eq_true rfl)) dX13_drawn_350 ⟨(by show _ ≤ 1317; omega), (by show _ ≤ 3654; omega)⟩) hS (fun r_350 f_350 n_350 H locs hp hW hS => ?_)
                  obtain ⟨j_350, s1_350, rfl, e0_350, ej_350, en_350, hfr_350⟩ := hp
                  have l_e0_350 := hW.lt e0_350
                  have hla_350 : f_350 la = some (aI E 1 g) := (hfr_350 _ (by omega)).trans (q_ne (by omega) (q_ne (by omega) (q_ne (by omega) (q_ne (by omega) (q_ne (by omega) (q_ne (by omega) hla_296))))))
                  have hn_350 : f_350 n = some (cLA 9 (nI j_134) none (some n_296) (some (n_296 + 1)) (some (n_296 + 2)) (some ((n + 1) + 3)) none) := (hfr_350 _ (by omega)).trans q_eq
                  have hn___1_350 : f_350 (n + 1) = some (aI E 0 (fun _ => 0)) := (hfr_350 _ (by omega)).trans (q_ne (by omega) (q_ne (by omega) (q_ne (by omega) (q_ne (by omega) (q_ne (by omega) (q_ne (by omega) hn___1_296))))))
                  have hn___2_350 : f_350 (n + 2) = some (aQ E 7 0 (fun _ => none)) := (hfr_350 _ (by omega)).trans (q_ne (by omega) (q_ne (by omega) (q_ne (by omega) (q_ne (by omega) (q_ne (by omega) (q_ne (by omega) hn___2_296))))))
                  have hn___3_350 : f_350 (n + 3) = some (aQ E 7 0 (fun _ => none)) := (hfr_350 _ (by omega)).trans (q_ne (by omega) (q_ne (by omega) (q_ne (by omega) (q_ne (by omega) (q_ne (by omega) (q_ne (by omega) hn___3_296))))))
                  have hn___4_350 : f_350 (n + 4) = some (aQ E 6 0 (fun _ => none)) := (hfr_350 _ (by omega)).trans (q_ne (by omega) (q_ne (by omega) (q_ne (by omega) (q_ne (by omega) (q_ne (by omega) (q_ne (by omega) hn___4_296))))))
                  have hn_296_350 : f_350 n_296 = some (aI E 2 (fun _ => 0)) := (hfr_350 _ (by omega)).trans (q_ne (by omega) (q_ne (by omega) (q_ne (by omega) (q_ne (by omega) (q_ne (by omega) q_eq)))))
                  have hn_296___1_350 : f_350 (n_296 + 1) = some (aQ E 7 2 (fun _ => none)) := (hfr_350 _ (by omega)).trans (q_ne (by omega) (q_ne (by omega) (q_ne (by omega) q_eq)))
                  have hn_296___2_350 : f_350 (n_296 + 2) = some (aQ E 7 2 (fun _ => none)) := (hfr_350 _ (by omega)).trans (q_ne (by omega) q_eq)
                  refine q_iast hx hb hA hW hS hn_296_350 (vp_in_nI (by decide) (by decide)) dX13_drawn_353 (fun H locs hW hS => ?_)
                  rw [show (0 : Int32).toNatClampNeg = 0 from (by decide)] at hW
                  have hW : q_W E (va_up f_350 n_296 (some (aI E 2 (upd (fun _ => 0) 0 (nI j_350))))) n_350 H := hW
                  refine lv_aload hx hb dX13_drawn_354 (lv_at hl 3 rfl) ?_
                  refine q_get hx hb hts hown hA hW iX13 (q_ne (by omega) hn_350) rfl 4 (by decide) (hts (.fieldLink RX13 15 "HighRecipesLaw$Act" "ones" "[LHighRecipesLaw$Node;") (by decide +kernel)) (fun _ h9 => h9) (v := .ref (n_296 + 1)) rfl dX13_drawn_356 ?_
                  refine lv_iload hx hb dX13_drawn_359 (lv_at hl 0 rfl) ?_
                  refine lv_aload_n hx hb dX13_drawn_361 rfl (lv_at hl 4 rfl) ?_
                  refine lv_iload_n hx hb dX13_drawn_362 rfl (lv_at hl 5 rfl) ?_
                  refine lv_iconst (v := 0) hx hb dX13_drawn_363 (by decide) ?_
                  refine lv_bipush (v := 40) hx hb dX13_drawn_364 (by decide) ?_
                  refine q_cq (va_runS (As := [.ref r, .int (nI pn), .int 0, .int 40]) (rest := [.int 0, .ref (n_296 + 1)]) ⟨hx, hb, hml, hown, hts⟩ (kX16_drawn_0 l E (va_up f_350 n_296 (some (aI E 2 (upd (fun _ => 0) 0 (nI j_350))))) n_350 r pn 40 s1_350 (q_ne (by omega) e0_350) hp1 hp2 (by decide) (by decide)) (va_cwS 4 hts gX13_drawn_X16_drawn rfl rfl rfl (by decide +kernel) ⟨(Nat.le_of_ble_eq_true rfl), (Nat.le_of_ble_eq_true rfl)⟩) (q_pS hA hW hS) rfl rfl hl.1 rfl (lv_room (Nat.le_of_ble_eq_true rfl)) dX13_drawn_366 ⟨(by show _ ≤ 1317; omega), (by show _ ≤ 3654; omega)⟩) hS (fun r_366 f_366 n_366 H locs hp hW hS => ?_)
                  obtain ⟨a_366, s1_366, D_366, V_366, rfl, e0_366, en_366, eN_366, hfr_366⟩ := hp
                  have l_e0_366 := hW.lt e0_366
                  have hla_366 : f_366 la = some (aI E 1 g) := (hfr_366 _ (by omega) (by omega)).trans (q_ne (by omega) hla_350)
                  have hn_366 : f_366 n = some (cLA 9 (nI j_134) none (some n_296) (some (n_296 + 1)) (some (n_296 + 2)) (some ((n + 1) + 3)) none) := (hfr_366 _ (by omega) (by omega)).trans (q_ne (by omega) hn_350)
                  have hn___1_366 : f_366 (n + 1) = some (aI E 0 (fun _ => 0)) := (hfr_366 _ (by omega) (by omega)).trans (q_ne (by omega) hn___1_350)
                  have hn___2_366 : f_366 (n + 2) = some (aQ E 7 0 (fun _ => none)) := (hfr_366 _ (by omega) (by omega)).trans (q_ne (by omega) hn___2_350)
                  have hn___3_366 : f_366 (n + 3) = some (aQ E 7 0 (fun _ => none)) := (hfr_366 _ (by omega) (by omega)).trans (q_ne (by omega) hn___3_350)
                  have hn___4_366 : f_366 (n + 4) = some (aQ E 6 0 (fun _ => none)) := (hfr_366 _ (by omega) (by omega)).trans (q_ne (by omega) hn___4_350)
                  have hn_296_366 : f_366 n_296 = some (aI E 2 (upd (fun _ => 0) 0 (nI j_350))) := (hfr_366 _ (by omega) (by omega)).trans q_eq
                  have hn_296___1_366 : f_366 (n_296 + 1) = some (aQ E 7 2 (fun _ => none)) := (hfr_366 _ (by omega) (by omega)).trans (q_ne (by omega) hn_296___1_350)
                  have hn_296___2_366 : f_366 (n_296 + 2) = some (aQ E 7 2 (fun _ => none)) := (hfr_366 _ (by omega) (by omega)).trans (q_ne (by omega) hn_296___2_350)
                  obtain ⟨hcb366, so366, k366, x366, y366, hcn366⟩ := eN_366.cell
                  have hcc366 : (_ : Nat) ≤ a_366 ∧ a_366 < _ := hcb366
                  refine q_aast hx hb hA hW hS 7 rfl hn_296___1_366 hcn366 rfl (vp_in_nI (by decide) (by decide)) dX13_drawn_369 (fun H locs hW hS => ?_)
                  rw [show (0 : Int32).toNatClampNeg = 0 from (by decide)] at hW
                  have hW : q_W E (va_up f_366 (n_296 + 1) (some (aQ E 7 2 (va_up (fun _ => none) 0 (some a_366))))) n_366 H := hW
                  refine lv_aload hx hb dX13_drawn_370 (lv_at hl 3 rfl) ?_
                  refine q_get hx hb hts hown hA hW iX13 (q_ne (by omega) hn_366) rfl 5 (by decide) (hts (.fieldLink RX13 19 "HighRecipesLaw$Act" "others" "[LHighRecipesLaw$Node;") (by decide +kernel)) (fun _ h9 => h9) (v := .ref (n_296 + 2)) rfl dX13_drawn_372 ?_
                  refine lv_iload hx hb dX13_drawn_375 (lv_at hl 0 rfl) ?_
                  refine lv_aload_n hx hb dX13_drawn_377 rfl (lv_at hl 4 rfl) ?_
                  refine lv_iload_n hx hb dX13_drawn_378 rfl (lv_at hl 5 rfl) ?_
                  refine lv_iconst (v := 0) hx hb dX13_drawn_379 (by decide) ?_
                  refine lv_bipush (v := 40) hx hb dX13_drawn_380 (by decide) ?_
                  refine q_cq (va_runS (As := [.ref r, .int (nI pn), .int 0, .int 40]) (rest := [.int 0, .ref (n_296 + 2)]) ⟨hx, hb, hml, hown, hts⟩ (kX16_drawn_0 l E (va_up f_366 (n_296 + 1) (some (aQ E 7 2 (va_up (fun _ => none) 0 (some a_366))))) n_366 r pn 40 s1_366 (q_ne (by omega) e0_366) hp1 hp2 (by decide) (by decide)) (va_cwS 4 hts gX13_drawn_X16_drawn rfl rfl rfl (by decide +kernel) ⟨(Nat.le_of_ble_eq_true rfl), (Nat.le_of_ble_eq_true rfl)⟩) (q_pS hA hW hS) rfl rfl hl.1 rfl (lv_room (Nat.le_of_ble_eq_true rfl)) dX13_drawn_382 ⟨(by show _ ≤ 1317; omega), (by show _ ≤ 3654; omega)⟩) hS (fun r_382 f_382 n_382 H locs hp hW hS => ?_)
                  obtain ⟨a_382, s1_382, D_382, V_382, rfl, e0_382, en_382, eN_382, hfr_382⟩ := hp
                  have l_e0_382 := hW.lt e0_382
                  have hla_382 : f_382 la = some (aI E 1 g) := (hfr_382 _ (by omega) (by omega)).trans (q_ne (by omega) hla_366)
                  have hn_382 : f_382 n = some (cLA 9 (nI j_134) none (some n_296) (some (n_296 + 1)) (some (n_296 + 2)) (some ((n + 1) + 3)) none) := (hfr_382 _ (by omega) (by omega)).trans (q_ne (by omega) hn_366)
                  have hn___1_382 : f_382 (n + 1) = some (aI E 0 (fun _ => 0)) := (hfr_382 _ (by omega) (by omega)).trans (q_ne (by omega) hn___1_366)
                  have hn___2_382 : f_382 (n + 2) = some (aQ E 7 0 (fun _ => none)) := (hfr_382 _ (by omega) (by omega)).trans (q_ne (by omega) hn___2_366)
                  have hn___3_382 : f_382 (n + 3) = some (aQ E 7 0 (fun _ => none)) := (hfr_382 _ (by omega) (by omega)).trans (q_ne (by omega) hn___3_366)
                  have hn___4_382 : f_382 (n + 4) = some (aQ E 6 0 (fun _ => none)) := (hfr_382 _ (by omega) (by omega)).trans (q_ne (by omega) hn___4_366)
                  have hn_296_382 : f_382 n_296 = some (aI E 2 (upd (fun _ => 0) 0 (nI j_350))) := (hfr_382 _ (by omega) (by omega)).trans (q_ne (by omega) hn_296_366)
                  have hn_296___1_382 : f_382 (n_296 + 1) = some (aQ E 7 2 (va_up (fun _ => none) 0 (some a_366))) := (hfr_382 _ (by omega) (by omega)).trans q_eq
                  have hn_296___2_382 : f_382 (n_296 + 2) = some (aQ E 7 2 (fun _ => none)) := (hfr_382 _ (by omega) (by omega)).trans (q_ne (by omega) hn_296___2_366)
                  have ha_366_382 : f_382 a_366 = some (cNode so366 k366 x366 y366) := (hfr_382 _ (by omega) (by omega)).trans (q_ne (by omega) hcn366)
                  obtain ⟨hcb382, so382, k382, x382, y382, hcn382⟩ := eN_382.cell
                  have hcc382 : (_ : Nat) ≤ a_382 ∧ a_382 < _ := hcb382
                  refine q_aast hx hb hA hW hS 7 rfl hn_296___2_382 hcn382 rfl (vp_in_nI (by decide) (by decide)) dX13_drawn_385 (fun H locs hW hS => ?_)
                  rw [show (0 : Int32).toNatClampNeg = 0 from (by decide)] at hW
                  have hW : q_W E (va_up f_382 (n_296 + 2) (some (aQ E 7 2 (va_up (fun _ => none) 0 (some a_382))))) n_382 H := hW
                  refine lv_iinc (v := 1) (lv' := [(8, .int 1), (7, .int 2), (6, .int (nI j_22)), (5, .ref n), (0, .ref r), (1, .int (nI pn)), (2, .int (nI R)), (3, .int 0), (4, .ref la)]) hx hb dX13_drawn_386 hl (k := 0) rfl (by decide) (by decide) rfl (fun ls hl => ?_)
                  refine lv_goto (tgt := 334) hx hb dX13_drawn_389 (by decide) ?_
                  refine lv_iload hx hb dX13_drawn_334 (lv_at hl 0 rfl) ?_
                  refine lv_iload hx hb dX13_drawn_336 (lv_at hl 1 rfl) ?_
                  refine lv_icmp_ge (tgt := 392) hx hb dX13_drawn_338 (by decide) (fun c_338 => absurd c_338 (by decide)) (fun c_338 => ?_)
                  refine lv_aload hx hb dX13_drawn_341 (lv_at hl 3 rfl) ?_
                  refine q_get hx hb hts hown hA hW iX13 (q_ne (by omega) hn_382) rfl 3 (by decide) (hts (.fieldLink RX13 7 "HighRecipesLaw$Act" "signs" "[I") (by decide +kernel)) (fun _ h9 => h9) (v := .ref n_296) rfl dX13_drawn_343 ?_
                  refine lv_iload hx hb dX13_drawn_346 (lv_at hl 0 rfl) ?_
                  refine lv_aload_n hx hb dX13_drawn_348 rfl (lv_at hl 4 rfl) ?_
                  refine lv_iconst (v := 3) hx hb dX13_drawn_349 (by decide) ?_
                  refine q_ci (va_runV (As := [.int 3]) (rest := [.int 1, .ref n_296]) ⟨hx, hb, hml, hown, hts⟩ (kX14_next l E (va_up f_382 (n_296 + 2) (some (aQ E 7 2 (va_up (fun _ => none) 0 (some a_382))))) n_382 r 3 s1_382 (q_ne (by omega) e0_382) (by decide) (by decide)) (cwV 1 hts gX13_drawn_X14_next rfl rfl rfl (by decide +kernel) ⟨(Nat.le_of_ble_eq_true rfl), (Nat.le_of_ble_eq_true rfl)⟩) (q_pV hA hW hS (ci := 14) rfl (q_ne (by omega) e0_382)) rfl rfl hl.1 rfl (lv_room (Nat.le_of_ble_eq_true rfl)) dX13_drawn_350 ⟨(by show _ ≤ 1317; omega), (by show _ ≤ 3654; omega)⟩) hS (fun r_350x1 f_350x1 n_350x1 H locs hp hW hS => ?_)
                  obtain ⟨j_350x1, s1_350x1, rfl, e0_350x1, ej_350x1, en_350x1, hfr_350x1⟩ := hp
                  have l_e0_350x1 := hW.lt e0_350x1
                  have hla_350x1 : f_350x1 la = some (aI E 1 g) := (hfr_350x1 _ (by omega)).trans (q_ne (by omega) hla_382)
                  have hn_350x1 : f_350x1 n = some (cLA 9 (nI j_134) none (some n_296) (some (n_296 + 1)) (some (n_296 + 2)) (some ((n + 1) + 3)) none) := (hfr_350x1 _ (by omega)).trans (q_ne (by omega) hn_382)
                  have hn___1_350x1 : f_350x1 (n + 1) = some (aI E 0 (fun _ => 0)) := (hfr_350x1 _ (by omega)).trans (q_ne (by omega) hn___1_382)
                  have hn___2_350x1 : f_350x1 (n + 2) = some (aQ E 7 0 (fun _ => none)) := (hfr_350x1 _ (by omega)).trans (q_ne (by omega) hn___2_382)
                  have hn___3_350x1 : f_350x1 (n + 3) = some (aQ E 7 0 (fun _ => none)) := (hfr_350x1 _ (by omega)).trans (q_ne (by omega) hn___3_382)
                  have hn___4_350x1 : f_350x1 (n + 4) = some (aQ E 6 0 (fun _ => none)) := (hfr_350x1 _ (by omega)).trans (q_ne (by omega) hn___4_382)
                  have hn_296_350x1 : f_350x1 n_296 = some (aI E 2 (upd (fun _ => 0) 0 (nI j_350))) := (hfr_350x1 _ (by omega)).trans (q_ne (by omega) hn_296_382)
                  have hn_296___1_350x1 : f_350x1 (n_296 + 1) = some (aQ E 7 2 (va_up (fun _ => none) 0 (some a_366))) := (hfr_350x1 _ (by omega)).trans (q_ne (by omega) hn_296___1_382)
                  have hn_296___2_350x1 : f_350x1 (n_296 + 2) = some (aQ E 7 2 (va_up (fun _ => none) 0 (some a_382))) := (hfr_350x1 _ (by omega)).trans q_eq
                  have ha_366_350x1 : f_350x1 a_366 = some (cNode so366 k366 x366 y366) := (hfr_350x1 _ (by omega)).trans (q_ne (by omega) ha_366_382)
                  have ha_382_350x1 : f_350x1 a_382 = some (cNode so382 k382 x382 y382) := (hfr_350x1 _ (by omega)).trans (q_ne (by omega) hcn382)
                  refine q_iast hx hb hA hW hS hn_296_350x1 (vp_in_nI (by decide) (by decide)) dX13_drawn_353 (fun H locs hW hS => ?_)
                  rw [show (1 : Int32).toNatClampNeg = 1 from (by decide)] at hW
                  have hW : q_W E (va_up f_350x1 n_296 (some (aI E 2 (upd (upd (fun _ => 0) 0 (nI j_350)) 1 (nI j_350x1))))) n_350x1 H := hW
                  refine lv_aload hx hb dX13_drawn_354 (lv_at hl 3 rfl) ?_
                  refine q_get hx hb hts hown hA hW iX13 (q_ne (by omega) hn_350x1) rfl 4 (by decide) (hts (.fieldLink RX13 15 "HighRecipesLaw$Act" "ones" "[LHighRecipesLaw$Node;") (by decide +kernel)) (fun _ h9 => h9) (v := .ref (n_296 + 1)) rfl dX13_drawn_356 ?_
                  refine lv_iload hx hb dX13_drawn_359 (lv_at hl 0 rfl) ?_
                  refine lv_aload_n hx hb dX13_drawn_361 rfl (lv_at hl 4 rfl) ?_
                  refine lv_iload_n hx hb dX13_drawn_362 rfl (lv_at hl 5 rfl) ?_
                  refine lv_iconst (v := 0) hx hb dX13_drawn_363 (by decide) ?_
                  refine lv_bipush (v := 40) hx hb dX13_drawn_364 (by decide) ?_
                  refine q_cq (va_runS (As := [.ref r, .int (nI pn), .int 0, .int 40]) (rest := [.int 1, .ref (n_296 + 1)]) ⟨hx, hb, hml, hown, hts⟩ (kX16_drawn_0 l E (va_up f_350x1 n_296 (some (aI E 2 (upd (upd (fun _ => 0) 0 (nI j_350)) 1 (nI j_350x1))))) n_350x1 r pn 40 s1_350x1 (q_ne (by omega) e0_350x1) hp1 hp2 (by decide) (by decide)) (va_cwS 4 hts gX13_drawn_X16_drawn rfl rfl rfl (by decide +kernel) ⟨(Nat.le_of_ble_eq_true rfl), (Nat.le_of_ble_eq_true rfl)⟩) (q_pS hA hW hS) rfl rfl hl.1 rfl (lv_room (Nat.le_of_ble_eq_true rfl)) dX13_drawn_366 ⟨(by show _ ≤ 1317; omega), (by show _ ≤ 3654; omega)⟩) hS (fun r_366x1 f_366x1 n_366x1 H locs hp hW hS => ?_)
                  obtain ⟨a_366x1, s1_366x1, D_366x1, V_366x1, rfl, e0_366x1, en_366x1, eN_366x1, hfr_366x1⟩ := hp
                  have l_e0_366x1 := hW.lt e0_366x1
                  have hla_366x1 : f_366x1 la = some (aI E 1 g) := (hfr_366x1 _ (by omega) (by omega)).trans (q_ne (by omega) hla_350x1)
                  have hn_366x1 : f_366x1 n = some (cLA 9 (nI j_134) none (some n_296) (some (n_296 + 1)) (some (n_296 + 2)) (some ((n + 1) + 3)) none) := (hfr_366x1 _ (by omega) (by omega)).trans (q_ne (by omega) hn_350x1)
                  have hn___1_366x1 : f_366x1 (n + 1) = some (aI E 0 (fun _ => 0)) := (hfr_366x1 _ (by omega) (by omega)).trans (q_ne (by omega) hn___1_350x1)
                  have hn___2_366x1 : f_366x1 (n + 2) = some (aQ E 7 0 (fun _ => none)) := (hfr_366x1 _ (by omega) (by omega)).trans (q_ne (by omega) hn___2_350x1)
                  have hn___3_366x1 : f_366x1 (n + 3) = some (aQ E 7 0 (fun _ => none)) := (hfr_366x1 _ (by omega) (by omega)).trans (q_ne (by omega) hn___3_350x1)
                  have hn___4_366x1 : f_366x1 (n + 4) = some (aQ E 6 0 (fun _ => none)) := (hfr_366x1 _ (by omega) (by omega)).trans (q_ne (by omega) hn___4_350x1)
                  have hn_296_366x1 : f_366x1 n_296 = some (aI E 2 (upd (upd (fun _ => 0) 0 (nI j_350)) 1 (nI j_350x1))) := (hfr_366x1 _ (by omega) (by omega)).trans q_eq
                  have hn_296___1_366x1 : f_366x1 (n_296 + 1) = some (aQ E 7 2 (va_up (fun _ => none) 0 (some a_366))) := (hfr_366x1 _ (by omega) (by omega)).trans (q_ne (by omega) hn_296___1_350x1)
                  have hn_296___2_366x1 : f_366x1 (n_296 + 2) = some (aQ E 7 2 (va_up (fun _ => none) 0 (some a_382))) := (hfr_366x1 _ (by omega) (by omega)).trans (q_ne (by omega) hn_296___2_350x1)
                  have ha_366_366x1 : f_366x1 a_366 = some (cNode so366 k366 x366 y366) := (hfr_366x1 _ (by omega) (by omega)).trans (q_ne (by omega) ha_366_350x1)
                  have ha_382_366x1 : f_366x1 a_382 = some (cNode so382 k382 x382 y382) := (hfr_366x1 _ (by omega) (by omega)).trans (q_ne (by omega) ha_382_350x1)
                  obtain ⟨hcb366x1, so366x1, k366x1, x366x1, y366x1, hcn366x1⟩ := eN_366x1.cell
                  have hcc366x1 : (_ : Nat) ≤ a_366x1 ∧ a_366x1 < _ := hcb366x1
                  refine q_aast hx hb hA hW hS 7 rfl hn_296___1_366x1 hcn366x1 rfl (vp_in_nI (by decide) (by decide)) dX13_drawn_369 (fun H locs hW hS => ?_)
                  rw [show (1 : Int32).toNatClampNeg = 1 from (by decide)] at hW
                  have hW : q_W E (va_up f_366x1 (n_296 + 1) (some (aQ E 7 2 (va_up (va_up (fun _ => none) 0 (some a_366)) 1 (some a_366x1))))) n_366x1 H := hW
                  refine lv_aload hx hb dX13_drawn_370 (lv_at hl 3 rfl) ?_
                  refine q_get hx hb hts hown hA hW iX13 (q_ne (by omega) hn_366x1) rfl 5 (by decide) (hts (.fieldLink RX13 19 "HighRecipesLaw$Act" "others" "[LHighRecipesLaw$Node;") (by decide +kernel)) (fun _ h9 => h9) (v := .ref (n_296 + 2)) rfl dX13_drawn_372 ?_
                  refine lv_iload hx hb dX13_drawn_375 (lv_at hl 0 rfl) ?_
                  refine lv_aload_n hx hb dX13_drawn_377 rfl (lv_at hl 4 rfl) ?_
                  refine lv_iload_n hx hb dX13_drawn_378 rfl (lv_at hl 5 rfl) ?_
                  refine lv_iconst (v := 0) hx hb dX13_drawn_379 (by decide) ?_
                  refine lv_bipush (v := 40) hx hb dX13_drawn_380 (by decide) ?_
                  refine q_cq (va_runS (As := [.ref r, .int (nI pn), .int 0, .int 40]) (rest := [.int 1, .ref (n_296 + 2)]) ⟨hx, hb, hml, hown, hts⟩ (kX16_drawn_0 l E (va_up f_366x1 (n_296 + 1) (some (aQ E 7 2 (va_up (va_up (fun _ => none) 0 (some a_366)) 1 (some a_366x1))))) n_366x1 r pn 40 s1_366x1 (q_ne (by omega) e0_366x1) hp1 hp2 (by decide) (by decide)) (va_cwS 4 hts gX13_drawn_X16_drawn rfl rfl rfl (by decide +kernel) ⟨(Nat.le_of_ble_eq_true rfl), (Nat.le_of_ble_eq_true rfl)⟩) (q_pS hA hW hS) rfl rfl hl.1 rfl (lv_room (Nat.le_of_ble_eq_true rfl)) dX13_drawn_382 ⟨(by show _ ≤ 1317; omega), (by show _ ≤ 3654; omega)⟩) hS (fun r_382x1 f_382x1 n_382x1 H locs hp hW hS => ?_)
                  obtain ⟨a_382x1, s1_382x1, D_382x1, V_382x1, rfl, e0_382x1, en_382x1, eN_382x1, hfr_382x1⟩ := hp
                  have l_e0_382x1 := hW.lt e0_382x1
                  have hla_382x1 : f_382x1 la = some (aI E 1 g) := (hfr_382x1 _ (by omega) (by omega)).trans (q_ne (by omega) hla_366x1)
                  have hn_382x1 : f_382x1 n = some (cLA 9 (nI j_134) none (some n_296) (some (n_296 + 1)) (some (n_296 + 2)) (some ((n + 1) + 3)) none) := (hfr_382x1 _ (by omega) (by omega)).trans (q_ne (by omega) hn_366x1)
                  have hn___1_382x1 : f_382x1 (n + 1) = some (aI E 0 (fun _ => 0)) := (hfr_382x1 _ (by omega) (by omega)).trans (q_ne (by omega) hn___1_366x1)
                  have hn___2_382x1 : f_382x1 (n + 2) = some (aQ E 7 0 (fun _ => none)) := (hfr_382x1 _ (by omega) (by omega)).trans (q_ne (by omega) hn___2_366x1)
                  have hn___3_382x1 : f_382x1 (n + 3) = some (aQ E 7 0 (fun _ => none)) := (hfr_382x1 _ (by omega) (by omega)).trans (q_ne (by omega) hn___3_366x1)
                  have hn___4_382x1 : f_382x1 (n + 4) = some (aQ E 6 0 (fun _ => none)) := (hfr_382x1 _ (by omega) (by omega)).trans (q_ne (by omega) hn___4_366x1)
                  have hn_296_382x1 : f_382x1 n_296 = some (aI E 2 (upd (upd (fun _ => 0) 0 (nI j_350)) 1 (nI j_350x1))) := (hfr_382x1 _ (by omega) (by omega)).trans (q_ne (by omega) hn_296_366x1)
                  have hn_296___1_382x1 : f_382x1 (n_296 + 1) = some (aQ E 7 2 (va_up (va_up (fun _ => none) 0 (some a_366)) 1 (some a_366x1))) := (hfr_382x1 _ (by omega) (by omega)).trans q_eq
                  have hn_296___2_382x1 : f_382x1 (n_296 + 2) = some (aQ E 7 2 (va_up (fun _ => none) 0 (some a_382))) := (hfr_382x1 _ (by omega) (by omega)).trans (q_ne (by omega) hn_296___2_366x1)
                  have ha_366_382x1 : f_382x1 a_366 = some (cNode so366 k366 x366 y366) := (hfr_382x1 _ (by omega) (by omega)).trans (q_ne (by omega) ha_366_366x1)
                  have ha_382_382x1 : f_382x1 a_382 = some (cNode so382 k382 x382 y382) := (hfr_382x1 _ (by omega) (by omega)).trans (q_ne (by omega) ha_382_366x1)
                  have ha_366x1_382x1 : f_382x1 a_366x1 = some (cNode so366x1 k366x1 x366x1 y366x1) := (hfr_382x1 _ (by omega) (by omega)).trans (q_ne (by omega) hcn366x1)
                  obtain ⟨hcb382x1, so382x1, k382x1, x382x1, y382x1, hcn382x1⟩ := eN_382x1.cell
                  have hcc382x1 : (_ : Nat) ≤ a_382x1 ∧ a_382x1 < _ := hcb382x1
                  refine q_aast hx hb hA hW hS 7 rfl hn_296___2_382x1 hcn382x1 rfl (vp_in_nI (by decide) (by decide)) dX13_drawn_385 (fun H locs hW hS => ?_)
                  rw [show (1 : Int32).toNatClampNeg = 1 from (by decide)] at hW
                  have hW : q_W E (va_up f_382x1 (n_296 + 2) (some (aQ E 7 2 (va_up (va_up (fun _ => none) 0 (some a_382)) 1 (some a_382x1))))) n_382x1 H := hW
                  refine lv_iinc (v := 2) (lv' := [(8, .int 2), (7, .int 2), (6, .int (nI j_22)), (5, .ref n), (0, .ref r), (1, .int (nI pn)), (2, .int (nI R)), (3, .int 0), (4, .ref la)]) hx hb dX13_drawn_386 hl (k := 0) rfl (by decide) (by decide) rfl (fun ls hl => ?_)
                  refine lv_goto (tgt := 334) hx hb dX13_drawn_389 (by decide) ?_
                  refine lv_iload hx hb dX13_drawn_334 (lv_at hl 0 rfl) ?_
                  refine lv_iload hx hb dX13_drawn_336 (lv_at hl 1 rfl) ?_
                  refine lv_icmp_ge (tgt := 392) hx hb dX13_drawn_338 (by decide) (fun c_338 => ?_) (fun c_338 => absurd c_338 (by decide))
                  refine lv_aload hx hb dX13_drawn_392 (lv_at hl 3 rfl) ?_
                  refine q_get hx hb hts hown hA hW iX13 (q_ne (by omega) hn_382x1) rfl 0 (by decide) (hts (.fieldLink RX13 37 "HighRecipesLaw$Act" "does" "I") (by decide +kernel)) (fun _ h9 => h9) (v := .int 9) rfl dX13_drawn_394 ?_
                  refine lv_bipush (v := 7) hx hb dX13_drawn_397 (by decide) ?_
                  refine lv_icmp_le (tgt := 418) hx hb dX13_drawn_399 (by decide) (fun c_399 => absurd c_399 (by decide)) (fun c_399 => ?_)
                  refine lv_aload hx hb dX13_drawn_402 (lv_at hl 3 rfl) ?_
                  refine lv_aload_n hx hb dX13_drawn_404 rfl (lv_at hl 4 rfl) ?_
                  refine lv_iload_n hx hb dX13_drawn_405 rfl (lv_at hl 5 rfl) ?_
                  refine lv_iload_n hx hb dX13_drawn_406 rfl (lv_at hl 6 rfl) ?_
                  refine lv_iload_n hx hb dX13_drawn_407 rfl (lv_at hl 7 rfl) ?_
                  refine lv_iconst (v := 1) hx hb dX13_drawn_408 (by decide) ?_
                  refine lv_iadd hx hb dX13_drawn_409 ?_
                  rw [show (0 : Int32) + 1 = 1 from by decide]
                  refine lv_aload hx hb dX13_drawn_410 (lv_at hl 8 rfl) ?_
                  refine q_cq (va_runS (As := [.ref r, .int (nI pn), .int (nI R), .int 1, .ref la]) (rest := [.ref n]) ⟨hx, hb, hml, hown, hts⟩ (kX13_some_1 l E (va_up f_382x1 (n_296 + 2) (some (aQ E 7 2 (va_up (va_up (fun _ => none) 0 (some a_382)) 1 (some a_382x1))))) n_382x1 r la pn R q RS s1_382x1 g (q_ne (by omega) e0_382x1) (q_ne (by omega) hla_382x1) hp1 hp2 hR (by omega) hg) (va_cwS 5 hts gX13_drawn_X13_some rfl rfl rfl (by decide +kernel) ⟨(Nat.le_of_ble_eq_true rfl), (Nat.le_of_ble_eq_true rfl)⟩) (q_pS hA hW hS) rfl rfl hl.1 rfl (lv_room (Nat.le_of_ble_eq_true rfl)) dX13_drawn_412 ⟨(by show _ ≤ 1317; omega), (by show _ ≤ 3654; omega)⟩) hS (fun r_412 f_412 n_412 H locs hp hW hS => ?_)
                  obtain ⟨b_412, L_412, s1_412, g1_412, rfl, e0_412, e1_412, ec_412, eg_412, en_412, eL_412, hfr_412⟩ := hp
                  have l_e0_412 := hW.lt e0_412
                  have l_e1_412 := hW.lt e1_412
                  have hn_412 : f_412 n = some (cLA 9 (nI j_134) none (some n_296) (some (n_296 + 1)) (some (n_296 + 2)) (some ((n + 1) + 3)) none) := (hfr_412 _ (by omega) (by omega) (by omega)).trans (q_ne (by omega) hn_382x1)
                  have hn___1_412 : f_412 (n + 1) = some (aI E 0 (fun _ => 0)) := (hfr_412 _ (by omega) (by omega) (by omega)).trans (q_ne (by omega) hn___1_382x1)
                  have hn___2_412 : f_412 (n + 2) = some (aQ E 7 0 (fun _ => none)) := (hfr_412 _ (by omega) (by omega) (by omega)).trans (q_ne (by omega) hn___2_382x1)
                  have hn___3_412 : f_412 (n + 3) = some (aQ E 7 0 (fun _ => none)) := (hfr_412 _ (by omega) (by omega) (by omega)).trans (q_ne (by omega) hn___3_382x1)
                  have hn___4_412 : f_412 (n + 4) = some (aQ E 6 0 (fun _ => none)) := (hfr_412 _ (by omega) (by omega) (by omega)).trans (q_ne (by omega) hn___4_382x1)
                  have hn_296_412 : f_412 n_296 = some (aI E 2 (upd (upd (fun _ => 0) 0 (nI j_350)) 1 (nI j_350x1))) := (hfr_412 _ (by omega) (by omega) (by omega)).trans (q_ne (by omega) hn_296_382x1)
                  have hn_296___1_412 : f_412 (n_296 + 1) = some (aQ E 7 2 (va_up (va_up (fun _ => none) 0 (some a_366)) 1 (some a_366x1))) := (hfr_412 _ (by omega) (by omega) (by omega)).trans (q_ne (by omega) hn_296___1_382x1)
                  have hn_296___2_412 : f_412 (n_296 + 2) = some (aQ E 7 2 (va_up (va_up (fun _ => none) 0 (some a_382)) 1 (some a_382x1))) := (hfr_412 _ (by omega) (by omega) (by omega)).trans q_eq
                  have ha_366_412 : f_412 a_366 = some (cNode so366 k366 x366 y366) := (hfr_412 _ (by omega) (by omega) (by omega)).trans (q_ne (by omega) ha_366_382x1)
                  have ha_382_412 : f_412 a_382 = some (cNode so382 k382 x382 y382) := (hfr_412 _ (by omega) (by omega) (by omega)).trans (q_ne (by omega) ha_382_382x1)
                  have ha_366x1_412 : f_412 a_366x1 = some (cNode so366x1 k366x1 x366x1 y366x1) := (hfr_412 _ (by omega) (by omega) (by omega)).trans (q_ne (by omega) ha_366x1_382x1)
                  have ha_382x1_412 : f_412 a_382x1 = some (cNode so382x1 k382x1 x382x1 y382x1) := (hfr_412 _ (by omega) (by omega) (by omega)).trans (q_ne (by omega) hcn382x1)
                  refine q_put hx hb hts hown hA hW hS iX13 tyX13 tyX13_ok nmX13 hn_412 rfl 6 (by decide) (hts (.fieldLink RX13 22 "HighRecipesLaw$Act" "block" "[LHighRecipesLaw$Act;") (by decide +kernel)) (fun _ h9 => h9) rfl rfl rfl (Nat.le_of_ble_eq_true rfl) dX13_drawn_415 (fun H locs hW hS => ?_)
                  have hW : q_W E (va_up f_412 n (some (cLA 9 (nI j_134) none (some n_296) (some (n_296 + 1)) (some (n_296 + 2)) (some b_412) none))) n_412 H := hW
                  refine lv_aload hx hb dX13_drawn_418 (lv_at hl 3 rfl) ?_
                  refine q_get hx hb hts hown hA hW iX13 q_eq rfl 0 (by decide) (hts (.fieldLink RX13 37 "HighRecipesLaw$Act" "does" "I") (by decide +kernel)) (fun _ h9 => h9) (v := .int 9) rfl dX13_drawn_420 ?_
                  refine lv_bipush (v := 9) hx hb dX13_drawn_423 (by decide) ?_
                  refine lv_icmp_ne (tgt := 452) hx hb dX13_drawn_425 (by decide) (fun c_425 => absurd c_425 (by decide)) (fun c_425 => ?_)
                  refine lv_aload_n hx hb dX13_drawn_428 rfl (lv_at hl 4 rfl) ?_
                  refine lv_iconst (v := 2) hx hb dX13_drawn_429 (by decide) ?_
                  refine q_ci (va_runV (As := [.int 2]) (rest := []) ⟨hx, hb, hml, hown, hts⟩ (kX14_next l E (va_up f_412 n (some (cLA 9 (nI j_134) none (some n_296) (some (n_296 + 1)) (some (n_296 + 2)) (some b_412) none))) n_412 r 2 s1_412 (q_ne (by omega) e0_412) (by decide) (by decide)) (cwV 1 hts gX13_drawn_X14_next rfl rfl rfl (by decide +kernel) ⟨(Nat.le_of_ble_eq_true rfl), (Nat.le_of_ble_eq_true rfl)⟩) (q_pV hA hW hS (ci := 14) rfl (q_ne (by omega) e0_412)) rfl rfl hl.1 rfl (lv_room (Nat.le_of_ble_eq_true rfl)) dX13_drawn_430 ⟨(by show _ ≤ 1317; omega), (by show _ ≤ 3654; omega)⟩) hS (fun r_430 f_430 n_430 H locs hp hW hS => ?_)
                  obtain ⟨j_430, s1_430, rfl, e0_430, ej_430, en_430, hfr_430⟩ := hp
                  have l_e0_430 := hW.lt e0_430
                  have hn_430 : f_430 n = some (cLA 9 (nI j_134) none (some n_296) (some (n_296 + 1)) (some (n_296 + 2)) (some b_412) none) := (hfr_430 _ (by omega)).trans q_eq
                  have hn___1_430 : f_430 (n + 1) = some (aI E 0 (fun _ => 0)) := (hfr_430 _ (by omega)).trans (q_ne (by omega) hn___1_412)
                  have hn___2_430 : f_430 (n + 2) = some (aQ E 7 0 (fun _ => none)) := (hfr_430 _ (by omega)).trans (q_ne (by omega) hn___2_412)
                  have hn___3_430 : f_430 (n + 3) = some (aQ E 7 0 (fun _ => none)) := (hfr_430 _ (by omega)).trans (q_ne (by omega) hn___3_412)
                  have hn___4_430 : f_430 (n + 4) = some (aQ E 6 0 (fun _ => none)) := (hfr_430 _ (by omega)).trans (q_ne (by omega) hn___4_412)
                  have hn_296_430 : f_430 n_296 = some (aI E 2 (upd (upd (fun _ => 0) 0 (nI j_350)) 1 (nI j_350x1))) := (hfr_430 _ (by omega)).trans (q_ne (by omega) hn_296_412)
                  have hn_296___1_430 : f_430 (n_296 + 1) = some (aQ E 7 2 (va_up (va_up (fun _ => none) 0 (some a_366)) 1 (some a_366x1))) := (hfr_430 _ (by omega)).trans (q_ne (by omega) hn_296___1_412)
                  have hn_296___2_430 : f_430 (n_296 + 2) = some (aQ E 7 2 (va_up (va_up (fun _ => none) 0 (some a_382)) 1 (some a_382x1))) := (hfr_430 _ (by omega)).trans (q_ne (by omega) hn_296___2_412)
                  have ha_366_430 : f_430 a_366 = some (cNode so366 k366 x366 y366) := (hfr_430 _ (by omega)).trans (q_ne (by omega) ha_366_412)
                  have ha_382_430 : f_430 a_382 = some (cNode so382 k382 x382 y382) := (hfr_430 _ (by omega)).trans (q_ne (by omega) ha_382_412)
                  have ha_366x1_430 : f_430 a_366x1 = some (cNode so366x1 k366x1 x366x1 y366x1) := (hfr_430 _ (by omega)).trans (q_ne (by omega) ha_366x1_412)
                  have ha_382x1_430 : f_430 a_382x1 = some (cNode so382x1 k382x1 x382x1 y382x1) := (hfr_430 _ (by omega)).trans (q_ne (by omega) ha_382x1_412)
                  have hla_430 : f_430 la = some (aI E 1 g1_412) := (hfr_430 _ (by omega)).trans (q_ne (by omega) e1_412)
                  refine lv_if_ne (tgt := 452) hx hb dX13_drawn_433 (by decide) (fun c_433 => ?_) (fun c_433 => ?_)
                  · have hz2 : j_430 ≠ 0 := fun e => c_433 (by rw [e]; rfl)
                    refine lv_aload hx hb dX13_drawn_452 (lv_at hl 3 rfl) ?_
                    have H366 : ∀ q : Nat, (n_350 ≤ q ∧ q < n_366) → (n ≤ q ∧ q < n_430) ∧ (f_430) q = f_366 q := fun q hq => ⟨⟨by omega, by omega⟩, ((hfr_430 _ (by omega)).trans (q_ne (by omega) ((hfr_412 _ (by omega) (by omega) (by omega)).trans (q_ne (by omega) ((hfr_382x1 _ (by omega) (by omega)).trans (q_ne (by omega) ((hfr_366x1 _ (by omega) (by omega)).trans (q_ne (by omega) ((hfr_350x1 _ (by omega)).trans (q_ne (by omega) ((hfr_382 _ (by omega) (by omega)).trans (q_ne (by omega) rfl))))))))))))⟩
                    have H382 : ∀ q : Nat, (n_366 ≤ q ∧ q < n_382) → (n ≤ q ∧ q < n_430) ∧ (f_430) q = f_382 q := fun q hq => ⟨⟨by omega, by omega⟩, ((hfr_430 _ (by omega)).trans (q_ne (by omega) ((hfr_412 _ (by omega) (by omega) (by omega)).trans (q_ne (by omega) ((hfr_382x1 _ (by omega) (by omega)).trans (q_ne (by omega) ((hfr_366x1 _ (by omega) (by omega)).trans (q_ne (by omega) ((hfr_350x1 _ (by omega)).trans (q_ne (by omega) rfl))))))))))⟩
                    have H366x1 : ∀ q : Nat, (n_350x1 ≤ q ∧ q < n_366x1) → (n ≤ q ∧ q < n_430) ∧ (f_430) q = f_366x1 q := fun q hq => ⟨⟨by omega, by omega⟩, ((hfr_430 _ (by omega)).trans (q_ne (by omega) ((hfr_412 _ (by omega) (by omega) (by omega)).trans (q_ne (by omega) ((hfr_382x1 _ (by omega) (by omega)).trans (q_ne (by omega) rfl))))))⟩
                    have H382x1 : ∀ q : Nat, (n_366x1 ≤ q ∧ q < n_382x1) → (n ≤ q ∧ q < n_430) ∧ (f_430) q = f_382x1 q := fun q hq => ⟨⟨by omega, by omega⟩, ((hfr_430 _ (by omega)).trans (q_ne (by omega) ((hfr_412 _ (by omega) (by omega) (by omega)).trans (q_ne (by omega) rfl))))⟩
                    have hcm : CMPS pn (fun q => n ≤ q ∧ q < n_430) E (f_430) (n_296) (n_296 + 1) (n_296 + 2) [(j_350, (a_366, D_366, V_366), (a_382, D_382, V_382)), (j_350x1, (a_366x1, D_366x1, V_366x1), (a_382x1, D_382x1, V_382x1))] := by
                      refine ⟨_, _, _, ⟨by omega, by omega⟩, ⟨by omega, by omega⟩, ⟨by omega, by omega⟩, hn_296_430, hn_296___1_430, hn_296___2_430, fun j x hx => ?_⟩
                      match j, hx with
                      | 0, hx =>
                        cases hx
                        exact ⟨rfl, ej_350, rfl, rfl, (NODE.to H366 eN_366), (NODE.to H382 eN_382)⟩
                      | 1, hx =>
                        cases hx
                        exact ⟨rfl, ej_350x1, rfl, rfl, (NODE.to H366x1 eN_366x1), (NODE.to H382x1 eN_382x1)⟩
                      | j + 2, hx => cases hx
                    have H412 : ∀ q : Nat, (n_382x1 ≤ q ∧ q < n_412) → (n ≤ q ∧ q < n_430) ∧ (f_430) q = f_412 q := fun q hq => ⟨⟨by omega, by omega⟩, ((hfr_430 _ (by omega)).trans (q_ne (by omega) rfl))⟩
                    exact q_aret (v := some n) hx hb hr (Or.inl ⟨_, rfl⟩) hlocks hW hS ⟨n, (k_if (cC ([(j_350, (a_366, D_366, V_366), (a_382, D_382, V_382)), (j_350x1, (a_366x1, D_366x1, V_366x1), (a_382x1, D_382x1, V_382x1))] : List CT).reverse) (bS L_412) k_nil), (cV [(j_350, (a_366, D_366, V_366), (a_382, D_382, V_382)), (j_350x1, (a_366x1, D_366x1, V_366x1), (a_382x1, D_382x1, V_382x1))] ++ bT L_412), (bC L_412), s1_430, g1_412, rfl, e0_430, hla_430, (by omega), eg_412, (by omega), (⟨⟨by omega, by omega⟩, _, _, _, _, _, _, _, _, hn_430, Or.inr (Or.inr (Or.inr (Or.inr (Or.inr (Or.inr (Or.inr (Or.inr ⟨j_134, L_412, [(j_350, (a_366, D_366, V_366), (a_382, D_382, V_382)), (j_350x1, (a_366x1, D_366x1, V_366x1), (a_382x1, D_382x1, V_382x1))], ej_134, rfl, rfl, rfl, Nat.le_succ 1, Nat.le_refl 2, hcm, (LB.to H412 (fun x hx => LACT.to H412 (Nat.le_refl _) (fun _ _ => rfl) 3 x hx) eL_412), Or.inl ⟨rfl, rfl⟩⟩)))))))⟩), (fun q g0 g1 g2 => ((hfr_430 _ (by omega)).trans (q_ne (by omega) ((hfr_412 _ (by omega) (by omega) (by omega)).trans (q_ne (by omega) ((hfr_382x1 _ (by omega) (by omega)).trans (q_ne (by omega) ((hfr_366x1 _ (by omega) (by omega)).trans (q_ne (by omega) ((hfr_350x1 _ (by omega)).trans (q_ne (by omega) ((hfr_382 _ (by omega) (by omega)).trans (q_ne (by omega) ((hfr_366 _ (by omega) (by omega)).trans (q_ne (by omega) ((hfr_350 _ (by omega)).trans (q_ne (by omega) (q_ne (by omega) (q_ne (by omega) (q_ne (by omega) (q_ne (by omega) (q_ne (by omega) ((hfr_296 _ (by omega)).trans (q_ne (by omega) ((hfr_134 _ (by omega)).trans (q_ne (by omega) ((hfr_22 _ (by omega)).trans ((hfr_4 _ (by omega) (by omega)).trans (q_ne (by omega) rfl)))))))))))))))))))))))))))))⟩ (by show _ ≤ 1317; omega) (by show _ ≤ 3654; omega) dX13_drawn_454
                  · refine lv_aload hx hb dX13_drawn_436 (lv_at hl 3 rfl) ?_
                    refine lv_aload_n hx hb dX13_drawn_438 rfl (lv_at hl 4 rfl) ?_
                    refine lv_iload_n hx hb dX13_drawn_439 rfl (lv_at hl 5 rfl) ?_
                    refine lv_iload_n hx hb dX13_drawn_440 rfl (lv_at hl 6 rfl) ?_
                    refine lv_iload_n hx hb dX13_drawn_441 rfl (lv_at hl 7 rfl) ?_
                    refine lv_iconst (v := 1) hx hb dX13_drawn_442 (by decide) ?_
                    refine lv_iadd hx hb dX13_drawn_443 ?_
                    rw [show (0 : Int32) + 1 = 1 from by decide]
                    refine lv_aload hx hb dX13_drawn_444 (lv_at hl 8 rfl) ?_
                    refine q_cq (va_runS (As := [.ref r, .int (nI pn), .int (nI R), .int 1, .ref la]) (rest := [.ref n]) ⟨hx, hb, hml, hown, hts⟩ (kX13_some_1 l E f_430 n_430 r la pn R (q - bC L_412) RS s1_430 g1_412 e0_430 hla_430 hp1 hp2 hR (by omega) eg_412) (va_cwS 5 hts gX13_drawn_X13_some rfl rfl rfl (by decide +kernel) ⟨(Nat.le_of_ble_eq_true rfl), (Nat.le_of_ble_eq_true rfl)⟩) (q_pS hA hW hS) rfl rfl hl.1 rfl (lv_room (Nat.le_of_ble_eq_true rfl)) dX13_drawn_446 ⟨(by show _ ≤ 1317; omega), (by show _ ≤ 3654; omega)⟩) hS (fun r_446 f_446 n_446 H locs hp hW hS => ?_)
                    obtain ⟨b_446, L_446, s1_446, g1_446, rfl, e0_446, e1_446, ec_446, eg_446, en_446, eL_446, hfr_446⟩ := hp
                    have l_e0_446 := hW.lt e0_446
                    have l_e1_446 := hW.lt e1_446
                    have hn_446 : f_446 n = some (cLA 9 (nI j_134) none (some n_296) (some (n_296 + 1)) (some (n_296 + 2)) (some b_412) none) := (hfr_446 _ (by omega) (by omega) (by omega)).trans hn_430
                    have hn___1_446 : f_446 (n + 1) = some (aI E 0 (fun _ => 0)) := (hfr_446 _ (by omega) (by omega) (by omega)).trans hn___1_430
                    have hn___2_446 : f_446 (n + 2) = some (aQ E 7 0 (fun _ => none)) := (hfr_446 _ (by omega) (by omega) (by omega)).trans hn___2_430
                    have hn___3_446 : f_446 (n + 3) = some (aQ E 7 0 (fun _ => none)) := (hfr_446 _ (by omega) (by omega) (by omega)).trans hn___3_430
                    have hn___4_446 : f_446 (n + 4) = some (aQ E 6 0 (fun _ => none)) := (hfr_446 _ (by omega) (by omega) (by omega)).trans hn___4_430
                    have hn_296_446 : f_446 n_296 = some (aI E 2 (upd (upd (fun _ => 0) 0 (nI j_350)) 1 (nI j_350x1))) := (hfr_446 _ (by omega) (by omega) (by omega)).trans hn_296_430
                    have hn_296___1_446 : f_446 (n_296 + 1) = some (aQ E 7 2 (va_up (va_up (fun _ => none) 0 (some a_366)) 1 (some a_366x1))) := (hfr_446 _ (by omega) (by omega) (by omega)).trans hn_296___1_430
                    have hn_296___2_446 : f_446 (n_296 + 2) = some (aQ E 7 2 (va_up (va_up (fun _ => none) 0 (some a_382)) 1 (some a_382x1))) := (hfr_446 _ (by omega) (by omega) (by omega)).trans hn_296___2_430
                    have ha_366_446 : f_446 a_366 = some (cNode so366 k366 x366 y366) := (hfr_446 _ (by omega) (by omega) (by omega)).trans ha_366_430
                    have ha_382_446 : f_446 a_382 = some (cNode so382 k382 x382 y382) := (hfr_446 _ (by omega) (by omega) (by omega)).trans ha_382_430
                    have ha_366x1_446 : f_446 a_366x1 = some (cNode so366x1 k366x1 x366x1 y366x1) := (hfr_446 _ (by omega) (by omega) (by omega)).trans ha_366x1_430
                    have ha_382x1_446 : f_446 a_382x1 = some (cNode so382x1 k382x1 x382x1 y382x1) := (hfr_446 _ (by omega) (by omega) (by omega)).trans ha_382x1_430
                    refine q_put hx hb hts hown hA hW hS iX13 tyX13 tyX13_ok nmX13 hn_446 rfl 7 (by decide) (hts (.fieldLink RX13 58 "HighRecipesLaw$Act" "other" "[LHighRecipesLaw$Act;") (by decide +kernel)) (fun _ h9 => h9) rfl rfl rfl (Nat.le_of_ble_eq_true rfl) dX13_drawn_449 (fun H locs hW hS => ?_)
                    have hW : q_W E (va_up f_446 n (some (cLA 9 (nI j_134) none (some n_296) (some (n_296 + 1)) (some (n_296 + 2)) (some b_412) (some b_446)))) n_446 H := hW
                    refine lv_aload hx hb dX13_drawn_452 (lv_at hl 3 rfl) ?_
                    have H366 : ∀ q : Nat, (n_350 ≤ q ∧ q < n_366) → (n ≤ q ∧ q < n_446) ∧ (va_up f_446 n (some (cLA 9 (nI j_134) none (some n_296) (some (n_296 + 1)) (some (n_296 + 2)) (some b_412) (some b_446)))) q = f_366 q := fun q hq => ⟨⟨by omega, by omega⟩, (q_ne (by omega) ((hfr_446 _ (by omega) (by omega) (by omega)).trans ((hfr_430 _ (by omega)).trans (q_ne (by omega) ((hfr_412 _ (by omega) (by omega) (by omega)).trans (q_ne (by omega) ((hfr_382x1 _ (by omega) (by omega)).trans (q_ne (by omega) ((hfr_366x1 _ (by omega) (by omega)).trans (q_ne (by omega) ((hfr_350x1 _ (by omega)).trans (q_ne (by omega) ((hfr_382 _ (by omega) (by omega)).trans (q_ne (by omega) rfl))))))))))))))⟩
                    have H382 : ∀ q : Nat, (n_366 ≤ q ∧ q < n_382) → (n ≤ q ∧ q < n_446) ∧ (va_up f_446 n (some (cLA 9 (nI j_134) none (some n_296) (some (n_296 + 1)) (some (n_296 + 2)) (some b_412) (some b_446)))) q = f_382 q := fun q hq => ⟨⟨by omega, by omega⟩, (q_ne (by omega) ((hfr_446 _ (by omega) (by omega) (by omega)).trans ((hfr_430 _ (by omega)).trans (q_ne (by omega) ((hfr_412 _ (by omega) (by omega) (by omega)).trans (q_ne (by omega) ((hfr_382x1 _ (by omega) (by omega)).trans (q_ne (by omega) ((hfr_366x1 _ (by omega) (by omega)).trans (q_ne (by omega) ((hfr_350x1 _ (by omega)).trans (q_ne (by omega) rfl))))))))))))⟩
                    have H366x1 : ∀ q : Nat, (n_350x1 ≤ q ∧ q < n_366x1) → (n ≤ q ∧ q < n_446) ∧ (va_up f_446 n (some (cLA 9 (nI j_134) none (some n_296) (some (n_296 + 1)) (some (n_296 + 2)) (some b_412) (some b_446)))) q = f_366x1 q := fun q hq => ⟨⟨by omega, by omega⟩, (q_ne (by omega) ((hfr_446 _ (by omega) (by omega) (by omega)).trans ((hfr_430 _ (by omega)).trans (q_ne (by omega) ((hfr_412 _ (by omega) (by omega) (by omega)).trans (q_ne (by omega) ((hfr_382x1 _ (by omega) (by omega)).trans (q_ne (by omega) rfl))))))))⟩
                    have H382x1 : ∀ q : Nat, (n_366x1 ≤ q ∧ q < n_382x1) → (n ≤ q ∧ q < n_446) ∧ (va_up f_446 n (some (cLA 9 (nI j_134) none (some n_296) (some (n_296 + 1)) (some (n_296 + 2)) (some b_412) (some b_446)))) q = f_382x1 q := fun q hq => ⟨⟨by omega, by omega⟩, (q_ne (by omega) ((hfr_446 _ (by omega) (by omega) (by omega)).trans ((hfr_430 _ (by omega)).trans (q_ne (by omega) ((hfr_412 _ (by omega) (by omega) (by omega)).trans (q_ne (by omega) rfl))))))⟩
                    have hcm : CMPS pn (fun q => n ≤ q ∧ q < n_446) E (va_up f_446 n (some (cLA 9 (nI j_134) none (some n_296) (some (n_296 + 1)) (some (n_296 + 2)) (some b_412) (some b_446)))) (n_296) (n_296 + 1) (n_296 + 2) [(j_350, (a_366, D_366, V_366), (a_382, D_382, V_382)), (j_350x1, (a_366x1, D_366x1, V_366x1), (a_382x1, D_382x1, V_382x1))] := by
                      refine ⟨_, _, _, ⟨by omega, by omega⟩, ⟨by omega, by omega⟩, ⟨by omega, by omega⟩, (q_ne (by omega) hn_296_446), (q_ne (by omega) hn_296___1_446), (q_ne (by omega) hn_296___2_446), fun j x hx => ?_⟩
                      match j, hx with
                      | 0, hx =>
                        cases hx
                        exact ⟨rfl, ej_350, rfl, rfl, (NODE.to H366 eN_366), (NODE.to H382 eN_382)⟩
                      | 1, hx =>
                        cases hx
                        exact ⟨rfl, ej_350x1, rfl, rfl, (NODE.to H366x1 eN_366x1), (NODE.to H382x1 eN_382x1)⟩
                      | j + 2, hx => cases hx
                    have H412 : ∀ q : Nat, (n_382x1 ≤ q ∧ q < n_412) → (n ≤ q ∧ q < n_446) ∧ (va_up f_446 n (some (cLA 9 (nI j_134) none (some n_296) (some (n_296 + 1)) (some (n_296 + 2)) (some b_412) (some b_446)))) q = f_412 q := fun q hq => ⟨⟨by omega, by omega⟩, (q_ne (by omega) ((hfr_446 _ (by omega) (by omega) (by omega)).trans ((hfr_430 _ (by omega)).trans (q_ne (by omega) rfl))))⟩
                    have H446 : ∀ q : Nat, (n_430 ≤ q ∧ q < n_446) → (n ≤ q ∧ q < n_446) ∧ (va_up f_446 n (some (cLA 9 (nI j_134) none (some n_296) (some (n_296 + 1)) (some (n_296 + 2)) (some b_412) (some b_446)))) q = f_446 q := fun q hq => ⟨⟨by omega, by omega⟩, (q_ne (by omega) rfl)⟩
                    exact q_aret (v := some n) hx hb hr (Or.inl ⟨_, rfl⟩) hlocks hW hS ⟨n, (k_if (cC ([(j_350, (a_366, D_366, V_366), (a_382, D_382, V_382)), (j_350x1, (a_366x1, D_366x1, V_366x1), (a_382x1, D_382x1, V_382x1))] : List CT).reverse) (bS L_412) (bS L_446)), (cV [(j_350, (a_366, D_366, V_366), (a_382, D_382, V_382)), (j_350x1, (a_366x1, D_366x1, V_366x1), (a_382x1, D_382x1, V_382x1))] ++ bT L_412 ++ kt 28 ++ bT L_446), (bC L_412 + bC L_446), s1_446, g1_446, rfl, (q_ne (by omega) e0_446), (q_ne (by omega) e1_446), (by omega), (by rw [Nat.sub_sub] at eg_446; exact eg_446), (by omega), (⟨⟨by omega, by omega⟩, _, _, _, _, _, _, _, _, q_eq, Or.inr (Or.inr (Or.inr (Or.inr (Or.inr (Or.inr (Or.inr (Or.inr ⟨j_134, L_412, [(j_350, (a_366, D_366, V_366), (a_382, D_382, V_382)), (j_350x1, (a_366x1, D_366x1, V_366x1), (a_382x1, D_382x1, V_382x1))], ej_134, rfl, rfl, rfl, Nat.le_succ 1, Nat.le_refl 2, hcm, (LB.to H412 (fun x hx => LACT.to H412 (Nat.le_refl _) (fun _ _ => rfl) 3 x hx) eL_412), Or.inr ⟨_, L_446, rfl, (LB.to H446 (fun x hx => LACT.to H446 (Nat.le_refl _) (fun _ _ => rfl) 3 x hx) eL_446), rfl⟩⟩)))))))⟩), (fun q g0 g1 g2 => (q_ne (by omega) ((hfr_446 _ (by omega) (by omega) (by omega)).trans ((hfr_430 _ (by omega)).trans (q_ne (by omega) ((hfr_412 _ (by omega) (by omega) (by omega)).trans (q_ne (by omega) ((hfr_382x1 _ (by omega) (by omega)).trans (q_ne (by omega) ((hfr_366x1 _ (by omega) (by omega)).trans (q_ne (by omega) ((hfr_350x1 _ (by omega)).trans (q_ne (by omega) ((hfr_382 _ (by omega) (by omega)).trans (q_ne (by omega) ((hfr_366 _ (by omega) (by omega)).trans (q_ne (by omega) ((hfr_350 _ (by omega)).trans (q_ne (by omega) (q_ne (by omega) (q_ne (by omega) (q_ne (by omega) (q_ne (by omega) (q_ne (by omega) ((hfr_296 _ (by omega)).trans (q_ne (by omega) ((hfr_134 _ (by omega)).trans (q_ne (by omega) ((hfr_22 _ (by omega)).trans ((hfr_4 _ (by omega) (by omega)).trans (q_ne (by omega) rfl)))))))))))))))))))))))))))))))⟩ (by show _ ≤ 1317; omega) (by show _ ≤ 3654; omega) dX13_drawn_454
            · refine lv_iload_n hx hb dX13_drawn_92 rfl (lv_at hl 4 rfl) ?_
              refine lv_if_le (tgt := 101) hx hb dX13_drawn_93 (by decide) (fun c_93 => ?_) (fun c_93 => ?_)
              · have hR0 : R = 0 := by have h8 := q_leN (a := R) (b := 0) (by omega) c_93 (by decide); omega
                refine lv_iconst (v := 4) hx hb dX13_drawn_101 (by decide) ?_
                refine lv_goto (tgt := 109) hx hb dX13_drawn_102 (by decide) ?_
                refine q_put hx hb hts hown hA hW hS iX13 tyX13 tyX13_ok nmX13 hn_22 rfl 0 (by decide) (hts (.fieldLink RX13 37 "HighRecipesLaw$Act" "does" "I") (by decide +kernel)) (fun _ h9 => h9) rfl rfl rfl (Nat.le_of_ble_eq_true rfl) dX13_drawn_109 (fun H locs hW hS => ?_)
                have hW : q_W E (va_up f_22 n (some (cLA 4 0 none (some (n + 1)) (some ((n + 1) + 1)) (some ((n + 1) + 2)) (some ((n + 1) + 3)) none))) n_22 H := hW
                refine lv_aload hx hb dX13_drawn_112 (lv_at hl 1 rfl) ?_
                refine lv_aload hx hb dX13_drawn_114 (lv_at hl 1 rfl) ?_
                refine q_get hx hb hts hown hA hW iX13 q_eq rfl 0 (by decide) (hts (.fieldLink RX13 37 "HighRecipesLaw$Act" "does" "I") (by decide +kernel)) (fun _ h9 => h9) (v := .int 4) rfl dX13_drawn_116 ?_
                refine lv_bipush (v := 7) hx hb dX13_drawn_119 (by decide) ?_
                refine lv_icmp_ne (tgt := 132) hx hb dX13_drawn_121 (by decide) (fun c_121 => ?_) (fun c_121 => absurd c_121 (by decide))
                refine lv_aload_n hx hb dX13_drawn_132 rfl (lv_at hl 2 rfl) ?_
                refine lv_iload_n hx hb dX13_drawn_133 rfl (lv_at hl 3 rfl) ?_
                refine q_ci (va_runV (As := [.int (nI pn)]) (rest := [.ref n]) ⟨hx, hb, hml, hown, hts⟩ (kX14_next l E (va_up f_22 n (some (cLA 4 0 none (some (n + 1)) (some ((n + 1) + 1)) (some ((n + 1) + 2)) (some ((n + 1) + 3)) none))) n_22 r pn s1_22 (q_ne (by omega) e0_22) (by omega) (by omega)) (cwV 1 hts gX13_drawn_X14_next rfl rfl rfl (by decide +kernel) ⟨(Nat.le_of_ble_eq_true rfl), (Nat.le_of_ble_eq_true rfl)⟩) (q_pV hA hW hS (ci := 14) rfl (q_ne (by omega) e0_22)) rfl rfl hl.1 rfl (lv_room (Nat.le_of_ble_eq_true rfl)) dX13_drawn_134 ⟨(by show _ ≤ 1317; omega), (by show _ ≤ 3654; omega)⟩) hS (fun r_134 f_134 n_134 H locs hp hW hS => ?_)
                obtain ⟨j_134, s1_134, rfl, e0_134, ej_134, en_134, hfr_134⟩ := hp
                have l_e0_134 := hW.lt e0_134
                have hla_134 : f_134 la = some (aI E 1 g) := (hfr_134 _ (by omega)).trans (q_ne (by omega) hla_22)
                have hn_134 : f_134 n = some (cLA 4 0 none (some (n + 1)) (some ((n + 1) + 1)) (some ((n + 1) + 2)) (some ((n + 1) + 3)) none) := (hfr_134 _ (by omega)).trans q_eq
                have hn___1_134 : f_134 (n + 1) = some (aI E 0 (fun _ => 0)) := (hfr_134 _ (by omega)).trans (q_ne (by omega) hn___1_22)
                have hn___2_134 : f_134 (n + 2) = some (aQ E 7 0 (fun _ => none)) := (hfr_134 _ (by omega)).trans (q_ne (by omega) hn___2_22)
                have hn___3_134 : f_134 (n + 3) = some (aQ E 7 0 (fun _ => none)) := (hfr_134 _ (by omega)).trans (q_ne (by omega) hn___3_22)
                have hn___4_134 : f_134 (n + 4) = some (aQ E 6 0 (fun _ => none)) := (hfr_134 _ (by omega)).trans (q_ne (by omega) hn___4_22)
                refine q_put hx hb hts hown hA hW hS iX13 tyX13 tyX13_ok nmX13 hn_134 rfl 1 (by decide) (hts (.fieldLink RX13 41 "HighRecipesLaw$Act" "whom" "I") (by decide +kernel)) (fun _ h9 => h9) rfl rfl rfl (Nat.le_of_ble_eq_true rfl) dX13_drawn_137 (fun H locs hW hS => ?_)
                have hW : q_W E (va_up f_134 n (some (cLA 4 (nI j_134) none (some (n + 1)) (some ((n + 1) + 1)) (some ((n + 1) + 2)) (some ((n + 1) + 3)) none))) n_134 H := hW
                refine lv_aload hx hb dX13_drawn_140 (lv_at hl 1 rfl) ?_
                refine q_get hx hb hts hown hA hW iX13 q_eq rfl 0 (by decide) (hts (.fieldLink RX13 37 "HighRecipesLaw$Act" "does" "I") (by decide +kernel)) (fun _ h9 => h9) (v := .int 4) rfl dX13_drawn_142 ?_
                refine lv_iconst (v := 2) hx hb dX13_drawn_145 (by decide) ?_
                refine lv_icmp_lt (tgt := 168) hx hb dX13_drawn_146 (by decide) (fun c_146 => absurd c_146 (by decide)) (fun c_146 => ?_)
                refine lv_aload hx hb dX13_drawn_149 (lv_at hl 1 rfl) ?_
                refine q_get hx hb hts hown hA hW iX13 q_eq rfl 0 (by decide) (hts (.fieldLink RX13 37 "HighRecipesLaw$Act" "does" "I") (by decide +kernel)) (fun _ h9 => h9) (v := .int 4) rfl dX13_drawn_151 ?_
                refine lv_iconst (v := 5) hx hb dX13_drawn_154 (by decide) ?_
                refine lv_icmp_eq (tgt := 168) hx hb dX13_drawn_155 (by decide) (fun c_155 => absurd c_155 (by decide)) (fun c_155 => ?_)
                refine lv_aload hx hb dX13_drawn_158 (lv_at hl 1 rfl) ?_
                refine q_get hx hb hts hown hA hW iX13 q_eq rfl 0 (by decide) (hts (.fieldLink RX13 37 "HighRecipesLaw$Act" "does" "I") (by decide +kernel)) (fun _ h9 => h9) (v := .int 4) rfl dX13_drawn_160 ?_
                refine lv_bipush (v := 6) hx hb dX13_drawn_163 (by decide) ?_
                refine lv_icmp_ne (tgt := 184) hx hb dX13_drawn_165 (by decide) (fun c_165 => ?_) (fun c_165 => absurd c_165 (by decide))
                refine lv_aload hx hb dX13_drawn_184 (lv_at hl 1 rfl) ?_
                refine q_get hx hb hts hown hA hW iX13 q_eq rfl 0 (by decide) (hts (.fieldLink RX13 37 "HighRecipesLaw$Act" "does" "I") (by decide +kernel)) (fun _ h9 => h9) (v := .int 4) rfl dX13_drawn_186 ?_
                refine lv_iconst (v := 2) hx hb dX13_drawn_189 (by decide) ?_
                refine lv_icmp_ne (tgt := 210) hx hb dX13_drawn_190 (by decide) (fun c_190 => ?_) (fun c_190 => absurd c_190 (by decide))
                refine lv_aload hx hb dX13_drawn_210 (lv_at hl 1 rfl) ?_
                refine q_get hx hb hts hown hA hW iX13 q_eq rfl 0 (by decide) (hts (.fieldLink RX13 37 "HighRecipesLaw$Act" "does" "I") (by decide +kernel)) (fun _ h9 => h9) (v := .int 4) rfl dX13_drawn_212 ?_
                refine lv_iconst (v := 3) hx hb dX13_drawn_215 (by decide) ?_
                refine lv_icmp_ne (tgt := 235) hx hb dX13_drawn_216 (by decide) (fun c_216 => ?_) (fun c_216 => absurd c_216 (by decide))
                refine lv_aload hx hb dX13_drawn_235 (lv_at hl 1 rfl) ?_
                refine q_get hx hb hts hown hA hW iX13 q_eq rfl 0 (by decide) (hts (.fieldLink RX13 37 "HighRecipesLaw$Act" "does" "I") (by decide +kernel)) (fun _ h9 => h9) (v := .int 4) rfl dX13_drawn_237 ?_
                refine lv_bipush (v := 8) hx hb dX13_drawn_240 (by decide) ?_
                refine lv_icmp_ne (tgt := 283) hx hb dX13_drawn_242 (by decide) (fun c_242 => ?_) (fun c_242 => absurd c_242 (by decide))
                refine lv_aload hx hb dX13_drawn_283 (lv_at hl 1 rfl) ?_
                refine q_get hx hb hts hown hA hW iX13 q_eq rfl 0 (by decide) (hts (.fieldLink RX13 37 "HighRecipesLaw$Act" "does" "I") (by decide +kernel)) (fun _ h9 => h9) (v := .int 4) rfl dX13_drawn_285 ?_
                refine lv_bipush (v := 9) hx hb dX13_drawn_288 (by decide) ?_
                refine lv_icmp_ne (tgt := 392) hx hb dX13_drawn_290 (by decide) (fun c_290 => ?_) (fun c_290 => absurd c_290 (by decide))
                refine lv_aload hx hb dX13_drawn_392 (lv_at hl 1 rfl) ?_
                refine q_get hx hb hts hown hA hW iX13 q_eq rfl 0 (by decide) (hts (.fieldLink RX13 37 "HighRecipesLaw$Act" "does" "I") (by decide +kernel)) (fun _ h9 => h9) (v := .int 4) rfl dX13_drawn_394 ?_
                refine lv_bipush (v := 7) hx hb dX13_drawn_397 (by decide) ?_
                refine lv_icmp_le (tgt := 418) hx hb dX13_drawn_399 (by decide) (fun c_399 => ?_) (fun c_399 => absurd c_399 (by decide))
                refine lv_aload hx hb dX13_drawn_418 (lv_at hl 1 rfl) ?_
                refine q_get hx hb hts hown hA hW iX13 q_eq rfl 0 (by decide) (hts (.fieldLink RX13 37 "HighRecipesLaw$Act" "does" "I") (by decide +kernel)) (fun _ h9 => h9) (v := .int 4) rfl dX13_drawn_420 ?_
                refine lv_bipush (v := 9) hx hb dX13_drawn_423 (by decide) ?_
                refine lv_icmp_ne (tgt := 452) hx hb dX13_drawn_425 (by decide) (fun c_425 => ?_) (fun c_425 => absurd c_425 (by decide))
                refine lv_aload hx hb dX13_drawn_452 (lv_at hl 1 rfl) ?_
                exact q_aret (v := some n) hx hb hr (Or.inl ⟨_, rfl⟩) hlocks hW hS ⟨n, (k_empty pn j_134), (kt 20 ++ pT j_134 ++ kt 12), 0, s1_134, g, rfl, (q_ne (by omega) e0_134), (q_ne (by omega) hla_134), (Nat.zero_le _), hg, (by omega), (⟨⟨by omega, by omega⟩, _, _, _, _, _, _, _, _, q_eq, Or.inr (Or.inr (Or.inr (Or.inl ⟨j_134, ej_134, rfl, rfl, rfl, rfl, ⟨⟨by omega, by omega⟩, (show _ = some (aQ E 6 0 (lf [])) from (q_ne (by omega) hn___4_134)), fun x hx => absurd hx List.not_mem_nil⟩, rfl⟩)))⟩), (fun q g0 g1 g2 => (q_ne (by omega) ((hfr_134 _ (by omega)).trans (q_ne (by omega) ((hfr_22 _ (by omega)).trans ((hfr_4 _ (by omega) (by omega)).trans (q_ne (by omega) rfl)))))))⟩ (by show _ ≤ 1317; omega) (by show _ ≤ 3654; omega) dX13_drawn_454
              · have hR0 : 0 < R := q_gtn (a := R) (b := 0) (by omega) c_93 (by decide)
                refine lv_bipush (v := 7) hx hb dX13_drawn_96 (by decide) ?_
                refine lv_goto (tgt := 109) hx hb dX13_drawn_98 (by decide) ?_
                refine q_put hx hb hts hown hA hW hS iX13 tyX13 tyX13_ok nmX13 hn_22 rfl 0 (by decide) (hts (.fieldLink RX13 37 "HighRecipesLaw$Act" "does" "I") (by decide +kernel)) (fun _ h9 => h9) rfl rfl rfl (Nat.le_of_ble_eq_true rfl) dX13_drawn_109 (fun H locs hW hS => ?_)
                have hW : q_W E (va_up f_22 n (some (cLA 7 0 none (some (n + 1)) (some ((n + 1) + 1)) (some ((n + 1) + 2)) (some ((n + 1) + 3)) none))) n_22 H := hW
                refine lv_aload hx hb dX13_drawn_112 (lv_at hl 1 rfl) ?_
                refine lv_aload hx hb dX13_drawn_114 (lv_at hl 1 rfl) ?_
                refine q_get hx hb hts hown hA hW iX13 q_eq rfl 0 (by decide) (hts (.fieldLink RX13 37 "HighRecipesLaw$Act" "does" "I") (by decide +kernel)) (fun _ h9 => h9) (v := .int 7) rfl dX13_drawn_116 ?_
                refine lv_bipush (v := 7) hx hb dX13_drawn_119 (by decide) ?_
                refine lv_icmp_ne (tgt := 132) hx hb dX13_drawn_121 (by decide) (fun c_121 => absurd c_121 (by decide)) (fun c_121 => ?_)
                refine lv_aload_n hx hb dX13_drawn_124 rfl (lv_at hl 2 rfl) ?_
                refine lv_iload_n hx hb dX13_drawn_125 rfl (lv_at hl 4 rfl) ?_
                refine q_ci (va_runV (As := [.int (nI R)]) (rest := [.ref n]) ⟨hx, hb, hml, hown, hts⟩ (kX14_next l E (va_up f_22 n (some (cLA 7 0 none (some (n + 1)) (some ((n + 1) + 1)) (some ((n + 1) + 2)) (some ((n + 1) + 3)) none))) n_22 r R s1_22 (q_ne (by omega) e0_22) (by omega) (by omega)) (cwV 1 hts gX13_drawn_X14_next rfl rfl rfl (by decide +kernel) ⟨(Nat.le_of_ble_eq_true rfl), (Nat.le_of_ble_eq_true rfl)⟩) (q_pV hA hW hS (ci := 14) rfl (q_ne (by omega) e0_22)) rfl rfl hl.1 rfl (lv_room (Nat.le_of_ble_eq_true rfl)) dX13_drawn_126 ⟨(by show _ ≤ 1317; omega), (by show _ ≤ 3654; omega)⟩) hS (fun r_126 f_126 n_126 H locs hp hW hS => ?_)
                obtain ⟨j_126, s1_126, rfl, e0_126, ej_126, en_126, hfr_126⟩ := hp
                have l_e0_126 := hW.lt e0_126
                have hla_126 : f_126 la = some (aI E 1 g) := (hfr_126 _ (by omega)).trans (q_ne (by omega) hla_22)
                have hn_126 : f_126 n = some (cLA 7 0 none (some (n + 1)) (some ((n + 1) + 1)) (some ((n + 1) + 2)) (some ((n + 1) + 3)) none) := (hfr_126 _ (by omega)).trans q_eq
                have hn___1_126 : f_126 (n + 1) = some (aI E 0 (fun _ => 0)) := (hfr_126 _ (by omega)).trans (q_ne (by omega) hn___1_22)
                have hn___2_126 : f_126 (n + 2) = some (aQ E 7 0 (fun _ => none)) := (hfr_126 _ (by omega)).trans (q_ne (by omega) hn___2_22)
                have hn___3_126 : f_126 (n + 3) = some (aQ E 7 0 (fun _ => none)) := (hfr_126 _ (by omega)).trans (q_ne (by omega) hn___3_22)
                have hn___4_126 : f_126 (n + 4) = some (aQ E 6 0 (fun _ => none)) := (hfr_126 _ (by omega)).trans (q_ne (by omega) hn___4_22)
                refine lv_goto (tgt := 137) hx hb dX13_drawn_129 (by decide) ?_
                refine q_put hx hb hts hown hA hW hS iX13 tyX13 tyX13_ok nmX13 hn_126 rfl 1 (by decide) (hts (.fieldLink RX13 41 "HighRecipesLaw$Act" "whom" "I") (by decide +kernel)) (fun _ h9 => h9) rfl rfl rfl (Nat.le_of_ble_eq_true rfl) dX13_drawn_137 (fun H locs hW hS => ?_)
                have hW : q_W E (va_up f_126 n (some (cLA 7 (nI j_126) none (some (n + 1)) (some ((n + 1) + 1)) (some ((n + 1) + 2)) (some ((n + 1) + 3)) none))) n_126 H := hW
                refine lv_aload hx hb dX13_drawn_140 (lv_at hl 1 rfl) ?_
                refine q_get hx hb hts hown hA hW iX13 q_eq rfl 0 (by decide) (hts (.fieldLink RX13 37 "HighRecipesLaw$Act" "does" "I") (by decide +kernel)) (fun _ h9 => h9) (v := .int 7) rfl dX13_drawn_142 ?_
                refine lv_iconst (v := 2) hx hb dX13_drawn_145 (by decide) ?_
                refine lv_icmp_lt (tgt := 168) hx hb dX13_drawn_146 (by decide) (fun c_146 => absurd c_146 (by decide)) (fun c_146 => ?_)
                refine lv_aload hx hb dX13_drawn_149 (lv_at hl 1 rfl) ?_
                refine q_get hx hb hts hown hA hW iX13 q_eq rfl 0 (by decide) (hts (.fieldLink RX13 37 "HighRecipesLaw$Act" "does" "I") (by decide +kernel)) (fun _ h9 => h9) (v := .int 7) rfl dX13_drawn_151 ?_
                refine lv_iconst (v := 5) hx hb dX13_drawn_154 (by decide) ?_
                refine lv_icmp_eq (tgt := 168) hx hb dX13_drawn_155 (by decide) (fun c_155 => absurd c_155 (by decide)) (fun c_155 => ?_)
                refine lv_aload hx hb dX13_drawn_158 (lv_at hl 1 rfl) ?_
                refine q_get hx hb hts hown hA hW iX13 q_eq rfl 0 (by decide) (hts (.fieldLink RX13 37 "HighRecipesLaw$Act" "does" "I") (by decide +kernel)) (fun _ h9 => h9) (v := .int 7) rfl dX13_drawn_160 ?_
                refine lv_bipush (v := 6) hx hb dX13_drawn_163 (by decide) ?_
                refine lv_icmp_ne (tgt := 184) hx hb dX13_drawn_165 (by decide) (fun c_165 => ?_) (fun c_165 => absurd c_165 (by decide))
                refine lv_aload hx hb dX13_drawn_184 (lv_at hl 1 rfl) ?_
                refine q_get hx hb hts hown hA hW iX13 q_eq rfl 0 (by decide) (hts (.fieldLink RX13 37 "HighRecipesLaw$Act" "does" "I") (by decide +kernel)) (fun _ h9 => h9) (v := .int 7) rfl dX13_drawn_186 ?_
                refine lv_iconst (v := 2) hx hb dX13_drawn_189 (by decide) ?_
                refine lv_icmp_ne (tgt := 210) hx hb dX13_drawn_190 (by decide) (fun c_190 => ?_) (fun c_190 => absurd c_190 (by decide))
                refine lv_aload hx hb dX13_drawn_210 (lv_at hl 1 rfl) ?_
                refine q_get hx hb hts hown hA hW iX13 q_eq rfl 0 (by decide) (hts (.fieldLink RX13 37 "HighRecipesLaw$Act" "does" "I") (by decide +kernel)) (fun _ h9 => h9) (v := .int 7) rfl dX13_drawn_212 ?_
                refine lv_iconst (v := 3) hx hb dX13_drawn_215 (by decide) ?_
                refine lv_icmp_ne (tgt := 235) hx hb dX13_drawn_216 (by decide) (fun c_216 => ?_) (fun c_216 => absurd c_216 (by decide))
                refine lv_aload hx hb dX13_drawn_235 (lv_at hl 1 rfl) ?_
                refine q_get hx hb hts hown hA hW iX13 q_eq rfl 0 (by decide) (hts (.fieldLink RX13 37 "HighRecipesLaw$Act" "does" "I") (by decide +kernel)) (fun _ h9 => h9) (v := .int 7) rfl dX13_drawn_237 ?_
                refine lv_bipush (v := 8) hx hb dX13_drawn_240 (by decide) ?_
                refine lv_icmp_ne (tgt := 283) hx hb dX13_drawn_242 (by decide) (fun c_242 => ?_) (fun c_242 => absurd c_242 (by decide))
                refine lv_aload hx hb dX13_drawn_283 (lv_at hl 1 rfl) ?_
                refine q_get hx hb hts hown hA hW iX13 q_eq rfl 0 (by decide) (hts (.fieldLink RX13 37 "HighRecipesLaw$Act" "does" "I") (by decide +kernel)) (fun _ h9 => h9) (v := .int 7) rfl dX13_drawn_285 ?_
                refine lv_bipush (v := 9) hx hb dX13_drawn_288 (by decide) ?_
                refine lv_icmp_ne (tgt := 392) hx hb dX13_drawn_290 (by decide) (fun c_290 => ?_) (fun c_290 => absurd c_290 (by decide))
                refine lv_aload hx hb dX13_drawn_392 (lv_at hl 1 rfl) ?_
                refine q_get hx hb hts hown hA hW iX13 q_eq rfl 0 (by decide) (hts (.fieldLink RX13 37 "HighRecipesLaw$Act" "does" "I") (by decide +kernel)) (fun _ h9 => h9) (v := .int 7) rfl dX13_drawn_394 ?_
                refine lv_bipush (v := 7) hx hb dX13_drawn_397 (by decide) ?_
                refine lv_icmp_le (tgt := 418) hx hb dX13_drawn_399 (by decide) (fun c_399 => ?_) (fun c_399 => absurd c_399 (by decide))
                refine lv_aload hx hb dX13_drawn_418 (lv_at hl 1 rfl) ?_
                refine q_get hx hb hts hown hA hW iX13 q_eq rfl 0 (by decide) (hts (.fieldLink RX13 37 "HighRecipesLaw$Act" "does" "I") (by decide +kernel)) (fun _ h9 => h9) (v := .int 7) rfl dX13_drawn_420 ?_
                refine lv_bipush (v := 9) hx hb dX13_drawn_423 (by decide) ?_
                refine lv_icmp_ne (tgt := 452) hx hb dX13_drawn_425 (by decide) (fun c_425 => ?_) (fun c_425 => absurd c_425 (by decide))
                refine lv_aload hx hb dX13_drawn_452 (lv_at hl 1 rfl) ?_
                exact q_aret (v := some n) hx hb hr (Or.inl ⟨_, rfl⟩) hlocks hW hS ⟨n, (RS j_126), (kt 24 ++ [nI (97 + j_126)] ++ kt 12), 0, s1_126, g, rfl, (q_ne (by omega) e0_126), (q_ne (by omega) hla_126), (Nat.zero_le _), hg, (by omega), (⟨⟨by omega, by omega⟩, _, _, _, _, _, _, _, _, q_eq, Or.inr (Or.inr (Or.inr (Or.inr (Or.inr (Or.inr (Or.inl ⟨j_126, ej_126, rfl, rfl, rfl, rfl, ⟨⟨by omega, by omega⟩, (show _ = some (aQ E 6 0 (lf [])) from (q_ne (by omega) hn___4_126)), fun x hx => absurd hx List.not_mem_nil⟩, rfl⟩))))))⟩), (fun q g0 g1 g2 => (q_ne (by omega) ((hfr_126 _ (by omega)).trans (q_ne (by omega) ((hfr_22 _ (by omega)).trans ((hfr_4 _ (by omega) (by omega)).trans (q_ne (by omega) rfl)))))))⟩ (by show _ ≤ 1317; omega) (by show _ ≤ 3654; omega) dX13_drawn_454
          · have g75 : j_22 < 12 := q_gtn (a := 12) (b := j_22) (by decide) c_75 (by omega)
            refine lv_iload hx hb dX13_drawn_78 (lv_at hl 0 rfl) ?_
            refine lv_iconst (v := 5) hx hb dX13_drawn_80 (by decide) ?_
            refine lv_isub hx hb dX13_drawn_81 ?_
            rcases (show j_22 = 9 ∨ j_22 = 10 ∨ j_22 = 11 by omega) with hjv | hjv | hjv
            · rw [show nI j_22 - 5 = 4 from by rw [hjv]; decide]
              refine lv_goto (tgt := 109) hx hb dX13_drawn_82 (by decide) ?_
              refine q_put hx hb hts hown hA hW hS iX13 tyX13 tyX13_ok nmX13 hn_22 rfl 0 (by decide) (hts (.fieldLink RX13 37 "HighRecipesLaw$Act" "does" "I") (by decide +kernel)) (fun _ h9 => h9) rfl rfl rfl (Nat.le_of_ble_eq_true rfl) dX13_drawn_109 (fun H locs hW hS => ?_)
              have hW : q_W E (va_up f_22 n (some (cLA 4 0 none (some (n + 1)) (some ((n + 1) + 1)) (some ((n + 1) + 2)) (some ((n + 1) + 3)) none))) n_22 H := hW
              refine lv_aload hx hb dX13_drawn_112 (lv_at hl 1 rfl) ?_
              refine lv_aload hx hb dX13_drawn_114 (lv_at hl 1 rfl) ?_
              refine q_get hx hb hts hown hA hW iX13 q_eq rfl 0 (by decide) (hts (.fieldLink RX13 37 "HighRecipesLaw$Act" "does" "I") (by decide +kernel)) (fun _ h9 => h9) (v := .int 4) rfl dX13_drawn_116 ?_
              refine lv_bipush (v := 7) hx hb dX13_drawn_119 (by decide) ?_
              refine lv_icmp_ne (tgt := 132) hx hb dX13_drawn_121 (by decide) (fun c_121 => ?_) (fun c_121 => absurd c_121 (by decide))
              refine lv_aload_n hx hb dX13_drawn_132 rfl (lv_at hl 2 rfl) ?_
              refine lv_iload_n hx hb dX13_drawn_133 rfl (lv_at hl 3 rfl) ?_
              refine q_ci (va_runV (As := [.int (nI pn)]) (rest := [.ref n]) ⟨hx, hb, hml, hown, hts⟩ (kX14_next l E (va_up f_22 n (some (cLA 4 0 none (some (n + 1)) (some ((n + 1) + 1)) (some ((n + 1) + 2)) (some ((n + 1) + 3)) none))) n_22 r pn s1_22 (q_ne (by omega) e0_22) (by omega) (by omega)) (cwV 1 hts gX13_drawn_X14_next rfl rfl rfl (by decide +kernel) ⟨(Nat.le_of_ble_eq_true rfl), (Nat.le_of_ble_eq_true rfl)⟩) (q_pV hA hW hS (ci := 14) rfl (q_ne (by omega) e0_22)) rfl rfl hl.1 rfl (lv_room (Nat.le_of_ble_eq_true rfl)) dX13_drawn_134 ⟨(by show _ ≤ 1317; omega), (by show _ ≤ 3654; omega)⟩) hS (fun r_134 f_134 n_134 H locs hp hW hS => ?_)
              obtain ⟨j_134, s1_134, rfl, e0_134, ej_134, en_134, hfr_134⟩ := hp
              have l_e0_134 := hW.lt e0_134
              have hla_134 : f_134 la = some (aI E 1 g) := (hfr_134 _ (by omega)).trans (q_ne (by omega) hla_22)
              have hn_134 : f_134 n = some (cLA 4 0 none (some (n + 1)) (some ((n + 1) + 1)) (some ((n + 1) + 2)) (some ((n + 1) + 3)) none) := (hfr_134 _ (by omega)).trans q_eq
              have hn___1_134 : f_134 (n + 1) = some (aI E 0 (fun _ => 0)) := (hfr_134 _ (by omega)).trans (q_ne (by omega) hn___1_22)
              have hn___2_134 : f_134 (n + 2) = some (aQ E 7 0 (fun _ => none)) := (hfr_134 _ (by omega)).trans (q_ne (by omega) hn___2_22)
              have hn___3_134 : f_134 (n + 3) = some (aQ E 7 0 (fun _ => none)) := (hfr_134 _ (by omega)).trans (q_ne (by omega) hn___3_22)
              have hn___4_134 : f_134 (n + 4) = some (aQ E 6 0 (fun _ => none)) := (hfr_134 _ (by omega)).trans (q_ne (by omega) hn___4_22)
              refine q_put hx hb hts hown hA hW hS iX13 tyX13 tyX13_ok nmX13 hn_134 rfl 1 (by decide) (hts (.fieldLink RX13 41 "HighRecipesLaw$Act" "whom" "I") (by decide +kernel)) (fun _ h9 => h9) rfl rfl rfl (Nat.le_of_ble_eq_true rfl) dX13_drawn_137 (fun H locs hW hS => ?_)
              have hW : q_W E (va_up f_134 n (some (cLA 4 (nI j_134) none (some (n + 1)) (some ((n + 1) + 1)) (some ((n + 1) + 2)) (some ((n + 1) + 3)) none))) n_134 H := hW
              refine lv_aload hx hb dX13_drawn_140 (lv_at hl 1 rfl) ?_
              refine q_get hx hb hts hown hA hW iX13 q_eq rfl 0 (by decide) (hts (.fieldLink RX13 37 "HighRecipesLaw$Act" "does" "I") (by decide +kernel)) (fun _ h9 => h9) (v := .int 4) rfl dX13_drawn_142 ?_
              refine lv_iconst (v := 2) hx hb dX13_drawn_145 (by decide) ?_
              refine lv_icmp_lt (tgt := 168) hx hb dX13_drawn_146 (by decide) (fun c_146 => absurd c_146 (by decide)) (fun c_146 => ?_)
              refine lv_aload hx hb dX13_drawn_149 (lv_at hl 1 rfl) ?_
              refine q_get hx hb hts hown hA hW iX13 q_eq rfl 0 (by decide) (hts (.fieldLink RX13 37 "HighRecipesLaw$Act" "does" "I") (by decide +kernel)) (fun _ h9 => h9) (v := .int 4) rfl dX13_drawn_151 ?_
              refine lv_iconst (v := 5) hx hb dX13_drawn_154 (by decide) ?_
              refine lv_icmp_eq (tgt := 168) hx hb dX13_drawn_155 (by decide) (fun c_155 => absurd c_155 (by decide)) (fun c_155 => ?_)
              refine lv_aload hx hb dX13_drawn_158 (lv_at hl 1 rfl) ?_
              refine q_get hx hb hts hown hA hW iX13 q_eq rfl 0 (by decide) (hts (.fieldLink RX13 37 "HighRecipesLaw$Act" "does" "I") (by decide +kernel)) (fun _ h9 => h9) (v := .int 4) rfl dX13_drawn_160 ?_
              refine lv_bipush (v := 6) hx hb dX13_drawn_163 (by decide) ?_
              refine lv_icmp_ne (tgt := 184) hx hb dX13_drawn_165 (by decide) (fun c_165 => ?_) (fun c_165 => absurd c_165 (by decide))
              refine lv_aload hx hb dX13_drawn_184 (lv_at hl 1 rfl) ?_
              refine q_get hx hb hts hown hA hW iX13 q_eq rfl 0 (by decide) (hts (.fieldLink RX13 37 "HighRecipesLaw$Act" "does" "I") (by decide +kernel)) (fun _ h9 => h9) (v := .int 4) rfl dX13_drawn_186 ?_
              refine lv_iconst (v := 2) hx hb dX13_drawn_189 (by decide) ?_
              refine lv_icmp_ne (tgt := 210) hx hb dX13_drawn_190 (by decide) (fun c_190 => ?_) (fun c_190 => absurd c_190 (by decide))
              refine lv_aload hx hb dX13_drawn_210 (lv_at hl 1 rfl) ?_
              refine q_get hx hb hts hown hA hW iX13 q_eq rfl 0 (by decide) (hts (.fieldLink RX13 37 "HighRecipesLaw$Act" "does" "I") (by decide +kernel)) (fun _ h9 => h9) (v := .int 4) rfl dX13_drawn_212 ?_
              refine lv_iconst (v := 3) hx hb dX13_drawn_215 (by decide) ?_
              refine lv_icmp_ne (tgt := 235) hx hb dX13_drawn_216 (by decide) (fun c_216 => ?_) (fun c_216 => absurd c_216 (by decide))
              refine lv_aload hx hb dX13_drawn_235 (lv_at hl 1 rfl) ?_
              refine q_get hx hb hts hown hA hW iX13 q_eq rfl 0 (by decide) (hts (.fieldLink RX13 37 "HighRecipesLaw$Act" "does" "I") (by decide +kernel)) (fun _ h9 => h9) (v := .int 4) rfl dX13_drawn_237 ?_
              refine lv_bipush (v := 8) hx hb dX13_drawn_240 (by decide) ?_
              refine lv_icmp_ne (tgt := 283) hx hb dX13_drawn_242 (by decide) (fun c_242 => ?_) (fun c_242 => absurd c_242 (by decide))
              refine lv_aload hx hb dX13_drawn_283 (lv_at hl 1 rfl) ?_
              refine q_get hx hb hts hown hA hW iX13 q_eq rfl 0 (by decide) (hts (.fieldLink RX13 37 "HighRecipesLaw$Act" "does" "I") (by decide +kernel)) (fun _ h9 => h9) (v := .int 4) rfl dX13_drawn_285 ?_
              refine lv_bipush (v := 9) hx hb dX13_drawn_288 (by decide) ?_
              refine lv_icmp_ne (tgt := 392) hx hb dX13_drawn_290 (by decide) (fun c_290 => ?_) (fun c_290 => absurd c_290 (by decide))
              refine lv_aload hx hb dX13_drawn_392 (lv_at hl 1 rfl) ?_
              refine q_get hx hb hts hown hA hW iX13 q_eq rfl 0 (by decide) (hts (.fieldLink RX13 37 "HighRecipesLaw$Act" "does" "I") (by decide +kernel)) (fun _ h9 => h9) (v := .int 4) rfl dX13_drawn_394 ?_
              refine lv_bipush (v := 7) hx hb dX13_drawn_397 (by decide) ?_
              refine lv_icmp_le (tgt := 418) hx hb dX13_drawn_399 (by decide) (fun c_399 => ?_) (fun c_399 => absurd c_399 (by decide))
              refine lv_aload hx hb dX13_drawn_418 (lv_at hl 1 rfl) ?_
              refine q_get hx hb hts hown hA hW iX13 q_eq rfl 0 (by decide) (hts (.fieldLink RX13 37 "HighRecipesLaw$Act" "does" "I") (by decide +kernel)) (fun _ h9 => h9) (v := .int 4) rfl dX13_drawn_420 ?_
              refine lv_bipush (v := 9) hx hb dX13_drawn_423 (by decide) ?_
              refine lv_icmp_ne (tgt := 452) hx hb dX13_drawn_425 (by decide) (fun c_425 => ?_) (fun c_425 => absurd c_425 (by decide))
              refine lv_aload hx hb dX13_drawn_452 (lv_at hl 1 rfl) ?_
              exact q_aret (v := some n) hx hb hr (Or.inl ⟨_, rfl⟩) hlocks hW hS ⟨n, (k_empty pn j_134), (kt 20 ++ pT j_134 ++ kt 12), 0, s1_134, g, rfl, (q_ne (by omega) e0_134), (q_ne (by omega) hla_134), (Nat.zero_le _), hg, (by omega), (⟨⟨by omega, by omega⟩, _, _, _, _, _, _, _, _, q_eq, Or.inr (Or.inr (Or.inr (Or.inl ⟨j_134, ej_134, rfl, rfl, rfl, rfl, ⟨⟨by omega, by omega⟩, (show _ = some (aQ E 6 0 (lf [])) from (q_ne (by omega) hn___4_134)), fun x hx => absurd hx List.not_mem_nil⟩, rfl⟩)))⟩), (fun q g0 g1 g2 => (q_ne (by omega) ((hfr_134 _ (by omega)).trans (q_ne (by omega) ((hfr_22 _ (by omega)).trans ((hfr_4 _ (by omega) (by omega)).trans (q_ne (by omega) rfl)))))))⟩ (by show _ ≤ 1317; omega) (by show _ ≤ 3654; omega) dX13_drawn_454
            · rw [show nI j_22 - 5 = 5 from by rw [hjv]; decide]
              refine lv_goto (tgt := 109) hx hb dX13_drawn_82 (by decide) ?_
              refine q_put hx hb hts hown hA hW hS iX13 tyX13 tyX13_ok nmX13 hn_22 rfl 0 (by decide) (hts (.fieldLink RX13 37 "HighRecipesLaw$Act" "does" "I") (by decide +kernel)) (fun _ h9 => h9) rfl rfl rfl (Nat.le_of_ble_eq_true rfl) dX13_drawn_109 (fun H locs hW hS => ?_)
              have hW : q_W E (va_up f_22 n (some (cLA 5 0 none (some (n + 1)) (some ((n + 1) + 1)) (some ((n + 1) + 2)) (some ((n + 1) + 3)) none))) n_22 H := hW
              refine lv_aload hx hb dX13_drawn_112 (lv_at hl 1 rfl) ?_
              refine lv_aload hx hb dX13_drawn_114 (lv_at hl 1 rfl) ?_
              refine q_get hx hb hts hown hA hW iX13 q_eq rfl 0 (by decide) (hts (.fieldLink RX13 37 "HighRecipesLaw$Act" "does" "I") (by decide +kernel)) (fun _ h9 => h9) (v := .int 5) rfl dX13_drawn_116 ?_
              refine lv_bipush (v := 7) hx hb dX13_drawn_119 (by decide) ?_
              refine lv_icmp_ne (tgt := 132) hx hb dX13_drawn_121 (by decide) (fun c_121 => ?_) (fun c_121 => absurd c_121 (by decide))
              refine lv_aload_n hx hb dX13_drawn_132 rfl (lv_at hl 2 rfl) ?_
              refine lv_iload_n hx hb dX13_drawn_133 rfl (lv_at hl 3 rfl) ?_
              refine q_ci (va_runV (As := [.int (nI pn)]) (rest := [.ref n]) ⟨hx, hb, hml, hown, hts⟩ (kX14_next l E (va_up f_22 n (some (cLA 5 0 none (some (n + 1)) (some ((n + 1) + 1)) (some ((n + 1) + 2)) (some ((n + 1) + 3)) none))) n_22 r pn s1_22 (q_ne (by omega) e0_22) (by omega) (by omega)) (cwV 1 hts gX13_drawn_X14_next rfl rfl rfl (by decide +kernel) ⟨(Nat.le_of_ble_eq_true rfl), (Nat.le_of_ble_eq_true rfl)⟩) (q_pV hA hW hS (ci := 14) rfl (q_ne (by omega) e0_22)) rfl rfl hl.1 rfl (lv_room (Nat.le_of_ble_eq_true rfl)) dX13_drawn_134 ⟨(by show _ ≤ 1317; omega), (by show _ ≤ 3654; omega)⟩) hS (fun r_134 f_134 n_134 H locs hp hW hS => ?_)
              obtain ⟨j_134, s1_134, rfl, e0_134, ej_134, en_134, hfr_134⟩ := hp
              have l_e0_134 := hW.lt e0_134
              have hla_134 : f_134 la = some (aI E 1 g) := (hfr_134 _ (by omega)).trans (q_ne (by omega) hla_22)
              have hn_134 : f_134 n = some (cLA 5 0 none (some (n + 1)) (some ((n + 1) + 1)) (some ((n + 1) + 2)) (some ((n + 1) + 3)) none) := (hfr_134 _ (by omega)).trans q_eq
              have hn___1_134 : f_134 (n + 1) = some (aI E 0 (fun _ => 0)) := (hfr_134 _ (by omega)).trans (q_ne (by omega) hn___1_22)
              have hn___2_134 : f_134 (n + 2) = some (aQ E 7 0 (fun _ => none)) := (hfr_134 _ (by omega)).trans (q_ne (by omega) hn___2_22)
              have hn___3_134 : f_134 (n + 3) = some (aQ E 7 0 (fun _ => none)) := (hfr_134 _ (by omega)).trans (q_ne (by omega) hn___3_22)
              have hn___4_134 : f_134 (n + 4) = some (aQ E 6 0 (fun _ => none)) := (hfr_134 _ (by omega)).trans (q_ne (by omega) hn___4_22)
              refine q_put hx hb hts hown hA hW hS iX13 tyX13 tyX13_ok nmX13 hn_134 rfl 1 (by decide) (hts (.fieldLink RX13 41 "HighRecipesLaw$Act" "whom" "I") (by decide +kernel)) (fun _ h9 => h9) rfl rfl rfl (Nat.le_of_ble_eq_true rfl) dX13_drawn_137 (fun H locs hW hS => ?_)
              have hW : q_W E (va_up f_134 n (some (cLA 5 (nI j_134) none (some (n + 1)) (some ((n + 1) + 1)) (some ((n + 1) + 2)) (some ((n + 1) + 3)) none))) n_134 H := hW
              refine lv_aload hx hb dX13_drawn_140 (lv_at hl 1 rfl) ?_
              refine q_get hx hb hts hown hA hW iX13 q_eq rfl 0 (by decide) (hts (.fieldLink RX13 37 "HighRecipesLaw$Act" "does" "I") (by decide +kernel)) (fun _ h9 => h9) (v := .int 5) rfl dX13_drawn_142 ?_
              refine lv_iconst (v := 2) hx hb dX13_drawn_145 (by decide) ?_
              refine lv_icmp_lt (tgt := 168) hx hb dX13_drawn_146 (by decide) (fun c_146 => absurd c_146 (by decide)) (fun c_146 => ?_)
              refine lv_aload hx hb dX13_drawn_149 (lv_at hl 1 rfl) ?_
              refine q_get hx hb hts hown hA hW iX13 q_eq rfl 0 (by decide) (hts (.fieldLink RX13 37 "HighRecipesLaw$Act" "does" "I") (by decide +kernel)) (fun _ h9 => h9) (v := .int 5) rfl dX13_drawn_151 ?_
              refine lv_iconst (v := 5) hx hb dX13_drawn_154 (by decide) ?_
              refine lv_icmp_eq (tgt := 168) hx hb dX13_drawn_155 (by decide) (fun c_155 => ?_) (fun c_155 => absurd c_155 (by decide))
              refine lv_aload hx hb dX13_drawn_168 (lv_at hl 1 rfl) ?_
              refine lv_aload_n hx hb dX13_drawn_170 rfl (lv_at hl 2 rfl) ?_
              refine lv_iload_n hx hb dX13_drawn_171 rfl (lv_at hl 3 rfl) ?_
              refine lv_iconst (v := 1) hx hb dX13_drawn_172 (by decide) ?_
              refine lv_bipush (v := 40) hx hb dX13_drawn_173 (by decide) ?_
              refine q_cq (va_runS (As := [.ref r, .int (nI pn), .int 1, .int 40]) (rest := [.ref n]) ⟨hx, hb, hml, hown, hts⟩ (kX16_drawn_1 l E (va_up f_134 n (some (cLA 5 (nI j_134) none (some (n + 1)) (some ((n + 1) + 1)) (some ((n + 1) + 2)) (some ((n + 1) + 3)) none))) n_134 r pn 40 s1_134 (q_ne (by omega) e0_134) hp1 hp2 (by decide) (by decide)) (va_cwS 4 hts gX13_drawn_X16_drawn rfl rfl rfl (by decide +kernel) ⟨(Nat.le_of_ble_eq_true rfl), (Nat.le_of_ble_eq_true rfl)⟩) (q_pS hA hW hS) rfl rfl hl.1 rfl (lv_room (Nat.le_of_ble_eq_true rfl)) dX13_drawn_175 ⟨(by show _ ≤ 1317; omega), (by show _ ≤ 3654; omega)⟩) hS (fun r_175 f_175 n_175 H locs hp hW hS => ?_)
              obtain ⟨a_175, s1_175, D_175, V_175, rfl, e0_175, en_175, eN_175, hfr_175⟩ := hp
              have l_e0_175 := hW.lt e0_175
              have hla_175 : f_175 la = some (aI E 1 g) := (hfr_175 _ (by omega) (by omega)).trans (q_ne (by omega) hla_134)
              have hn_175 : f_175 n = some (cLA 5 (nI j_134) none (some (n + 1)) (some ((n + 1) + 1)) (some ((n + 1) + 2)) (some ((n + 1) + 3)) none) := (hfr_175 _ (by omega) (by omega)).trans q_eq
              have hn___1_175 : f_175 (n + 1) = some (aI E 0 (fun _ => 0)) := (hfr_175 _ (by omega) (by omega)).trans (q_ne (by omega) hn___1_134)
              have hn___2_175 : f_175 (n + 2) = some (aQ E 7 0 (fun _ => none)) := (hfr_175 _ (by omega) (by omega)).trans (q_ne (by omega) hn___2_134)
              have hn___3_175 : f_175 (n + 3) = some (aQ E 7 0 (fun _ => none)) := (hfr_175 _ (by omega) (by omega)).trans (q_ne (by omega) hn___3_134)
              have hn___4_175 : f_175 (n + 4) = some (aQ E 6 0 (fun _ => none)) := (hfr_175 _ (by omega) (by omega)).trans (q_ne (by omega) hn___4_134)
              refine q_put hx hb hts hown hA hW hS iX13 tyX13 tyX13_ok nmX13 hn_175 rfl 2 (by decide) (hts (.fieldLink RX13 47 "HighRecipesLaw$Act" "value" "LHighRecipesLaw$Node;") (by decide +kernel)) (fun _ h9 => h9) rfl rfl rfl (Nat.le_of_ble_eq_true rfl) dX13_drawn_178 (fun H locs hW hS => ?_)
              have hW : q_W E (va_up f_175 n (some (cLA 5 (nI j_134) (some a_175) (some (n + 1)) (some ((n + 1) + 1)) (some ((n + 1) + 2)) (some ((n + 1) + 3)) none))) n_175 H := hW
              refine lv_goto (tgt := 283) hx hb dX13_drawn_181 (by decide) ?_
              refine lv_aload hx hb dX13_drawn_283 (lv_at hl 1 rfl) ?_
              refine q_get hx hb hts hown hA hW iX13 q_eq rfl 0 (by decide) (hts (.fieldLink RX13 37 "HighRecipesLaw$Act" "does" "I") (by decide +kernel)) (fun _ h9 => h9) (v := .int 5) rfl dX13_drawn_285 ?_
              refine lv_bipush (v := 9) hx hb dX13_drawn_288 (by decide) ?_
              refine lv_icmp_ne (tgt := 392) hx hb dX13_drawn_290 (by decide) (fun c_290 => ?_) (fun c_290 => absurd c_290 (by decide))
              refine lv_aload hx hb dX13_drawn_392 (lv_at hl 1 rfl) ?_
              refine q_get hx hb hts hown hA hW iX13 q_eq rfl 0 (by decide) (hts (.fieldLink RX13 37 "HighRecipesLaw$Act" "does" "I") (by decide +kernel)) (fun _ h9 => h9) (v := .int 5) rfl dX13_drawn_394 ?_
              refine lv_bipush (v := 7) hx hb dX13_drawn_397 (by decide) ?_
              refine lv_icmp_le (tgt := 418) hx hb dX13_drawn_399 (by decide) (fun c_399 => ?_) (fun c_399 => absurd c_399 (by decide))
              refine lv_aload hx hb dX13_drawn_418 (lv_at hl 1 rfl) ?_
              refine q_get hx hb hts hown hA hW iX13 q_eq rfl 0 (by decide) (hts (.fieldLink RX13 37 "HighRecipesLaw$Act" "does" "I") (by decide +kernel)) (fun _ h9 => h9) (v := .int 5) rfl dX13_drawn_420 ?_
              refine lv_bipush (v := 9) hx hb dX13_drawn_423 (by decide) ?_
              refine lv_icmp_ne (tgt := 452) hx hb dX13_drawn_425 (by decide) (fun c_425 => ?_) (fun c_425 => absurd c_425 (by decide))
              refine lv_aload hx hb dX13_drawn_452 (lv_at hl 1 rfl) ?_
              have H175 : ∀ q : Nat, (n_134 ≤ q ∧ q < n_175) → (n ≤ q ∧ q < n_175) ∧ (va_up f_175 n (some (cLA 5 (nI j_134) (some a_175) (some (n + 1)) (some ((n + 1) + 1)) (some ((n + 1) + 2)) (some ((n + 1) + 3)) none))) q = f_175 q := fun q hq => ⟨⟨by omega, by omega⟩, (q_ne (by omega) rfl)⟩
              exact q_aret (v := some n) hx hb hr (Or.inl ⟨_, rfl⟩) hlocks hW hS ⟨n, (k_rest pn D_175), (kt 21 ++ V_175 ++ kt 22), 0, s1_175, g, rfl, (q_ne (by omega) e0_175), (q_ne (by omega) hla_175), (Nat.zero_le _), hg, (by omega), (⟨⟨by omega, by omega⟩, _, _, _, _, _, _, _, _, q_eq, Or.inr (Or.inr (Or.inr (Or.inr (Or.inl ⟨j_134, _, D_175, V_175, ej_134, rfl, rfl, rfl, rfl, (NODE.to H175 eN_175), ⟨⟨by omega, by omega⟩, (show _ = some (aQ E 6 0 (lf [])) from (q_ne (by omega) hn___4_175)), fun x hx => absurd hx List.not_mem_nil⟩, rfl⟩))))⟩), (fun q g0 g1 g2 => (q_ne (by omega) ((hfr_175 _ (by omega) (by omega)).trans (q_ne (by omega) ((hfr_134 _ (by omega)).trans (q_ne (by omega) ((hfr_22 _ (by omega)).trans ((hfr_4 _ (by omega) (by omega)).trans (q_ne (by omega) rfl)))))))))⟩ (by show _ ≤ 1317; omega) (by show _ ≤ 3654; omega) dX13_drawn_454
            · rw [show nI j_22 - 5 = 6 from by rw [hjv]; decide]
              refine lv_goto (tgt := 109) hx hb dX13_drawn_82 (by decide) ?_
              refine q_put hx hb hts hown hA hW hS iX13 tyX13 tyX13_ok nmX13 hn_22 rfl 0 (by decide) (hts (.fieldLink RX13 37 "HighRecipesLaw$Act" "does" "I") (by decide +kernel)) (fun _ h9 => h9) rfl rfl rfl (Nat.le_of_ble_eq_true rfl) dX13_drawn_109 (fun H locs hW hS => ?_)
              have hW : q_W E (va_up f_22 n (some (cLA 6 0 none (some (n + 1)) (some ((n + 1) + 1)) (some ((n + 1) + 2)) (some ((n + 1) + 3)) none))) n_22 H := hW
              refine lv_aload hx hb dX13_drawn_112 (lv_at hl 1 rfl) ?_
              refine lv_aload hx hb dX13_drawn_114 (lv_at hl 1 rfl) ?_
              refine q_get hx hb hts hown hA hW iX13 q_eq rfl 0 (by decide) (hts (.fieldLink RX13 37 "HighRecipesLaw$Act" "does" "I") (by decide +kernel)) (fun _ h9 => h9) (v := .int 6) rfl dX13_drawn_116 ?_
              refine lv_bipush (v := 7) hx hb dX13_drawn_119 (by decide) ?_
              refine lv_icmp_ne (tgt := 132) hx hb dX13_drawn_121 (by decide) (fun c_121 => ?_) (fun c_121 => absurd c_121 (by decide))
              refine lv_aload_n hx hb dX13_drawn_132 rfl (lv_at hl 2 rfl) ?_
              refine lv_iload_n hx hb dX13_drawn_133 rfl (lv_at hl 3 rfl) ?_
              refine q_ci (va_runV (As := [.int (nI pn)]) (rest := [.ref n]) ⟨hx, hb, hml, hown, hts⟩ (kX14_next l E (va_up f_22 n (some (cLA 6 0 none (some (n + 1)) (some ((n + 1) + 1)) (some ((n + 1) + 2)) (some ((n + 1) + 3)) none))) n_22 r pn s1_22 (q_ne (by omega) e0_22) (by omega) (by omega)) (cwV 1 hts gX13_drawn_X14_next rfl rfl rfl (by decide +kernel) ⟨(Nat.le_of_ble_eq_true rfl), (Nat.le_of_ble_eq_true rfl)⟩) (q_pV hA hW hS (ci := 14) rfl (q_ne (by omega) e0_22)) rfl rfl hl.1 rfl (lv_room (Nat.le_of_ble_eq_true rfl)) dX13_drawn_134 ⟨(by show _ ≤ 1317; omega), (by show _ ≤ 3654; omega)⟩) hS (fun r_134 f_134 n_134 H locs hp hW hS => ?_)
              obtain ⟨j_134, s1_134, rfl, e0_134, ej_134, en_134, hfr_134⟩ := hp
              have l_e0_134 := hW.lt e0_134
              have hla_134 : f_134 la = some (aI E 1 g) := (hfr_134 _ (by omega)).trans (q_ne (by omega) hla_22)
              have hn_134 : f_134 n = some (cLA 6 0 none (some (n + 1)) (some ((n + 1) + 1)) (some ((n + 1) + 2)) (some ((n + 1) + 3)) none) := (hfr_134 _ (by omega)).trans q_eq
              have hn___1_134 : f_134 (n + 1) = some (aI E 0 (fun _ => 0)) := (hfr_134 _ (by omega)).trans (q_ne (by omega) hn___1_22)
              have hn___2_134 : f_134 (n + 2) = some (aQ E 7 0 (fun _ => none)) := (hfr_134 _ (by omega)).trans (q_ne (by omega) hn___2_22)
              have hn___3_134 : f_134 (n + 3) = some (aQ E 7 0 (fun _ => none)) := (hfr_134 _ (by omega)).trans (q_ne (by omega) hn___3_22)
              have hn___4_134 : f_134 (n + 4) = some (aQ E 6 0 (fun _ => none)) := (hfr_134 _ (by omega)).trans (q_ne (by omega) hn___4_22)
              refine q_put hx hb hts hown hA hW hS iX13 tyX13 tyX13_ok nmX13 hn_134 rfl 1 (by decide) (hts (.fieldLink RX13 41 "HighRecipesLaw$Act" "whom" "I") (by decide +kernel)) (fun _ h9 => h9) rfl rfl rfl (Nat.le_of_ble_eq_true rfl) dX13_drawn_137 (fun H locs hW hS => ?_)
              have hW : q_W E (va_up f_134 n (some (cLA 6 (nI j_134) none (some (n + 1)) (some ((n + 1) + 1)) (some ((n + 1) + 2)) (some ((n + 1) + 3)) none))) n_134 H := hW
              refine lv_aload hx hb dX13_drawn_140 (lv_at hl 1 rfl) ?_
              refine q_get hx hb hts hown hA hW iX13 q_eq rfl 0 (by decide) (hts (.fieldLink RX13 37 "HighRecipesLaw$Act" "does" "I") (by decide +kernel)) (fun _ h9 => h9) (v := .int 6) rfl dX13_drawn_142 ?_
              refine lv_iconst (v := 2) hx hb dX13_drawn_145 (by decide) ?_
              refine lv_icmp_lt (tgt := 168) hx hb dX13_drawn_146 (by decide) (fun c_146 => absurd c_146 (by decide)) (fun c_146 => ?_)
              refine lv_aload hx hb dX13_drawn_149 (lv_at hl 1 rfl) ?_
              refine q_get hx hb hts hown hA hW iX13 q_eq rfl 0 (by decide) (hts (.fieldLink RX13 37 "HighRecipesLaw$Act" "does" "I") (by decide +kernel)) (fun _ h9 => h9) (v := .int 6) rfl dX13_drawn_151 ?_
              refine lv_iconst (v := 5) hx hb dX13_drawn_154 (by decide) ?_
              refine lv_icmp_eq (tgt := 168) hx hb dX13_drawn_155 (by decide) (fun c_155 => absurd c_155 (by decide)) (fun c_155 => ?_)
              refine lv_aload hx hb dX13_drawn_158 (lv_at hl 1 rfl) ?_
              refine q_get hx hb hts hown hA hW iX13 q_eq rfl 0 (by decide) (hts (.fieldLink RX13 37 "HighRecipesLaw$Act" "does" "I") (by decide +kernel)) (fun _ h9 => h9) (v := .int 6) rfl dX13_drawn_160 ?_
              refine lv_bipush (v := 6) hx hb dX13_drawn_163 (by decide) ?_
              refine lv_icmp_ne (tgt := 184) hx hb dX13_drawn_165 (by decide) (fun c_165 => absurd c_165 (by decide)) (fun c_165 => ?_)
              refine lv_aload hx hb dX13_drawn_168 (lv_at hl 1 rfl) ?_
              refine lv_aload_n hx hb dX13_drawn_170 rfl (lv_at hl 2 rfl) ?_
              refine lv_iload_n hx hb dX13_drawn_171 rfl (lv_at hl 3 rfl) ?_
              refine lv_iconst (v := 1) hx hb dX13_drawn_172 (by decide) ?_
              refine lv_bipush (v := 40) hx hb dX13_drawn_173 (by decide) ?_
              refine q_cq (va_runS (As := [.ref r, .int (nI pn), .int 1, .int 40]) (rest := [.ref n]) ⟨hx, hb, hml, hown, hts⟩ (kX16_drawn_1 l E (va_up f_134 n (some (cLA 6 (nI j_134) none (some (n + 1)) (some ((n + 1) + 1)) (some ((n + 1) + 2)) (some ((n + 1) + 3)) none))) n_134 r pn 40 s1_134 (q_ne (by omega) e0_134) hp1 hp2 (by decide) (by decide)) (va_cwS 4 hts gX13_drawn_X16_drawn rfl rfl rfl (by decide +kernel) ⟨(Nat.le_of_ble_eq_true rfl), (Nat.le_of_ble_eq_true rfl)⟩) (q_pS hA hW hS) rfl rfl hl.1 rfl (lv_room (Nat.le_of_ble_eq_true rfl)) dX13_drawn_175 ⟨(by show _ ≤ 1317; omega), (by show _ ≤ 3654; omega)⟩) hS (fun r_175 f_175 n_175 H locs hp hW hS => ?_)
              obtain ⟨a_175, s1_175, D_175, V_175, rfl, e0_175, en_175, eN_175, hfr_175⟩ := hp
              have l_e0_175 := hW.lt e0_175
              have hla_175 : f_175 la = some (aI E 1 g) := (hfr_175 _ (by omega) (by omega)).trans (q_ne (by omega) hla_134)
              have hn_175 : f_175 n = some (cLA 6 (nI j_134) none (some (n + 1)) (some ((n + 1) + 1)) (some ((n + 1) + 2)) (some ((n + 1) + 3)) none) := (hfr_175 _ (by omega) (by omega)).trans q_eq
              have hn___1_175 : f_175 (n + 1) = some (aI E 0 (fun _ => 0)) := (hfr_175 _ (by omega) (by omega)).trans (q_ne (by omega) hn___1_134)
              have hn___2_175 : f_175 (n + 2) = some (aQ E 7 0 (fun _ => none)) := (hfr_175 _ (by omega) (by omega)).trans (q_ne (by omega) hn___2_134)
              have hn___3_175 : f_175 (n + 3) = some (aQ E 7 0 (fun _ => none)) := (hfr_175 _ (by omega) (by omega)).trans (q_ne (by omega) hn___3_134)
              have hn___4_175 : f_175 (n + 4) = some (aQ E 6 0 (fun _ => none)) := (hfr_175 _ (by omega) (by omega)).trans (q_ne (by omega) hn___4_134)
              refine q_put hx hb hts hown hA hW hS iX13 tyX13 tyX13_ok nmX13 hn_175 rfl 2 (by decide) (hts (.fieldLink RX13 47 "HighRecipesLaw$Act" "value" "LHighRecipesLaw$Node;") (by decide +kernel)) (fun _ h9 => h9) rfl rfl rfl (Nat.le_of_ble_eq_true rfl) dX13_drawn_178 (fun H locs hW hS => ?_)
              have hW : q_W E (va_up f_175 n (some (cLA 6 (nI j_134) (some a_175) (some (n + 1)) (some ((n + 1) + 1)) (some ((n + 1) + 2)) (some ((n + 1) + 3)) none))) n_175 H := hW
              refine lv_goto (tgt := 283) hx hb dX13_drawn_181 (by decide) ?_
              refine lv_aload hx hb dX13_drawn_283 (lv_at hl 1 rfl) ?_
              refine q_get hx hb hts hown hA hW iX13 q_eq rfl 0 (by decide) (hts (.fieldLink RX13 37 "HighRecipesLaw$Act" "does" "I") (by decide +kernel)) (fun _ h9 => h9) (v := .int 6) rfl dX13_drawn_285 ?_
              refine lv_bipush (v := 9) hx hb dX13_drawn_288 (by decide) ?_
              refine lv_icmp_ne (tgt := 392) hx hb dX13_drawn_290 (by decide) (fun c_290 => ?_) (fun c_290 => absurd c_290 (by decide))
              refine lv_aload hx hb dX13_drawn_392 (lv_at hl 1 rfl) ?_
              refine q_get hx hb hts hown hA hW iX13 q_eq rfl 0 (by decide) (hts (.fieldLink RX13 37 "HighRecipesLaw$Act" "does" "I") (by decide +kernel)) (fun _ h9 => h9) (v := .int 6) rfl dX13_drawn_394 ?_
              refine lv_bipush (v := 7) hx hb dX13_drawn_397 (by decide) ?_
              refine lv_icmp_le (tgt := 418) hx hb dX13_drawn_399 (by decide) (fun c_399 => ?_) (fun c_399 => absurd c_399 (by decide))
              refine lv_aload hx hb dX13_drawn_418 (lv_at hl 1 rfl) ?_
              refine q_get hx hb hts hown hA hW iX13 q_eq rfl 0 (by decide) (hts (.fieldLink RX13 37 "HighRecipesLaw$Act" "does" "I") (by decide +kernel)) (fun _ h9 => h9) (v := .int 6) rfl dX13_drawn_420 ?_
              refine lv_bipush (v := 9) hx hb dX13_drawn_423 (by decide) ?_
              refine lv_icmp_ne (tgt := 452) hx hb dX13_drawn_425 (by decide) (fun c_425 => ?_) (fun c_425 => absurd c_425 (by decide))
              refine lv_aload hx hb dX13_drawn_452 (lv_at hl 1 rfl) ?_
              have H175 : ∀ q : Nat, (n_134 ≤ q ∧ q < n_175) → (n ≤ q ∧ q < n_175) ∧ (va_up f_175 n (some (cLA 6 (nI j_134) (some a_175) (some (n + 1)) (some ((n + 1) + 1)) (some ((n + 1) + 2)) (some ((n + 1) + 3)) none))) q = f_175 q := fun q hq => ⟨⟨by omega, by omega⟩, (q_ne (by omega) rfl)⟩
              exact q_aret (v := some n) hx hb hr (Or.inl ⟨_, rfl⟩) hlocks hW hS ⟨n, (k_note D_175), (kt 23 ++ V_175 ++ kt 12), 0, s1_175, g, rfl, (q_ne (by omega) e0_175), (q_ne (by omega) hla_175), (Nat.zero_le _), hg, (by omega), (⟨⟨by omega, by omega⟩, _, _, _, _, _, _, _, _, q_eq, Or.inr (Or.inr (Or.inr (Or.inr (Or.inr (Or.inl ⟨j_134, _, D_175, V_175, ej_134, rfl, rfl, rfl, rfl, (NODE.to H175 eN_175), ⟨⟨by omega, by omega⟩, (show _ = some (aQ E 6 0 (lf [])) from (q_ne (by omega) hn___4_175)), fun x hx => absurd hx List.not_mem_nil⟩, rfl⟩)))))⟩), (fun q g0 g1 g2 => (q_ne (by omega) ((hfr_175 _ (by omega) (by omega)).trans (q_ne (by omega) ((hfr_134 _ (by omega)).trans (q_ne (by omega) ((hfr_22 _ (by omega)).trans ((hfr_4 _ (by omega) (by omega)).trans (q_ne (by omega) rfl)))))))))⟩ (by show _ ≤ 1317; omega) (by show _ ≤ 3654; omega) dX13_drawn_454
        · have g64 : j_22 < 9 := q_gtn (a := 9) (b := j_22) (by decide) c_64 (by omega)
          refine lv_iconst (v := 3) hx hb dX13_drawn_67 (by decide) ?_
          refine lv_goto (tgt := 109) hx hb dX13_drawn_68 (by decide) ?_
          refine q_put hx hb hts hown hA hW hS iX13 tyX13 tyX13_ok nmX13 hn_22 rfl 0 (by decide) (hts (.fieldLink RX13 37 "HighRecipesLaw$Act" "does" "I") (by decide +kernel)) (fun _ h9 => h9) rfl rfl rfl (Nat.le_of_ble_eq_true rfl) dX13_drawn_109 (fun H locs hW hS => ?_)
          have hW : q_W E (va_up f_22 n (some (cLA 3 0 none (some (n + 1)) (some ((n + 1) + 1)) (some ((n + 1) + 2)) (some ((n + 1) + 3)) none))) n_22 H := hW
          refine lv_aload hx hb dX13_drawn_112 (lv_at hl 1 rfl) ?_
          refine lv_aload hx hb dX13_drawn_114 (lv_at hl 1 rfl) ?_
          refine q_get hx hb hts hown hA hW iX13 q_eq rfl 0 (by decide) (hts (.fieldLink RX13 37 "HighRecipesLaw$Act" "does" "I") (by decide +kernel)) (fun _ h9 => h9) (v := .int 3) rfl dX13_drawn_116 ?_
          refine lv_bipush (v := 7) hx hb dX13_drawn_119 (by decide) ?_
          refine lv_icmp_ne (tgt := 132) hx hb dX13_drawn_121 (by decide) (fun c_121 => ?_) (fun c_121 => absurd c_121 (by decide))
          refine lv_aload_n hx hb dX13_drawn_132 rfl (lv_at hl 2 rfl) ?_
          refine lv_iload_n hx hb dX13_drawn_133 rfl (lv_at hl 3 rfl) ?_
          refine q_ci (va_runV (As := [.int (nI pn)]) (rest := [.ref n]) ⟨hx, hb, hml, hown, hts⟩ (kX14_next l E (va_up f_22 n (some (cLA 3 0 none (some (n + 1)) (some ((n + 1) + 1)) (some ((n + 1) + 2)) (some ((n + 1) + 3)) none))) n_22 r pn s1_22 (q_ne (by omega) e0_22) (by omega) (by omega)) (cwV 1 hts gX13_drawn_X14_next rfl rfl rfl (by decide +kernel) ⟨(Nat.le_of_ble_eq_true rfl), (Nat.le_of_ble_eq_true rfl)⟩) (q_pV hA hW hS (ci := 14) rfl (q_ne (by omega) e0_22)) rfl rfl hl.1 rfl (lv_room (Nat.le_of_ble_eq_true rfl)) dX13_drawn_134 ⟨(by show _ ≤ 1317; omega), (by show _ ≤ 3654; omega)⟩) hS (fun r_134 f_134 n_134 H locs hp hW hS => ?_)
          obtain ⟨j_134, s1_134, rfl, e0_134, ej_134, en_134, hfr_134⟩ := hp
          have l_e0_134 := hW.lt e0_134
          have hla_134 : f_134 la = some (aI E 1 g) := (hfr_134 _ (by omega)).trans (q_ne (by omega) hla_22)
          have hn_134 : f_134 n = some (cLA 3 0 none (some (n + 1)) (some ((n + 1) + 1)) (some ((n + 1) + 2)) (some ((n + 1) + 3)) none) := (hfr_134 _ (by omega)).trans q_eq
          have hn___1_134 : f_134 (n + 1) = some (aI E 0 (fun _ => 0)) := (hfr_134 _ (by omega)).trans (q_ne (by omega) hn___1_22)
          have hn___2_134 : f_134 (n + 2) = some (aQ E 7 0 (fun _ => none)) := (hfr_134 _ (by omega)).trans (q_ne (by omega) hn___2_22)
          have hn___3_134 : f_134 (n + 3) = some (aQ E 7 0 (fun _ => none)) := (hfr_134 _ (by omega)).trans (q_ne (by omega) hn___3_22)
          have hn___4_134 : f_134 (n + 4) = some (aQ E 6 0 (fun _ => none)) := (hfr_134 _ (by omega)).trans (q_ne (by omega) hn___4_22)
          refine q_put hx hb hts hown hA hW hS iX13 tyX13 tyX13_ok nmX13 hn_134 rfl 1 (by decide) (hts (.fieldLink RX13 41 "HighRecipesLaw$Act" "whom" "I") (by decide +kernel)) (fun _ h9 => h9) rfl rfl rfl (Nat.le_of_ble_eq_true rfl) dX13_drawn_137 (fun H locs hW hS => ?_)
          have hW : q_W E (va_up f_134 n (some (cLA 3 (nI j_134) none (some (n + 1)) (some ((n + 1) + 1)) (some ((n + 1) + 2)) (some ((n + 1) + 3)) none))) n_134 H := hW
          refine lv_aload hx hb dX13_drawn_140 (lv_at hl 1 rfl) ?_
          refine q_get hx hb hts hown hA hW iX13 q_eq rfl 0 (by decide) (hts (.fieldLink RX13 37 "HighRecipesLaw$Act" "does" "I") (by decide +kernel)) (fun _ h9 => h9) (v := .int 3) rfl dX13_drawn_142 ?_
          refine lv_iconst (v := 2) hx hb dX13_drawn_145 (by decide) ?_
          refine lv_icmp_lt (tgt := 168) hx hb dX13_drawn_146 (by decide) (fun c_146 => absurd c_146 (by decide)) (fun c_146 => ?_)
          refine lv_aload hx hb dX13_drawn_149 (lv_at hl 1 rfl) ?_
          refine q_get hx hb hts hown hA hW iX13 q_eq rfl 0 (by decide) (hts (.fieldLink RX13 37 "HighRecipesLaw$Act" "does" "I") (by decide +kernel)) (fun _ h9 => h9) (v := .int 3) rfl dX13_drawn_151 ?_
          refine lv_iconst (v := 5) hx hb dX13_drawn_154 (by decide) ?_
          refine lv_icmp_eq (tgt := 168) hx hb dX13_drawn_155 (by decide) (fun c_155 => absurd c_155 (by decide)) (fun c_155 => ?_)
          refine lv_aload hx hb dX13_drawn_158 (lv_at hl 1 rfl) ?_
          refine q_get hx hb hts hown hA hW iX13 q_eq rfl 0 (by decide) (hts (.fieldLink RX13 37 "HighRecipesLaw$Act" "does" "I") (by decide +kernel)) (fun _ h9 => h9) (v := .int 3) rfl dX13_drawn_160 ?_
          refine lv_bipush (v := 6) hx hb dX13_drawn_163 (by decide) ?_
          refine lv_icmp_ne (tgt := 184) hx hb dX13_drawn_165 (by decide) (fun c_165 => ?_) (fun c_165 => absurd c_165 (by decide))
          refine lv_aload hx hb dX13_drawn_184 (lv_at hl 1 rfl) ?_
          refine q_get hx hb hts hown hA hW iX13 q_eq rfl 0 (by decide) (hts (.fieldLink RX13 37 "HighRecipesLaw$Act" "does" "I") (by decide +kernel)) (fun _ h9 => h9) (v := .int 3) rfl dX13_drawn_186 ?_
          refine lv_iconst (v := 2) hx hb dX13_drawn_189 (by decide) ?_
          refine lv_icmp_ne (tgt := 210) hx hb dX13_drawn_190 (by decide) (fun c_190 => ?_) (fun c_190 => absurd c_190 (by decide))
          refine lv_aload hx hb dX13_drawn_210 (lv_at hl 1 rfl) ?_
          refine q_get hx hb hts hown hA hW iX13 q_eq rfl 0 (by decide) (hts (.fieldLink RX13 37 "HighRecipesLaw$Act" "does" "I") (by decide +kernel)) (fun _ h9 => h9) (v := .int 3) rfl dX13_drawn_212 ?_
          refine lv_iconst (v := 3) hx hb dX13_drawn_215 (by decide) ?_
          refine lv_icmp_ne (tgt := 235) hx hb dX13_drawn_216 (by decide) (fun c_216 => absurd c_216 (by decide)) (fun c_216 => ?_)
          refine lv_aload hx hb dX13_drawn_219 (lv_at hl 1 rfl) ?_
          refine lv_aload_n hx hb dX13_drawn_221 rfl (lv_at hl 2 rfl) ?_
          refine lv_iload_n hx hb dX13_drawn_222 rfl (lv_at hl 3 rfl) ?_
          refine lv_iconst (v := 1) hx hb dX13_drawn_223 (by decide) ?_
          refine lv_bipush (v := 60) hx hb dX13_drawn_224 (by decide) ?_
          refine q_cq (va_runS (As := [.ref r, .int (nI pn), .int 1, .int 60]) (rest := [.ref n]) ⟨hx, hb, hml, hown, hts⟩ (kX16_drawn_1 l E (va_up f_134 n (some (cLA 3 (nI j_134) none (some (n + 1)) (some ((n + 1) + 1)) (some ((n + 1) + 2)) (some ((n + 1) + 3)) none))) n_134 r pn 60 s1_134 (q_ne (by omega) e0_134) hp1 hp2 (by decide) (by decide)) (va_cwS 4 hts gX13_drawn_X16_drawn rfl rfl rfl (by decide +kernel) ⟨(Nat.le_of_ble_eq_true rfl), (Nat.le_of_ble_eq_true rfl)⟩) (q_pS hA hW hS) rfl rfl hl.1 rfl (lv_room (Nat.le_of_ble_eq_true rfl)) dX13_drawn_226 ⟨(by show _ ≤ 1317; omega), (by show _ ≤ 3654; omega)⟩) hS (fun r_226 f_226 n_226 H locs hp hW hS => ?_)
          obtain ⟨a_226, s1_226, D_226, V_226, rfl, e0_226, en_226, eN_226, hfr_226⟩ := hp
          have l_e0_226 := hW.lt e0_226
          have hla_226 : f_226 la = some (aI E 1 g) := (hfr_226 _ (by omega) (by omega)).trans (q_ne (by omega) hla_134)
          have hn_226 : f_226 n = some (cLA 3 (nI j_134) none (some (n + 1)) (some ((n + 1) + 1)) (some ((n + 1) + 2)) (some ((n + 1) + 3)) none) := (hfr_226 _ (by omega) (by omega)).trans q_eq
          have hn___1_226 : f_226 (n + 1) = some (aI E 0 (fun _ => 0)) := (hfr_226 _ (by omega) (by omega)).trans (q_ne (by omega) hn___1_134)
          have hn___2_226 : f_226 (n + 2) = some (aQ E 7 0 (fun _ => none)) := (hfr_226 _ (by omega) (by omega)).trans (q_ne (by omega) hn___2_134)
          have hn___3_226 : f_226 (n + 3) = some (aQ E 7 0 (fun _ => none)) := (hfr_226 _ (by omega) (by omega)).trans (q_ne (by omega) hn___3_134)
          have hn___4_226 : f_226 (n + 4) = some (aQ E 6 0 (fun _ => none)) := (hfr_226 _ (by omega) (by omega)).trans (q_ne (by omega) hn___4_134)
          refine q_put hx hb hts hown hA hW hS iX13 tyX13 tyX13_ok nmX13 hn_226 rfl 2 (by decide) (hts (.fieldLink RX13 47 "HighRecipesLaw$Act" "value" "LHighRecipesLaw$Node;") (by decide +kernel)) (fun _ h9 => h9) rfl rfl rfl (Nat.le_of_ble_eq_true rfl) dX13_drawn_229 (fun H locs hW hS => ?_)
          have hW : q_W E (va_up f_226 n (some (cLA 3 (nI j_134) (some a_226) (some (n + 1)) (some ((n + 1) + 1)) (some ((n + 1) + 2)) (some ((n + 1) + 3)) none))) n_226 H := hW
          refine lv_goto (tgt := 283) hx hb dX13_drawn_232 (by decide) ?_
          refine lv_aload hx hb dX13_drawn_283 (lv_at hl 1 rfl) ?_
          refine q_get hx hb hts hown hA hW iX13 q_eq rfl 0 (by decide) (hts (.fieldLink RX13 37 "HighRecipesLaw$Act" "does" "I") (by decide +kernel)) (fun _ h9 => h9) (v := .int 3) rfl dX13_drawn_285 ?_
          refine lv_bipush (v := 9) hx hb dX13_drawn_288 (by decide) ?_
          refine lv_icmp_ne (tgt := 392) hx hb dX13_drawn_290 (by decide) (fun c_290 => ?_) (fun c_290 => absurd c_290 (by decide))
          refine lv_aload hx hb dX13_drawn_392 (lv_at hl 1 rfl) ?_
          refine q_get hx hb hts hown hA hW iX13 q_eq rfl 0 (by decide) (hts (.fieldLink RX13 37 "HighRecipesLaw$Act" "does" "I") (by decide +kernel)) (fun _ h9 => h9) (v := .int 3) rfl dX13_drawn_394 ?_
          refine lv_bipush (v := 7) hx hb dX13_drawn_397 (by decide) ?_
          refine lv_icmp_le (tgt := 418) hx hb dX13_drawn_399 (by decide) (fun c_399 => ?_) (fun c_399 => absurd c_399 (by decide))
          refine lv_aload hx hb dX13_drawn_418 (lv_at hl 1 rfl) ?_
          refine q_get hx hb hts hown hA hW iX13 q_eq rfl 0 (by decide) (hts (.fieldLink RX13 37 "HighRecipesLaw$Act" "does" "I") (by decide +kernel)) (fun _ h9 => h9) (v := .int 3) rfl dX13_drawn_420 ?_
          refine lv_bipush (v := 9) hx hb dX13_drawn_423 (by decide) ?_
          refine lv_icmp_ne (tgt := 452) hx hb dX13_drawn_425 (by decide) (fun c_425 => ?_) (fun c_425 => absurd c_425 (by decide))
          refine lv_aload hx hb dX13_drawn_452 (lv_at hl 1 rfl) ?_
          have H226 : ∀ q : Nat, (n_134 ≤ q ∧ q < n_226) → (n ≤ q ∧ q < n_226) ∧ (va_up f_226 n (some (cLA 3 (nI j_134) (some a_226) (some (n + 1)) (some ((n + 1) + 1)) (some ((n + 1) + 2)) (some ((n + 1) + 3)) none))) q = f_226 q := fun q hq => ⟨⟨by omega, by omega⟩, (q_ne (by omega) rfl)⟩
          exact q_aret (v := some n) hx hb hr (Or.inl ⟨_, rfl⟩) hlocks hW hS ⟨n, (k_boil pn j_134 D_226), (kt 17 ++ pT j_134 ++ kt 18 ++ V_226 ++ kt 19), 0, s1_226, g, rfl, (q_ne (by omega) e0_226), (q_ne (by omega) hla_226), (Nat.zero_le _), hg, (by omega), (⟨⟨by omega, by omega⟩, _, _, _, _, _, _, _, _, q_eq, Or.inr (Or.inr (Or.inl ⟨j_134, _, D_226, V_226, ej_134, rfl, rfl, rfl, rfl, (NODE.to H226 eN_226), ⟨⟨by omega, by omega⟩, (show _ = some (aQ E 6 0 (lf [])) from (q_ne (by omega) hn___4_226)), fun x hx => absurd hx List.not_mem_nil⟩, rfl⟩))⟩), (fun q g0 g1 g2 => (q_ne (by omega) ((hfr_226 _ (by omega) (by omega)).trans (q_ne (by omega) ((hfr_134 _ (by omega)).trans (q_ne (by omega) ((hfr_22 _ (by omega)).trans ((hfr_4 _ (by omega) (by omega)).trans (q_ne (by omega) rfl)))))))))⟩ (by show _ ≤ 1317; omega) (by show _ ≤ 3654; omega) dX13_drawn_454
      · have g53 : j_22 < 7 := q_gtn (a := 7) (b := j_22) (by decide) c_53 (by omega)
        refine lv_iconst (v := 2) hx hb dX13_drawn_56 (by decide) ?_
        refine lv_goto (tgt := 109) hx hb dX13_drawn_57 (by decide) ?_
        refine q_put hx hb hts hown hA hW hS iX13 tyX13 tyX13_ok nmX13 hn_22 rfl 0 (by decide) (hts (.fieldLink RX13 37 "HighRecipesLaw$Act" "does" "I") (by decide +kernel)) (fun _ h9 => h9) rfl rfl rfl (Nat.le_of_ble_eq_true rfl) dX13_drawn_109 (fun H locs hW hS => ?_)
        have hW : q_W E (va_up f_22 n (some (cLA 2 0 none (some (n + 1)) (some ((n + 1) + 1)) (some ((n + 1) + 2)) (some ((n + 1) + 3)) none))) n_22 H := hW
        refine lv_aload hx hb dX13_drawn_112 (lv_at hl 1 rfl) ?_
        refine lv_aload hx hb dX13_drawn_114 (lv_at hl 1 rfl) ?_
        refine q_get hx hb hts hown hA hW iX13 q_eq rfl 0 (by decide) (hts (.fieldLink RX13 37 "HighRecipesLaw$Act" "does" "I") (by decide +kernel)) (fun _ h9 => h9) (v := .int 2) rfl dX13_drawn_116 ?_
        refine lv_bipush (v := 7) hx hb dX13_drawn_119 (by decide) ?_
        refine lv_icmp_ne (tgt := 132) hx hb dX13_drawn_121 (by decide) (fun c_121 => ?_) (fun c_121 => absurd c_121 (by decide))
        refine lv_aload_n hx hb dX13_drawn_132 rfl (lv_at hl 2 rfl) ?_
        refine lv_iload_n hx hb dX13_drawn_133 rfl (lv_at hl 3 rfl) ?_
        refine q_ci (va_runV (As := [.int (nI pn)]) (rest := [.ref n]) ⟨hx, hb, hml, hown, hts⟩ (kX14_next l E (va_up f_22 n (some (cLA 2 0 none (some (n + 1)) (some ((n + 1) + 1)) (some ((n + 1) + 2)) (some ((n + 1) + 3)) none))) n_22 r pn s1_22 (q_ne (by omega) e0_22) (by omega) (by omega)) (cwV 1 hts gX13_drawn_X14_next rfl rfl rfl (by decide +kernel) ⟨(Nat.le_of_ble_eq_true rfl), (Nat.le_of_ble_eq_true rfl)⟩) (q_pV hA hW hS (ci := 14) rfl (q_ne (by omega) e0_22)) rfl rfl hl.1 rfl (lv_room (Nat.le_of_ble_eq_true rfl)) dX13_drawn_134 ⟨(by show _ ≤ 1317; omega), (by show _ ≤ 3654; omega)⟩) hS (fun r_134 f_134 n_134 H locs hp hW hS => ?_)
        obtain ⟨j_134, s1_134, rfl, e0_134, ej_134, en_134, hfr_134⟩ := hp
        have l_e0_134 := hW.lt e0_134
        have hla_134 : f_134 la = some (aI E 1 g) := (hfr_134 _ (by omega)).trans (q_ne (by omega) hla_22)
        have hn_134 : f_134 n = some (cLA 2 0 none (some (n + 1)) (some ((n + 1) + 1)) (some ((n + 1) + 2)) (some ((n + 1) + 3)) none) := (hfr_134 _ (by omega)).trans q_eq
        have hn___1_134 : f_134 (n + 1) = some (aI E 0 (fun _ => 0)) := (hfr_134 _ (by omega)).trans (q_ne (by omega) hn___1_22)
        have hn___2_134 : f_134 (n + 2) = some (aQ E 7 0 (fun _ => none)) := (hfr_134 _ (by omega)).trans (q_ne (by omega) hn___2_22)
        have hn___3_134 : f_134 (n + 3) = some (aQ E 7 0 (fun _ => none)) := (hfr_134 _ (by omega)).trans (q_ne (by omega) hn___3_22)
        have hn___4_134 : f_134 (n + 4) = some (aQ E 6 0 (fun _ => none)) := (hfr_134 _ (by omega)).trans (q_ne (by omega) hn___4_22)
        refine q_put hx hb hts hown hA hW hS iX13 tyX13 tyX13_ok nmX13 hn_134 rfl 1 (by decide) (hts (.fieldLink RX13 41 "HighRecipesLaw$Act" "whom" "I") (by decide +kernel)) (fun _ h9 => h9) rfl rfl rfl (Nat.le_of_ble_eq_true rfl) dX13_drawn_137 (fun H locs hW hS => ?_)
        have hW : q_W E (va_up f_134 n (some (cLA 2 (nI j_134) none (some (n + 1)) (some ((n + 1) + 1)) (some ((n + 1) + 2)) (some ((n + 1) + 3)) none))) n_134 H := hW
        refine lv_aload hx hb dX13_drawn_140 (lv_at hl 1 rfl) ?_
        refine q_get hx hb hts hown hA hW iX13 q_eq rfl 0 (by decide) (hts (.fieldLink RX13 37 "HighRecipesLaw$Act" "does" "I") (by decide +kernel)) (fun _ h9 => h9) (v := .int 2) rfl dX13_drawn_142 ?_
        refine lv_iconst (v := 2) hx hb dX13_drawn_145 (by decide) ?_
        refine lv_icmp_lt (tgt := 168) hx hb dX13_drawn_146 (by decide) (fun c_146 => absurd c_146 (by decide)) (fun c_146 => ?_)
        refine lv_aload hx hb dX13_drawn_149 (lv_at hl 1 rfl) ?_
        refine q_get hx hb hts hown hA hW iX13 q_eq rfl 0 (by decide) (hts (.fieldLink RX13 37 "HighRecipesLaw$Act" "does" "I") (by decide +kernel)) (fun _ h9 => h9) (v := .int 2) rfl dX13_drawn_151 ?_
        refine lv_iconst (v := 5) hx hb dX13_drawn_154 (by decide) ?_
        refine lv_icmp_eq (tgt := 168) hx hb dX13_drawn_155 (by decide) (fun c_155 => absurd c_155 (by decide)) (fun c_155 => ?_)
        refine lv_aload hx hb dX13_drawn_158 (lv_at hl 1 rfl) ?_
        refine q_get hx hb hts hown hA hW iX13 q_eq rfl 0 (by decide) (hts (.fieldLink RX13 37 "HighRecipesLaw$Act" "does" "I") (by decide +kernel)) (fun _ h9 => h9) (v := .int 2) rfl dX13_drawn_160 ?_
        refine lv_bipush (v := 6) hx hb dX13_drawn_163 (by decide) ?_
        refine lv_icmp_ne (tgt := 184) hx hb dX13_drawn_165 (by decide) (fun c_165 => ?_) (fun c_165 => absurd c_165 (by decide))
        refine lv_aload hx hb dX13_drawn_184 (lv_at hl 1 rfl) ?_
        refine q_get hx hb hts hown hA hW iX13 q_eq rfl 0 (by decide) (hts (.fieldLink RX13 37 "HighRecipesLaw$Act" "does" "I") (by decide +kernel)) (fun _ h9 => h9) (v := .int 2) rfl dX13_drawn_186 ?_
        refine lv_iconst (v := 2) hx hb dX13_drawn_189 (by decide) ?_
        refine lv_icmp_ne (tgt := 210) hx hb dX13_drawn_190 (by decide) (fun c_190 => absurd c_190 (by decide)) (fun c_190 => ?_)
        refine lv_aload hx hb dX13_drawn_193 (lv_at hl 1 rfl) ?_
        refine lv_aload_n hx hb dX13_drawn_195 rfl (lv_at hl 2 rfl) ?_
        refine lv_iload_n hx hb dX13_drawn_196 rfl (lv_at hl 3 rfl) ?_
        refine lv_iconst (v := 1) hx hb dX13_drawn_197 (by decide) ?_
        refine lv_sipush (v := 130) hx hb dX13_drawn_198 (by decide) ?_
        refine q_cq (va_runS (As := [.ref r, .int (nI pn), .int 1, .int 130]) (rest := [.ref n]) ⟨hx, hb, hml, hown, hts⟩ (kX16_drawn_1 l E (va_up f_134 n (some (cLA 2 (nI j_134) none (some (n + 1)) (some ((n + 1) + 1)) (some ((n + 1) + 2)) (some ((n + 1) + 3)) none))) n_134 r pn 130 s1_134 (q_ne (by omega) e0_134) hp1 hp2 (by decide) (by decide)) (va_cwS 4 hts gX13_drawn_X16_drawn rfl rfl rfl (by decide +kernel) ⟨(Nat.le_of_ble_eq_true rfl), (Nat.le_of_ble_eq_true rfl)⟩) (q_pS hA hW hS) rfl rfl hl.1 rfl (lv_room (Nat.le_of_ble_eq_true rfl)) dX13_drawn_201 ⟨(by show _ ≤ 1317; omega), (by show _ ≤ 3654; omega)⟩) hS (fun r_201 f_201 n_201 H locs hp hW hS => ?_)
        obtain ⟨a_201, s1_201, D_201, V_201, rfl, e0_201, en_201, eN_201, hfr_201⟩ := hp
        have l_e0_201 := hW.lt e0_201
        have hla_201 : f_201 la = some (aI E 1 g) := (hfr_201 _ (by omega) (by omega)).trans (q_ne (by omega) hla_134)
        have hn_201 : f_201 n = some (cLA 2 (nI j_134) none (some (n + 1)) (some ((n + 1) + 1)) (some ((n + 1) + 2)) (some ((n + 1) + 3)) none) := (hfr_201 _ (by omega) (by omega)).trans q_eq
        have hn___1_201 : f_201 (n + 1) = some (aI E 0 (fun _ => 0)) := (hfr_201 _ (by omega) (by omega)).trans (q_ne (by omega) hn___1_134)
        have hn___2_201 : f_201 (n + 2) = some (aQ E 7 0 (fun _ => none)) := (hfr_201 _ (by omega) (by omega)).trans (q_ne (by omega) hn___2_134)
        have hn___3_201 : f_201 (n + 3) = some (aQ E 7 0 (fun _ => none)) := (hfr_201 _ (by omega) (by omega)).trans (q_ne (by omega) hn___3_134)
        have hn___4_201 : f_201 (n + 4) = some (aQ E 6 0 (fun _ => none)) := (hfr_201 _ (by omega) (by omega)).trans (q_ne (by omega) hn___4_134)
        refine q_put hx hb hts hown hA hW hS iX13 tyX13 tyX13_ok nmX13 hn_201 rfl 2 (by decide) (hts (.fieldLink RX13 47 "HighRecipesLaw$Act" "value" "LHighRecipesLaw$Node;") (by decide +kernel)) (fun _ h9 => h9) rfl rfl rfl (Nat.le_of_ble_eq_true rfl) dX13_drawn_204 (fun H locs hW hS => ?_)
        have hW : q_W E (va_up f_201 n (some (cLA 2 (nI j_134) (some a_201) (some (n + 1)) (some ((n + 1) + 1)) (some ((n + 1) + 2)) (some ((n + 1) + 3)) none))) n_201 H := hW
        refine lv_goto (tgt := 283) hx hb dX13_drawn_207 (by decide) ?_
        refine lv_aload hx hb dX13_drawn_283 (lv_at hl 1 rfl) ?_
        refine q_get hx hb hts hown hA hW iX13 q_eq rfl 0 (by decide) (hts (.fieldLink RX13 37 "HighRecipesLaw$Act" "does" "I") (by decide +kernel)) (fun _ h9 => h9) (v := .int 2) rfl dX13_drawn_285 ?_
        refine lv_bipush (v := 9) hx hb dX13_drawn_288 (by decide) ?_
        refine lv_icmp_ne (tgt := 392) hx hb dX13_drawn_290 (by decide) (fun c_290 => ?_) (fun c_290 => absurd c_290 (by decide))
        refine lv_aload hx hb dX13_drawn_392 (lv_at hl 1 rfl) ?_
        refine q_get hx hb hts hown hA hW iX13 q_eq rfl 0 (by decide) (hts (.fieldLink RX13 37 "HighRecipesLaw$Act" "does" "I") (by decide +kernel)) (fun _ h9 => h9) (v := .int 2) rfl dX13_drawn_394 ?_
        refine lv_bipush (v := 7) hx hb dX13_drawn_397 (by decide) ?_
        refine lv_icmp_le (tgt := 418) hx hb dX13_drawn_399 (by decide) (fun c_399 => ?_) (fun c_399 => absurd c_399 (by decide))
        refine lv_aload hx hb dX13_drawn_418 (lv_at hl 1 rfl) ?_
        refine q_get hx hb hts hown hA hW iX13 q_eq rfl 0 (by decide) (hts (.fieldLink RX13 37 "HighRecipesLaw$Act" "does" "I") (by decide +kernel)) (fun _ h9 => h9) (v := .int 2) rfl dX13_drawn_420 ?_
        refine lv_bipush (v := 9) hx hb dX13_drawn_423 (by decide) ?_
        refine lv_icmp_ne (tgt := 452) hx hb dX13_drawn_425 (by decide) (fun c_425 => ?_) (fun c_425 => absurd c_425 (by decide))
        refine lv_aload hx hb dX13_drawn_452 (lv_at hl 1 rfl) ?_
        have H201 : ∀ q : Nat, (n_134 ≤ q ∧ q < n_201) → (n ≤ q ∧ q < n_201) ∧ (va_up f_201 n (some (cLA 2 (nI j_134) (some a_201) (some (n + 1)) (some ((n + 1) + 1)) (some ((n + 1) + 2)) (some ((n + 1) + 3)) none))) q = f_201 q := fun q hq => ⟨⟨by omega, by omega⟩, (q_ne (by omega) rfl)⟩
        exact q_aret (v := some n) hx hb hr (Or.inl ⟨_, rfl⟩) hlocks hW hS ⟨n, (k_heat pn j_134 D_201), (kt 15 ++ pT j_134 ++ kt 16 ++ V_201 ++ kt 12), 0, s1_201, g, rfl, (q_ne (by omega) e0_201), (q_ne (by omega) hla_201), (Nat.zero_le _), hg, (by omega), (⟨⟨by omega, by omega⟩, _, _, _, _, _, _, _, _, q_eq, Or.inr (Or.inl ⟨j_134, _, D_201, V_201, ej_134, rfl, rfl, rfl, rfl, (NODE.to H201 eN_201), ⟨⟨by omega, by omega⟩, (show _ = some (aQ E 6 0 (lf [])) from (q_ne (by omega) hn___4_201)), fun x hx => absurd hx List.not_mem_nil⟩, rfl⟩)⟩), (fun q g0 g1 g2 => (q_ne (by omega) ((hfr_201 _ (by omega) (by omega)).trans (q_ne (by omega) ((hfr_134 _ (by omega)).trans (q_ne (by omega) ((hfr_22 _ (by omega)).trans ((hfr_4 _ (by omega) (by omega)).trans (q_ne (by omega) rfl)))))))))⟩ (by show _ ≤ 1317; omega) (by show _ ≤ 3654; omega) dX13_drawn_454
    · have g42 : j_22 < 5 := q_gtn (a := 5) (b := j_22) (by decide) c_42 (by omega)
      refine lv_iconst (v := 1) hx hb dX13_drawn_45 (by decide) ?_
      refine lv_goto (tgt := 109) hx hb dX13_drawn_46 (by decide) ?_
      refine q_put hx hb hts hown hA hW hS iX13 tyX13 tyX13_ok nmX13 hn_22 rfl 0 (by decide) (hts (.fieldLink RX13 37 "HighRecipesLaw$Act" "does" "I") (by decide +kernel)) (fun _ h9 => h9) rfl rfl rfl (Nat.le_of_ble_eq_true rfl) dX13_drawn_109 (fun H locs hW hS => ?_)
      have hW : q_W E (va_up f_22 n (some (cLA 1 0 none (some (n + 1)) (some ((n + 1) + 1)) (some ((n + 1) + 2)) (some ((n + 1) + 3)) none))) n_22 H := hW
      refine lv_aload hx hb dX13_drawn_112 (lv_at hl 1 rfl) ?_
      refine lv_aload hx hb dX13_drawn_114 (lv_at hl 1 rfl) ?_
      refine q_get hx hb hts hown hA hW iX13 q_eq rfl 0 (by decide) (hts (.fieldLink RX13 37 "HighRecipesLaw$Act" "does" "I") (by decide +kernel)) (fun _ h9 => h9) (v := .int 1) rfl dX13_drawn_116 ?_
      refine lv_bipush (v := 7) hx hb dX13_drawn_119 (by decide) ?_
      refine lv_icmp_ne (tgt := 132) hx hb dX13_drawn_121 (by decide) (fun c_121 => ?_) (fun c_121 => absurd c_121 (by decide))
      refine lv_aload_n hx hb dX13_drawn_132 rfl (lv_at hl 2 rfl) ?_
      refine lv_iload_n hx hb dX13_drawn_133 rfl (lv_at hl 3 rfl) ?_
      refine q_ci (va_runV (As := [.int (nI pn)]) (rest := [.ref n]) ⟨hx, hb, hml, hown, hts⟩ (kX14_next l E (va_up f_22 n (some (cLA 1 0 none (some (n + 1)) (some ((n + 1) + 1)) (some ((n + 1) + 2)) (some ((n + 1) + 3)) none))) n_22 r pn s1_22 (q_ne (by omega) e0_22) (by omega) (by omega)) (cwV 1 hts gX13_drawn_X14_next rfl rfl rfl (by decide +kernel) ⟨(Nat.le_of_ble_eq_true rfl), (Nat.le_of_ble_eq_true rfl)⟩) (q_pV hA hW hS (ci := 14) rfl (q_ne (by omega) e0_22)) rfl rfl hl.1 rfl (lv_room (Nat.le_of_ble_eq_true rfl)) dX13_drawn_134 ⟨(by show _ ≤ 1317; omega), (by show _ ≤ 3654; omega)⟩) hS (fun r_134 f_134 n_134 H locs hp hW hS => ?_)
      obtain ⟨j_134, s1_134, rfl, e0_134, ej_134, en_134, hfr_134⟩ := hp
      have l_e0_134 := hW.lt e0_134
      have hla_134 : f_134 la = some (aI E 1 g) := (hfr_134 _ (by omega)).trans (q_ne (by omega) hla_22)
      have hn_134 : f_134 n = some (cLA 1 0 none (some (n + 1)) (some ((n + 1) + 1)) (some ((n + 1) + 2)) (some ((n + 1) + 3)) none) := (hfr_134 _ (by omega)).trans q_eq
      have hn___1_134 : f_134 (n + 1) = some (aI E 0 (fun _ => 0)) := (hfr_134 _ (by omega)).trans (q_ne (by omega) hn___1_22)
      have hn___2_134 : f_134 (n + 2) = some (aQ E 7 0 (fun _ => none)) := (hfr_134 _ (by omega)).trans (q_ne (by omega) hn___2_22)
      have hn___3_134 : f_134 (n + 3) = some (aQ E 7 0 (fun _ => none)) := (hfr_134 _ (by omega)).trans (q_ne (by omega) hn___3_22)
      have hn___4_134 : f_134 (n + 4) = some (aQ E 6 0 (fun _ => none)) := (hfr_134 _ (by omega)).trans (q_ne (by omega) hn___4_22)
      refine q_put hx hb hts hown hA hW hS iX13 tyX13 tyX13_ok nmX13 hn_134 rfl 1 (by decide) (hts (.fieldLink RX13 41 "HighRecipesLaw$Act" "whom" "I") (by decide +kernel)) (fun _ h9 => h9) rfl rfl rfl (Nat.le_of_ble_eq_true rfl) dX13_drawn_137 (fun H locs hW hS => ?_)
      have hW : q_W E (va_up f_134 n (some (cLA 1 (nI j_134) none (some (n + 1)) (some ((n + 1) + 1)) (some ((n + 1) + 2)) (some ((n + 1) + 3)) none))) n_134 H := hW
      refine lv_aload hx hb dX13_drawn_140 (lv_at hl 1 rfl) ?_
      refine q_get hx hb hts hown hA hW iX13 q_eq rfl 0 (by decide) (hts (.fieldLink RX13 37 "HighRecipesLaw$Act" "does" "I") (by decide +kernel)) (fun _ h9 => h9) (v := .int 1) rfl dX13_drawn_142 ?_
      refine lv_iconst (v := 2) hx hb dX13_drawn_145 (by decide) ?_
      refine lv_icmp_lt (tgt := 168) hx hb dX13_drawn_146 (by decide) (fun c_146 => ?_) (fun c_146 => absurd c_146 (by decide))
      refine lv_aload hx hb dX13_drawn_168 (lv_at hl 1 rfl) ?_
      refine lv_aload_n hx hb dX13_drawn_170 rfl (lv_at hl 2 rfl) ?_
      refine lv_iload_n hx hb dX13_drawn_171 rfl (lv_at hl 3 rfl) ?_
      refine lv_iconst (v := 1) hx hb dX13_drawn_172 (by decide) ?_
      refine lv_bipush (v := 40) hx hb dX13_drawn_173 (by decide) ?_
      refine q_cq (va_runS (As := [.ref r, .int (nI pn), .int 1, .int 40]) (rest := [.ref n]) ⟨hx, hb, hml, hown, hts⟩ (kX16_drawn_1 l E (va_up f_134 n (some (cLA 1 (nI j_134) none (some (n + 1)) (some ((n + 1) + 1)) (some ((n + 1) + 2)) (some ((n + 1) + 3)) none))) n_134 r pn 40 s1_134 (q_ne (by omega) e0_134) hp1 hp2 (by decide) (by decide)) (va_cwS 4 hts gX13_drawn_X16_drawn rfl rfl rfl (by decide +kernel) ⟨(Nat.le_of_ble_eq_true rfl), (Nat.le_of_ble_eq_true rfl)⟩) (q_pS hA hW hS) rfl rfl hl.1 rfl (lv_room (Nat.le_of_ble_eq_true rfl)) dX13_drawn_175 ⟨(by show _ ≤ 1317; omega), (by show _ ≤ 3654; omega)⟩) hS (fun r_175 f_175 n_175 H locs hp hW hS => ?_)
      obtain ⟨a_175, s1_175, D_175, V_175, rfl, e0_175, en_175, eN_175, hfr_175⟩ := hp
      have l_e0_175 := hW.lt e0_175
      have hla_175 : f_175 la = some (aI E 1 g) := (hfr_175 _ (by omega) (by omega)).trans (q_ne (by omega) hla_134)
      have hn_175 : f_175 n = some (cLA 1 (nI j_134) none (some (n + 1)) (some ((n + 1) + 1)) (some ((n + 1) + 2)) (some ((n + 1) + 3)) none) := (hfr_175 _ (by omega) (by omega)).trans q_eq
      have hn___1_175 : f_175 (n + 1) = some (aI E 0 (fun _ => 0)) := (hfr_175 _ (by omega) (by omega)).trans (q_ne (by omega) hn___1_134)
      have hn___2_175 : f_175 (n + 2) = some (aQ E 7 0 (fun _ => none)) := (hfr_175 _ (by omega) (by omega)).trans (q_ne (by omega) hn___2_134)
      have hn___3_175 : f_175 (n + 3) = some (aQ E 7 0 (fun _ => none)) := (hfr_175 _ (by omega) (by omega)).trans (q_ne (by omega) hn___3_134)
      have hn___4_175 : f_175 (n + 4) = some (aQ E 6 0 (fun _ => none)) := (hfr_175 _ (by omega) (by omega)).trans (q_ne (by omega) hn___4_134)
      refine q_put hx hb hts hown hA hW hS iX13 tyX13 tyX13_ok nmX13 hn_175 rfl 2 (by decide) (hts (.fieldLink RX13 47 "HighRecipesLaw$Act" "value" "LHighRecipesLaw$Node;") (by decide +kernel)) (fun _ h9 => h9) rfl rfl rfl (Nat.le_of_ble_eq_true rfl) dX13_drawn_178 (fun H locs hW hS => ?_)
      have hW : q_W E (va_up f_175 n (some (cLA 1 (nI j_134) (some a_175) (some (n + 1)) (some ((n + 1) + 1)) (some ((n + 1) + 2)) (some ((n + 1) + 3)) none))) n_175 H := hW
      refine lv_goto (tgt := 283) hx hb dX13_drawn_181 (by decide) ?_
      refine lv_aload hx hb dX13_drawn_283 (lv_at hl 1 rfl) ?_
      refine q_get hx hb hts hown hA hW iX13 q_eq rfl 0 (by decide) (hts (.fieldLink RX13 37 "HighRecipesLaw$Act" "does" "I") (by decide +kernel)) (fun _ h9 => h9) (v := .int 1) rfl dX13_drawn_285 ?_
      refine lv_bipush (v := 9) hx hb dX13_drawn_288 (by decide) ?_
      refine lv_icmp_ne (tgt := 392) hx hb dX13_drawn_290 (by decide) (fun c_290 => ?_) (fun c_290 => absurd c_290 (by decide))
      refine lv_aload hx hb dX13_drawn_392 (lv_at hl 1 rfl) ?_
      refine q_get hx hb hts hown hA hW iX13 q_eq rfl 0 (by decide) (hts (.fieldLink RX13 37 "HighRecipesLaw$Act" "does" "I") (by decide +kernel)) (fun _ h9 => h9) (v := .int 1) rfl dX13_drawn_394 ?_
      refine lv_bipush (v := 7) hx hb dX13_drawn_397 (by decide) ?_
      refine lv_icmp_le (tgt := 418) hx hb dX13_drawn_399 (by decide) (fun c_399 => ?_) (fun c_399 => absurd c_399 (by decide))
      refine lv_aload hx hb dX13_drawn_418 (lv_at hl 1 rfl) ?_
      refine q_get hx hb hts hown hA hW iX13 q_eq rfl 0 (by decide) (hts (.fieldLink RX13 37 "HighRecipesLaw$Act" "does" "I") (by decide +kernel)) (fun _ h9 => h9) (v := .int 1) rfl dX13_drawn_420 ?_
      refine lv_bipush (v := 9) hx hb dX13_drawn_423 (by decide) ?_
      refine lv_icmp_ne (tgt := 452) hx hb dX13_drawn_425 (by decide) (fun c_425 => ?_) (fun c_425 => absurd c_425 (by decide))
      refine lv_aload hx hb dX13_drawn_452 (lv_at hl 1 rfl) ?_
      have H175 : ∀ q : Nat, (n_134 ≤ q ∧ q < n_175) → (n ≤ q ∧ q < n_175) ∧ (va_up f_175 n (some (cLA 1 (nI j_134) (some a_175) (some (n + 1)) (some ((n + 1) + 1)) (some ((n + 1) + 2)) (some ((n + 1) + 3)) none))) q = f_175 q := fun q hq => ⟨⟨by omega, by omega⟩, (q_ne (by omega) rfl)⟩
      exact q_aret (v := some n) hx hb hr (Or.inl ⟨_, rfl⟩) hlocks hW hS ⟨n, (k_pour pn j_134 (nI 1) D_175), (kt 6 ++ V_175 ++ kt (11 + 2 * 1) ++ pT j_134 ++ kt (12 + 2 * 1)), 0, s1_175, g, rfl, (q_ne (by omega) e0_175), (q_ne (by omega) hla_175), (Nat.zero_le _), hg, (by omega), (⟨⟨by omega, by omega⟩, _, _, _, _, _, _, _, _, q_eq, Or.inl ⟨1, j_134, _, D_175, V_175, by decide, ej_134, rfl, rfl, rfl, rfl, (NODE.to H175 eN_175), ⟨⟨by omega, by omega⟩, (show _ = some (aQ E 6 0 (lf [])) from (q_ne (by omega) hn___4_175)), fun x hx => absurd hx List.not_mem_nil⟩, rfl⟩⟩), (fun q g0 g1 g2 => (q_ne (by omega) ((hfr_175 _ (by omega) (by omega)).trans (q_ne (by omega) ((hfr_134 _ (by omega)).trans (q_ne (by omega) ((hfr_22 _ (by omega)).trans ((hfr_4 _ (by omega) (by omega)).trans (q_ne (by omega) rfl)))))))))⟩ (by show _ ≤ 1317; omega) (by show _ ≤ 3654; omega) dX13_drawn_454
  · have g32 : j_22 < 3 := q_gtn (a := 3) (b := j_22) (by decide) c_32 (by omega)
    refine lv_iconst (v := 0) hx hb dX13_drawn_35 (by decide) ?_
    refine lv_goto (tgt := 109) hx hb dX13_drawn_36 (by decide) ?_
    refine q_put hx hb hts hown hA hW hS iX13 tyX13 tyX13_ok nmX13 hn_22 rfl 0 (by decide) (hts (.fieldLink RX13 37 "HighRecipesLaw$Act" "does" "I") (by decide +kernel)) (fun _ h9 => h9) rfl rfl rfl (Nat.le_of_ble_eq_true rfl) dX13_drawn_109 (fun H locs hW hS => ?_)
    have hW : q_W E (va_up f_22 n (some (cLA 0 0 none (some (n + 1)) (some ((n + 1) + 1)) (some ((n + 1) + 2)) (some ((n + 1) + 3)) none))) n_22 H := hW
    refine lv_aload hx hb dX13_drawn_112 (lv_at hl 1 rfl) ?_
    refine lv_aload hx hb dX13_drawn_114 (lv_at hl 1 rfl) ?_
    refine q_get hx hb hts hown hA hW iX13 q_eq rfl 0 (by decide) (hts (.fieldLink RX13 37 "HighRecipesLaw$Act" "does" "I") (by decide +kernel)) (fun _ h9 => h9) (v := .int 0) rfl dX13_drawn_116 ?_
    refine lv_bipush (v := 7) hx hb dX13_drawn_119 (by decide) ?_
    refine lv_icmp_ne (tgt := 132) hx hb dX13_drawn_121 (by decide) (fun c_121 => ?_) (fun c_121 => absurd c_121 (by decide))
    refine lv_aload_n hx hb dX13_drawn_132 rfl (lv_at hl 2 rfl) ?_
    refine lv_iload_n hx hb dX13_drawn_133 rfl (lv_at hl 3 rfl) ?_
    refine q_ci (va_runV (As := [.int (nI pn)]) (rest := [.ref n]) ⟨hx, hb, hml, hown, hts⟩ (kX14_next l E (va_up f_22 n (some (cLA 0 0 none (some (n + 1)) (some ((n + 1) + 1)) (some ((n + 1) + 2)) (some ((n + 1) + 3)) none))) n_22 r pn s1_22 (q_ne (by omega) e0_22) (by omega) (by omega)) (cwV 1 hts gX13_drawn_X14_next rfl rfl rfl (by decide +kernel) ⟨(Nat.le_of_ble_eq_true rfl), (Nat.le_of_ble_eq_true rfl)⟩) (q_pV hA hW hS (ci := 14) rfl (q_ne (by omega) e0_22)) rfl rfl hl.1 rfl (lv_room (Nat.le_of_ble_eq_true rfl)) dX13_drawn_134 ⟨(by show _ ≤ 1317; omega), (by show _ ≤ 3654; omega)⟩) hS (fun r_134 f_134 n_134 H locs hp hW hS => ?_)
    obtain ⟨j_134, s1_134, rfl, e0_134, ej_134, en_134, hfr_134⟩ := hp
    have l_e0_134 := hW.lt e0_134
    have hla_134 : f_134 la = some (aI E 1 g) := (hfr_134 _ (by omega)).trans (q_ne (by omega) hla_22)
    have hn_134 : f_134 n = some (cLA 0 0 none (some (n + 1)) (some ((n + 1) + 1)) (some ((n + 1) + 2)) (some ((n + 1) + 3)) none) := (hfr_134 _ (by omega)).trans q_eq
    have hn___1_134 : f_134 (n + 1) = some (aI E 0 (fun _ => 0)) := (hfr_134 _ (by omega)).trans (q_ne (by omega) hn___1_22)
    have hn___2_134 : f_134 (n + 2) = some (aQ E 7 0 (fun _ => none)) := (hfr_134 _ (by omega)).trans (q_ne (by omega) hn___2_22)
    have hn___3_134 : f_134 (n + 3) = some (aQ E 7 0 (fun _ => none)) := (hfr_134 _ (by omega)).trans (q_ne (by omega) hn___3_22)
    have hn___4_134 : f_134 (n + 4) = some (aQ E 6 0 (fun _ => none)) := (hfr_134 _ (by omega)).trans (q_ne (by omega) hn___4_22)
    refine q_put hx hb hts hown hA hW hS iX13 tyX13 tyX13_ok nmX13 hn_134 rfl 1 (by decide) (hts (.fieldLink RX13 41 "HighRecipesLaw$Act" "whom" "I") (by decide +kernel)) (fun _ h9 => h9) rfl rfl rfl (Nat.le_of_ble_eq_true rfl) dX13_drawn_137 (fun H locs hW hS => ?_)
    have hW : q_W E (va_up f_134 n (some (cLA 0 (nI j_134) none (some (n + 1)) (some ((n + 1) + 1)) (some ((n + 1) + 2)) (some ((n + 1) + 3)) none))) n_134 H := hW
    refine lv_aload hx hb dX13_drawn_140 (lv_at hl 1 rfl) ?_
    refine q_get hx hb hts hown hA hW iX13 q_eq rfl 0 (by decide) (hts (.fieldLink RX13 37 "HighRecipesLaw$Act" "does" "I") (by decide +kernel)) (fun _ h9 => h9) (v := .int 0) rfl dX13_drawn_142 ?_
    refine lv_iconst (v := 2) hx hb dX13_drawn_145 (by decide) ?_
    refine lv_icmp_lt (tgt := 168) hx hb dX13_drawn_146 (by decide) (fun c_146 => ?_) (fun c_146 => absurd c_146 (by decide))
    refine lv_aload hx hb dX13_drawn_168 (lv_at hl 1 rfl) ?_
    refine lv_aload_n hx hb dX13_drawn_170 rfl (lv_at hl 2 rfl) ?_
    refine lv_iload_n hx hb dX13_drawn_171 rfl (lv_at hl 3 rfl) ?_
    refine lv_iconst (v := 1) hx hb dX13_drawn_172 (by decide) ?_
    refine lv_bipush (v := 40) hx hb dX13_drawn_173 (by decide) ?_
    refine q_cq (va_runS (As := [.ref r, .int (nI pn), .int 1, .int 40]) (rest := [.ref n]) ⟨hx, hb, hml, hown, hts⟩ (kX16_drawn_1 l E (va_up f_134 n (some (cLA 0 (nI j_134) none (some (n + 1)) (some ((n + 1) + 1)) (some ((n + 1) + 2)) (some ((n + 1) + 3)) none))) n_134 r pn 40 s1_134 (q_ne (by omega) e0_134) hp1 hp2 (by decide) (by decide)) (va_cwS 4 hts gX13_drawn_X16_drawn rfl rfl rfl (by decide +kernel) ⟨(Nat.le_of_ble_eq_true rfl), (Nat.le_of_ble_eq_true rfl)⟩) (q_pS hA hW hS) rfl rfl hl.1 rfl (lv_room (Nat.le_of_ble_eq_true rfl)) dX13_drawn_175 ⟨(by show _ ≤ 1317; omega), (by show _ ≤ 3654; omega)⟩) hS (fun r_175 f_175 n_175 H locs hp hW hS => ?_)
    obtain ⟨a_175, s1_175, D_175, V_175, rfl, e0_175, en_175, eN_175, hfr_175⟩ := hp
    have l_e0_175 := hW.lt e0_175
    have hla_175 : f_175 la = some (aI E 1 g) := (hfr_175 _ (by omega) (by omega)).trans (q_ne (by omega) hla_134)
    have hn_175 : f_175 n = some (cLA 0 (nI j_134) none (some (n + 1)) (some ((n + 1) + 1)) (some ((n + 1) + 2)) (some ((n + 1) + 3)) none) := (hfr_175 _ (by omega) (by omega)).trans q_eq
    have hn___1_175 : f_175 (n + 1) = some (aI E 0 (fun _ => 0)) := (hfr_175 _ (by omega) (by omega)).trans (q_ne (by omega) hn___1_134)
    have hn___2_175 : f_175 (n + 2) = some (aQ E 7 0 (fun _ => none)) := (hfr_175 _ (by omega) (by omega)).trans (q_ne (by omega) hn___2_134)
    have hn___3_175 : f_175 (n + 3) = some (aQ E 7 0 (fun _ => none)) := (hfr_175 _ (by omega) (by omega)).trans (q_ne (by omega) hn___3_134)
    have hn___4_175 : f_175 (n + 4) = some (aQ E 6 0 (fun _ => none)) := (hfr_175 _ (by omega) (by omega)).trans (q_ne (by omega) hn___4_134)
    refine q_put hx hb hts hown hA hW hS iX13 tyX13 tyX13_ok nmX13 hn_175 rfl 2 (by decide) (hts (.fieldLink RX13 47 "HighRecipesLaw$Act" "value" "LHighRecipesLaw$Node;") (by decide +kernel)) (fun _ h9 => h9) rfl rfl rfl (Nat.le_of_ble_eq_true rfl) dX13_drawn_178 (fun H locs hW hS => ?_)
    have hW : q_W E (va_up f_175 n (some (cLA 0 (nI j_134) (some a_175) (some (n + 1)) (some ((n + 1) + 1)) (some ((n + 1) + 2)) (some ((n + 1) + 3)) none))) n_175 H := hW
    refine lv_goto (tgt := 283) hx hb dX13_drawn_181 (by decide) ?_
    refine lv_aload hx hb dX13_drawn_283 (lv_at hl 1 rfl) ?_
    refine q_get hx hb hts hown hA hW iX13 q_eq rfl 0 (by decide) (hts (.fieldLink RX13 37 "HighRecipesLaw$Act" "does" "I") (by decide +kernel)) (fun _ h9 => h9) (v := .int 0) rfl dX13_drawn_285 ?_
    refine lv_bipush (v := 9) hx hb dX13_drawn_288 (by decide) ?_
    refine lv_icmp_ne (tgt := 392) hx hb dX13_drawn_290 (by decide) (fun c_290 => ?_) (fun c_290 => absurd c_290 (by decide))
    refine lv_aload hx hb dX13_drawn_392 (lv_at hl 1 rfl) ?_
    refine q_get hx hb hts hown hA hW iX13 q_eq rfl 0 (by decide) (hts (.fieldLink RX13 37 "HighRecipesLaw$Act" "does" "I") (by decide +kernel)) (fun _ h9 => h9) (v := .int 0) rfl dX13_drawn_394 ?_
    refine lv_bipush (v := 7) hx hb dX13_drawn_397 (by decide) ?_
    refine lv_icmp_le (tgt := 418) hx hb dX13_drawn_399 (by decide) (fun c_399 => ?_) (fun c_399 => absurd c_399 (by decide))
    refine lv_aload hx hb dX13_drawn_418 (lv_at hl 1 rfl) ?_
    refine q_get hx hb hts hown hA hW iX13 q_eq rfl 0 (by decide) (hts (.fieldLink RX13 37 "HighRecipesLaw$Act" "does" "I") (by decide +kernel)) (fun _ h9 => h9) (v := .int 0) rfl dX13_drawn_420 ?_
    refine lv_bipush (v := 9) hx hb dX13_drawn_423 (by decide) ?_
    refine lv_icmp_ne (tgt := 452) hx hb dX13_drawn_425 (by decide) (fun c_425 => ?_) (fun c_425 => absurd c_425 (by decide))
    refine lv_aload hx hb dX13_drawn_452 (lv_at hl 1 rfl) ?_
    have H175 : ∀ q : Nat, (n_134 ≤ q ∧ q < n_175) → (n ≤ q ∧ q < n_175) ∧ (va_up f_175 n (some (cLA 0 (nI j_134) (some a_175) (some (n + 1)) (some ((n + 1) + 1)) (some ((n + 1) + 2)) (some ((n + 1) + 3)) none))) q = f_175 q := fun q hq => ⟨⟨by omega, by omega⟩, (q_ne (by omega) rfl)⟩
    exact q_aret (v := some n) hx hb hr (Or.inl ⟨_, rfl⟩) hlocks hW hS ⟨n, (k_pour pn j_134 (nI 0) D_175), (kt 6 ++ V_175 ++ kt (11 + 2 * 0) ++ pT j_134 ++ kt (12 + 2 * 0)), 0, s1_175, g, rfl, (q_ne (by omega) e0_175), (q_ne (by omega) hla_175), (Nat.zero_le _), hg, (by omega), (⟨⟨by omega, by omega⟩, _, _, _, _, _, _, _, _, q_eq, Or.inl ⟨0, j_134, _, D_175, V_175, by decide, ej_134, rfl, rfl, rfl, rfl, (NODE.to H175 eN_175), ⟨⟨by omega, by omega⟩, (show _ = some (aQ E 6 0 (lf [])) from (q_ne (by omega) hn___4_175)), fun x hx => absurd hx List.not_mem_nil⟩, rfl⟩⟩), (fun q g0 g1 g2 => (q_ne (by omega) ((hfr_175 _ (by omega) (by omega)).trans (q_ne (by omega) ((hfr_134 _ (by omega)).trans (q_ne (by omega) ((hfr_22 _ (by omega)).trans ((hfr_4 _ (by omega) (by omega)).trans (q_ne (by omega) rfl)))))))))⟩ (by show _ ≤ 1317; omega) (by show _ ≤ 3654; omega) dX13_drawn_454

set_option maxHeartbeats 4000000 in
set_option maxRecDepth 100000 in
theorem kX13_some_0 (l : Launch) (E : q_E) (f : q_H) (n : Nat) (r la pn R q : Nat) (RS : Nat → q_S) (s : Int32) (g : Nat → Int32) (h0 : f r = some (cDice s)) (h1 : f la = some (aI E 1 g)) (hp1 : 1 ≤ pn) (hp2 : pn ≤ 8) (hR : R ≤ 6) (hq : q ≤ 100) (hg : g 0 = nI q) : Met l yX13_some wsX13_some ({ frames := 24, cells := 5269, slots := 14620, locals := 720 }) (q_P E [.ref r, .int (nI pn), .int (nI R), .int 0, .ref la] f n) (q_Qq E (fun r0 f1 n1 => ∃ (b : Nat) (L : List LT) (s1 : Int32) (g1 : Nat → Int32), some b = r0 ∧ f1 r = some (cDice s1) ∧ f1 la = some (aI E 1 g1) ∧ bC L ≤ q ∧ g1 0 = nI (q - bC L) ∧ n ≤ n1 ∧ LB (fun q => n ≤ q ∧ q < n1) E f1 (LACT E pn R RS (fun q => n ≤ q ∧ q < n1) f1 4) b L ∧ ∀ z9, z9 ≠ r → z9 ≠ la → z9 < n → f1 z9 = f z9)) 5269 14620 (q_ge E) := by
  refine Met.ofW (cc := cX13_some) (maxL := 8) (ret := (some (.array (.object "HighRecipesLaw$Act")))) (by decide) rfl ?_
  intro p0_ e0_ s0_ m0_ args0_ below0_ meth0_ c0_ s1_ B hml hv
  obtain ⟨rfl, hA, hW⟩ := hv
  have hx := B.exec
  have hb := B.bytes
  have hr := B.returns
  have hts := atoms_spec (ws := wsX13_some) B.pre
  have hown : s0_.vm.findClass RX13 = some m0_.cls := findClass_of_methodNamed B.named
  have hlocks := B.notSynchronized
  have hS : va_S (q_ge E) s0_.heap s0_.heap [] := va_S.rf
  have hl := lv_entry ([.ref r, .int (nI pn), .int (nI R), .int 0, .ref la]) (n := 8) (Nat.le_of_ble_eq_true rfl)
  rw [lg_entry_eq]
  generalize (lg_sl ([.ref r, .int (nI pn), .int (nI R), .int 0, .ref la]) ++ List.replicate (8 - (lg_sl ([.ref r, .int (nI pn), .int (nI R), .int 0, .ref la])).length) Slot.unset).toArray = ls at hl ⊢
  have hl : lv_has ls 8 [(0, .ref r), (1, .int (nI pn)), (2, .int (nI R)), (3, .int 0), (4, .ref la)] := hl
  have l_h0 := hW.lt h0
  have l_h1 := hW.lt h1
  have hrl := ne_ab h0 h1
  refine lv_aload_n hx hb dX13_some_0 rfl (lv_at hl 0 rfl) ?_
  refine lv_iload_n hx hb dX13_some_1 rfl (lv_at hl 3 rfl) ?_
  refine lv_if_ne (tgt := 9) hx hb dX13_some_2 (by decide) (fun c_2 => absurd c_2 (by decide)) (fun c_2 => ?_)
  refine lv_iconst (v := 5) hx hb dX13_some_5 (by decide) ?_
  refine lv_goto (tgt := 10) hx hb dX13_some_6 (by decide) ?_
  refine q_ci (va_runV (As := [.int 5]) (rest := []) ⟨hx, hb, hml, hown, hts⟩ (kX14_next l E f n r 5 s h0 (by decide) (by decide)) (cwV 1 hts gX13_some_X14_next rfl rfl rfl (by decide +kernel) ⟨(Nat.le_of_ble_eq_true rfl), (Nat.le_of_ble_eq_true rfl)⟩) (q_pV hA hW hS (ci := 14) rfl h0) rfl rfl hl.1 rfl (lv_room (Nat.le_of_ble_eq_true rfl)) dX13_some_10 ⟨(by show _ ≤ 5269; omega), (by show _ ≤ 14620; omega)⟩) hS (fun r_10 f_10 n_10 H locs hp hW hS => ?_)
  obtain ⟨j_10, s1_10, rfl, e0_10, ej_10, en_10, hfr_10⟩ := hp
  have l_e0_10 := hW.lt e0_10
  have hla_10 : f_10 la = some (aI E 1 g) := (hfr_10 _ (by omega)).trans h1
  refine lv_istore (lv' := [(5, .int (nI j_10)), (0, .ref r), (1, .int (nI pn)), (2, .int (nI R)), (3, .int 0), (4, .ref la)]) hx hb dX13_some_13 hl (by decide) rfl (fun ls hl => ?_)
  refine lv_iload hx hb dX13_some_15 (lv_at hl 0 rfl) ?_
  refine lv_aload hx hb dX13_some_17 (lv_at hl 5 rfl) ?_
  refine lv_iconst (v := 0) hx hb dX13_some_19 (by decide) ?_
  refine q_iald hx hb hA hW hla_10 (vp_in_nI (by decide) (by decide)) dX13_some_20 ?_
  rw [show g (0 : Int32).toNatClampNeg = nI q from hg]
  refine lv_icmp_ge (tgt := 29) hx hb dX13_some_21 (by decide) (fun c_21 => ?_) (fun c_21 => ?_)
  · have h21 : q ≤ j_10 := q_leN (by omega) c_21
    refine lv_aload hx hb dX13_some_29 (lv_at hl 5 rfl) ?_
    refine lv_iconst (v := 0) hx hb dX13_some_31 (by decide) ?_
    refine q_iald hx hb hA hW hla_10 (vp_in_nI (by decide) (by decide)) dX13_some_32 ?_
    rw [show g (0 : Int32).toNatClampNeg = nI q from hg]
    obtain ⟨m, hm, hm1, hm2⟩ : ∃ m, m ≤ q ∧ m < 5 ∧ nI q = nI m := ⟨_, by omega, by omega, rfl⟩
    rw [hm2]
    refine q_newq hx hb hown hA hW hS (hts (.classLink RX13 8 "HighRecipesLaw$Act") (by decide +kernel)) (hA.2.2.2.2.2.2.2.1 "HighRecipesLaw$Act" (by decide +kernel)) 6 rfl (N' := m) (nI_pos (by omega)) (nI_clamp (by omega)) (by show m * 4 ≤ 536870912; omega) (by show _ ≤ 5269; omega) (by show _ ≤ 14620; omega) dX13_some_33 (fun H hW hS => ?_)
    have hW : q_W E (va_up f_10 n_10 (some (aQ E 6 m (fun _ => none)))) (n_10 + 1) H := hW
    refine lv_astore (lv' := [(6, .ref n_10), (5, .int (nI j_10)), (0, .ref r), (1, .int (nI pn)), (2, .int (nI R)), (3, .int 0), (4, .ref la)]) hx hb dX13_some_36 hl (by decide) rfl (fun ls hl => ?_)
    refine lv_aload hx hb dX13_some_38 (lv_at hl 6 rfl) ?_
    refine lv_iconst (v := 0) hx hb dX13_some_40 (by decide) ?_
    refine lv_dup2_11 hx hb dX13_some_41 rfl rfl ?_
    refine q_iald hx hb hA hW (q_ne (by omega) hla_10) (vp_in_nI (by decide) (by decide)) dX13_some_42 ?_
    rw [show g (0 : Int32).toNatClampNeg = nI q from hg]
    refine lv_aload hx hb dX13_some_43 (lv_at hl 0 rfl) ?_
    refine q_alen hx hb hA hW 6 rfl q_eq (v := nI m) rfl dX13_some_45 ?_
    refine lv_isub hx hb dX13_some_46 ?_
    rw [show nI q - nI m = nI (q - m) from pk_sub hm]
    refine q_iast hx hb hA hW hS (q_ne (by omega) hla_10) (vp_in_nI (by decide) (by decide)) dX13_some_47 (fun H locs hW hS => ?_)
    rw [show (0 : Int32).toNatClampNeg = 0 from (by decide)] at hW
    have hW : q_W E (va_up (va_up f_10 n_10 (some (aQ E 6 m (fun _ => none)))) la (some (aI E 1 (upd g 0 (nI (q - m)))))) (n_10 + 1) H := hW
    refine lv_iconst (v := 0) hx hb dX13_some_48 (by decide) ?_
    refine lv_istore (lv' := [(7, .int 0), (6, .ref n_10), (5, .int (nI j_10)), (0, .ref r), (1, .int (nI pn)), (2, .int (nI R)), (3, .int 0), (4, .ref la)]) hx hb dX13_some_49 hl (by decide) rfl (fun ls hl => ?_)
    have K51 : ∀ (fu : Nat) (F : q_H) (N : Nat) (L : List LT) (s9 : Int32) (g9 : Nat → Int32) (b9 : Nat) (hd : F r = some (cDice s9)) (hla : F la = some (aI E 1 g9)) (hb9 : F b9 = some (aQ E 6 m (lf L))) (hLm : L.length ≤ m) (hLq : bC L + m ≤ q + L.length) (hg9 : g9 0 = nI (q + L.length - m - bC L)) (hN : b9 < N) (hnb : n ≤ b9) (hLA : ∀ x ∈ L, LACT E pn R RS (fun q => b9 < q ∧ q < N) F 4 x) (hfr_K51 : ∀ z9, z9 ≠ r → z9 ≠ la → z9 < n → F z9 = f z9) (hm : m - L.length < fu) (H : Heap) (locs : List Loc) (ls : Array Slot), q_W E (F) N H → va_S (q_ge E) s0_.heap H locs → lv_has ls 8 [(0, .ref r), (1, .int (nI pn)), (2, .int (nI R)), (3, .int 0), (4, .ref la), (6, .ref b9), (7, .int (nI L.length))] → W p0_ l e0_ (headSpec wsX13_some ({ frames := 24, cells := 5269, slots := 14620, locals := 720 })).room s0_ m0_ ([.ref r, .int (nI pn), .int (nI R), .int 0, .ref la] : List Value).toArray below0_ meth0_ c0_ H locs (1 + L.length * 1317) (m + L.length * 3654) (MQ below0_ (q_Qq E (fun r0 f1 n1 => ∃ (b : Nat) (L : List LT) (s1 : Int32) (g1 : Nat → Int32), some b = r0 ∧ f1 r = some (cDice s1) ∧ f1 la = some (aI E 1 g1) ∧ bC L ≤ q ∧ g1 0 = nI (q - bC L) ∧ n ≤ n1 ∧ LB (fun q => n ≤ q ∧ q < n1) E f1 (LACT E pn R RS (fun q => n ≤ q ∧ q < n1) f1 4) b L ∧ ∀ z9, z9 ≠ r → z9 ≠ la → z9 < n → f1 z9 = f z9)) ([.ref r, .int (nI pn), .int (nI R), .int 0, .ref la] : List Value).toArray s0_ 5269 14620 (q_ge E)) (F0 m0_ 51 ls []) := by
      intro fu
      induction fu with
      | zero =>
        intro F N L s9 g9 b9 hd hla hb9 hLm hLq hg9 hN hnb hLA hfr_K51 hm
        exact absurd hm (Nat.not_lt_zero _)
      | succ fu ih =>
        intro F N L s9 g9 b9 hd hla hb9 hLm hLq hg9 hN hnb hLA hfr_K51 hm H locs ls hW hS hl
        refine lv_iload hx hb dX13_some_51 (lv_at hl 6 rfl) ?_
        refine lv_aload hx hb dX13_some_53 (lv_at hl 5 rfl) ?_
        refine q_alen hx hb hA hW 6 rfl hb9 (v := nI m) rfl dX13_some_55 ?_
        refine lv_icmp_ge (tgt := 79) hx hb dX13_some_56 (by decide) (fun c_56 => ?_) (fun c_56 => ?_)
        · have eLm : L.length = m := Nat.le_antisymm hLm (q_leN (by omega) c_56)
          refine lv_aload hx hb dX13_some_79 (lv_at hl 5 rfl) ?_
          exact q_aret (v := some b9) hx hb hr (Or.inr ⟨_, rfl⟩) hlocks hW hS ⟨b9, L, s9, g9, rfl, hd, hla, (by omega), (by rw [show q - bC L = q + L.length - m - bC L by omega]; exact hg9), (by omega), ⟨⟨hnb, hN⟩, (by rw [eLm]; exact hb9), (fun x hx => LACT.to (fun q (hq : b9 < q ∧ q < N) => ⟨⟨by omega, by omega⟩, rfl⟩) (Nat.le_refl _) (fun _ _ => rfl) 4 x (hLA x hx))⟩, (fun q g0 g1 g2 => ((hfr_K51 _ (by omega) (by omega) (by omega)).trans rfl))⟩ (by show _ ≤ 5269; omega) (by show _ ≤ 14620; omega) dX13_some_81
        · have hlt : L.length < m := q_gtn (by omega) c_56
          refine lv_aload hx hb dX13_some_59 (lv_at hl 5 rfl) ?_
          refine lv_iload hx hb dX13_some_61 (lv_at hl 6 rfl) ?_
          refine lv_aload_n hx hb dX13_some_63 rfl (lv_at hl 0 rfl) ?_
          refine lv_iload_n hx hb dX13_some_64 rfl (lv_at hl 1 rfl) ?_
          refine lv_iload_n hx hb dX13_some_65 rfl (lv_at hl 2 rfl) ?_
          refine lv_iload_n hx hb dX13_some_66 rfl (lv_at hl 3 rfl) ?_
          refine lv_aload hx hb dX13_some_67 (lv_at hl 4 rfl) ?_
          refine q_cq (va_runS (As := [.ref r, .int (nI pn), .int (nI R), .int 0, .ref la]) (rest := [.int (nI L.length), .ref b9]) ⟨hx, hb, hml, hown, hts⟩ (kX13_drawn_0 l E F N r la pn R (q + L.length - m - bC L) RS s9 g9 hd hla hp1 hp2 hR (by omega) hg9) (va_cwS 5 hts gX13_some_X13_drawn rfl rfl rfl (by decide +kernel) ⟨(Nat.le_of_ble_eq_true rfl), (Nat.le_of_ble_eq_true rfl)⟩) (q_pS hA hW hS) rfl rfl hl.1 rfl (lv_room (Nat.le_of_ble_eq_true rfl)) dX13_some_69 ⟨(by show _ ≤ 5269; omega), (by show _ ≤ 14620; omega)⟩) hS (fun r_69 f_69 n_69 H locs hp hW hS => ?_)
          obtain ⟨a_69, S_69, V_69, c_69, s1_69, g1_69, rfl, e0_69, e1_69, ec_69, eg_69, en_69, eA_69, hfr_69⟩ := hp
          have l_e0_69 := hW.lt e0_69
          have l_e1_69 := hW.lt e1_69
          have hb9_69 : f_69 b9 = some (aQ E 6 m (lf L)) := (hfr_69 _ (by omega) (by omega) (by omega)).trans hb9
          obtain ⟨do9, wh9, va9, sg9, on9, ot9, b8, el9, hcl⟩ := eA_69.cell
          refine q_aast hx hb hA hW hS 6 rfl hb9_69 hcl rfl (vp_in_nI hlt (by omega)) dX13_some_72 (fun H locs hW hS => ?_)
          rw [show (nI L.length).toNatClampNeg = L.length from (nI_clamp (by omega))] at hW
          rw [show va_up (lf L) L.length (some a_69) = lf (L ++ [(a_69, S_69, V_69, c_69)]) from lf_put (x := (a_69, S_69, V_69, c_69))] at hW
          have hW : q_W E (va_up f_69 b9 (some (aQ E 6 m (lf (L ++ [(a_69, S_69, V_69, c_69)]))))) n_69 H := hW
          refine lv_iinc (v := nI (L ++ [(a_69, S_69, V_69, c_69)]).length) (lv' := [(7, .int (nI (L ++ [(a_69, S_69, V_69, c_69)]).length)), (0, .ref r), (1, .int (nI pn)), (2, .int (nI R)), (3, .int 0), (4, .ref la), (6, .ref b9)]) hx hb dX13_some_73 hl (k := 6) rfl (by rw [List.length_append]; exact nI_1 _) (by decide) rfl (fun ls hl => ?_)
          refine lv_goto (tgt := 51) hx hb dX13_some_76 (by decide) ?_
          rw [show 1 + L.length * 1317 + 1317 = 1 + (L ++ [(a_69, S_69, V_69, c_69)]).length * 1317 by rw [List.length_append]; show _ = 1 + (L.length + 1) * 1317; omega, show m + L.length * 3654 + 3654 = m + (L ++ [(a_69, S_69, V_69, c_69)]).length * 3654 by rw [List.length_append]; show _ = m + (L.length + 1) * 3654; omega]
          have hl9 : (L ++ [(a_69, S_69, V_69, c_69)]).length = L.length + 1 := List.length_append
          exact ih (va_up f_69 b9 (some (aQ E 6 m (lf (L ++ [(a_69, S_69, V_69, c_69)]))))) n_69 (L ++ [(a_69, S_69, V_69, c_69)]) s1_69 g1_69 b9 (q_ne (by omega) e0_69) (q_ne (by omega) e1_69) q_eq (by rw [List.length_append]; exact hlt) (by rw [bC_app, List.length_append]; show bC L + 1 + c_69 + m ≤ q + (L.length + 1); omega) (by rw [bC_app, List.length_append, eg_69]; congr 1; show q + L.length - m - bC L - c_69 = q + (L.length + 1) - m - (bC L + 1 + c_69); omega) (by omega) hnb (fun x hx => (List.mem_append.mp hx).elim (fun h => LACT.to (fun q (hq : b9 < q ∧ q < N) => ⟨⟨by omega, by omega⟩, (q_ne (by omega) ((hfr_69 _ (by omega) (by omega) (by omega)).trans rfl))⟩) (Nat.le_refl _) (fun _ _ => rfl) 4 x (hLA x h)) (fun h => by rw [List.mem_singleton.mp h]; exact LACT.to (fun q (hq : N ≤ q ∧ q < n_69) => ⟨⟨by omega, by omega⟩, (q_ne (by omega) rfl)⟩) (Nat.le_refl _) (fun _ _ => rfl) 4 _ eA_69)) (fun z9 g0 g1 g2 => (q_ne (by omega) ((hfr_69 _ (by omega) (by omega) (by omega)).trans ((hfr_K51 _ (by omega) (by omega) (by omega)).trans rfl)))) (by omega) _ _ _ hW hS (lv_sub hl [1, 2, 3, 4, 5, 6, 0] rfl)
    refine w_eqc (c2 := 1 + ([] : List LT).length * 1317) (s2 := m + ([] : List LT).length * 3654) (by show _ = 1 + 0 * 1317; omega) (by show _ = m + 0 * 3654; omega) ?_
    exact K51 _ (va_up (va_up f_10 n_10 (some (aQ E 6 m (fun _ => none)))) la (some (aI E 1 (upd g 0 (nI (q - m)))))) (n_10 + 1) ([]) s1_10 (upd g 0 (nI (q - m))) n_10 (q_ne (by omega) (q_ne (by omega) e0_10)) q_eq (show _ = some (aQ E 6 m (lf [])) from (q_ne (by omega) q_eq)) (Nat.zero_le _) (by show 0 + m ≤ q + 0; omega) (by show nI (q - m) = nI (q + 0 - m - 0); rfl) (by omega) (by omega) (fun x hx => absurd hx List.not_mem_nil) (fun z9 g0 g1 g2 => (q_ne (by omega) (q_ne (by omega) ((hfr_10 _ (by omega)).trans rfl)))) (Nat.lt_succ_self _) _ _ _ hW hS (lv_sub hl [3, 4, 5, 6, 7, 1, 0] rfl)
  · have h21 : j_10 < q := q_gtn (by omega) c_21
    refine lv_iload hx hb dX13_some_24 (lv_at hl 0 rfl) ?_
    refine lv_goto (tgt := 33) hx hb dX13_some_26 (by decide) ?_
    obtain ⟨m, hm, hm1, hm2⟩ : ∃ m, m ≤ q ∧ m < 5 ∧ nI j_10 = nI m := ⟨_, by omega, by omega, rfl⟩
    rw [hm2]
    refine q_newq hx hb hown hA hW hS (hts (.classLink RX13 8 "HighRecipesLaw$Act") (by decide +kernel)) (hA.2.2.2.2.2.2.2.1 "HighRecipesLaw$Act" (by decide +kernel)) 6 rfl (N' := m) (nI_pos (by omega)) (nI_clamp (by omega)) (by show m * 4 ≤ 536870912; omega) (by show _ ≤ 5269; omega) (by show _ ≤ 14620; omega) dX13_some_33 (fun H hW hS => ?_)
    have hW : q_W E (va_up f_10 n_10 (some (aQ E 6 m (fun _ => none)))) (n_10 + 1) H := hW
    refine lv_astore (lv' := [(6, .ref n_10), (5, .int (nI j_10)), (0, .ref r), (1, .int (nI pn)), (2, .int (nI R)), (3, .int 0), (4, .ref la)]) hx hb dX13_some_36 hl (by decide) rfl (fun ls hl => ?_)
    refine lv_aload hx hb dX13_some_38 (lv_at hl 6 rfl) ?_
    refine lv_iconst (v := 0) hx hb dX13_some_40 (by decide) ?_
    refine lv_dup2_11 hx hb dX13_some_41 rfl rfl ?_
    refine q_iald hx hb hA hW (q_ne (by omega) hla_10) (vp_in_nI (by decide) (by decide)) dX13_some_42 ?_
    rw [show g (0 : Int32).toNatClampNeg = nI q from hg]
    refine lv_aload hx hb dX13_some_43 (lv_at hl 0 rfl) ?_
    refine q_alen hx hb hA hW 6 rfl q_eq (v := nI m) rfl dX13_some_45 ?_
    refine lv_isub hx hb dX13_some_46 ?_
    rw [show nI q - nI m = nI (q - m) from pk_sub hm]
    refine q_iast hx hb hA hW hS (q_ne (by omega) hla_10) (vp_in_nI (by decide) (by decide)) dX13_some_47 (fun H locs hW hS => ?_)
    rw [show (0 : Int32).toNatClampNeg = 0 from (by decide)] at hW
    have hW : q_W E (va_up (va_up f_10 n_10 (some (aQ E 6 m (fun _ => none)))) la (some (aI E 1 (upd g 0 (nI (q - m)))))) (n_10 + 1) H := hW
    refine lv_iconst (v := 0) hx hb dX13_some_48 (by decide) ?_
    refine lv_istore (lv' := [(7, .int 0), (6, .ref n_10), (5, .int (nI j_10)), (0, .ref r), (1, .int (nI pn)), (2, .int (nI R)), (3, .int 0), (4, .ref la)]) hx hb dX13_some_49 hl (by decide) rfl (fun ls hl => ?_)
    have K51 : ∀ (fu : Nat) (F : q_H) (N : Nat) (L : List LT) (s9 : Int32) (g9 : Nat → Int32) (b9 : Nat) (hd : F r = some (cDice s9)) (hla : F la = some (aI E 1 g9)) (hb9 : F b9 = some (aQ E 6 m (lf L))) (hLm : L.length ≤ m) (hLq : bC L + m ≤ q + L.length) (hg9 : g9 0 = nI (q + L.length - m - bC L)) (hN : b9 < N) (hnb : n ≤ b9) (hLA : ∀ x ∈ L, LACT E pn R RS (fun q => b9 < q ∧ q < N) F 4 x) (hfr_K51 : ∀ z9, z9 ≠ r → z9 ≠ la → z9 < n → F z9 = f z9) (hm : m - L.length < fu) (H : Heap) (locs : List Loc) (ls : Array Slot), q_W E (F) N H → va_S (q_ge E) s0_.heap H locs → lv_has ls 8 [(0, .ref r), (1, .int (nI pn)), (2, .int (nI R)), (3, .int 0), (4, .ref la), (6, .ref b9), (7, .int (nI L.length))] → W p0_ l e0_ (headSpec wsX13_some ({ frames := 24, cells := 5269, slots := 14620, locals := 720 })).room s0_ m0_ ([.ref r, .int (nI pn), .int (nI R), .int 0, .ref la] : List Value).toArray below0_ meth0_ c0_ H locs (1 + L.length * 1317) (m + L.length * 3654) (MQ below0_ (q_Qq E (fun r0 f1 n1 => ∃ (b : Nat) (L : List LT) (s1 : Int32) (g1 : Nat → Int32), some b = r0 ∧ f1 r = some (cDice s1) ∧ f1 la = some (aI E 1 g1) ∧ bC L ≤ q ∧ g1 0 = nI (q - bC L) ∧ n ≤ n1 ∧ LB (fun q => n ≤ q ∧ q < n1) E f1 (LACT E pn R RS (fun q => n ≤ q ∧ q < n1) f1 4) b L ∧ ∀ z9, z9 ≠ r → z9 ≠ la → z9 < n → f1 z9 = f z9)) ([.ref r, .int (nI pn), .int (nI R), .int 0, .ref la] : List Value).toArray s0_ 5269 14620 (q_ge E)) (F0 m0_ 51 ls []) := by
      intro fu
      induction fu with
      | zero =>
        intro F N L s9 g9 b9 hd hla hb9 hLm hLq hg9 hN hnb hLA hfr_K51 hm
        exact absurd hm (Nat.not_lt_zero _)
      | succ fu ih =>
        intro F N L s9 g9 b9 hd hla hb9 hLm hLq hg9 hN hnb hLA hfr_K51 hm H locs ls hW hS hl
        refine lv_iload hx hb dX13_some_51 (lv_at hl 6 rfl) ?_
        refine lv_aload hx hb dX13_some_53 (lv_at hl 5 rfl) ?_
        refine q_alen hx hb hA hW 6 rfl hb9 (v := nI m) rfl dX13_some_55 ?_
        refine lv_icmp_ge (tgt := 79) hx hb dX13_some_56 (by decide) (fun c_56 => ?_) (fun c_56 => ?_)
        · have eLm : L.length = m := Nat.le_antisymm hLm (q_leN (by omega) c_56)
          refine lv_aload hx hb dX13_some_79 (lv_at hl 5 rfl) ?_
          exact q_aret (v := some b9) hx hb hr (Or.inr ⟨_, rfl⟩) hlocks hW hS ⟨b9, L, s9, g9, rfl, hd, hla, (by omega), (by rw [show q - bC L = q + L.length - m - bC L by omega]; exact hg9), (by omega), ⟨⟨hnb, hN⟩, (by rw [eLm]; exact hb9), (fun x hx => LACT.to (fun q (hq : b9 < q ∧ q < N) => ⟨⟨by omega, by omega⟩, rfl⟩) (Nat.le_refl _) (fun _ _ => rfl) 4 x (hLA x hx))⟩, (fun q g0 g1 g2 => ((hfr_K51 _ (by omega) (by omega) (by omega)).trans rfl))⟩ (by show _ ≤ 5269; omega) (by show _ ≤ 14620; omega) dX13_some_81
        · have hlt : L.length < m := q_gtn (by omega) c_56
          refine lv_aload hx hb dX13_some_59 (lv_at hl 5 rfl) ?_
          refine lv_iload hx hb dX13_some_61 (lv_at hl 6 rfl) ?_
          refine lv_aload_n hx hb dX13_some_63 rfl (lv_at hl 0 rfl) ?_
          refine lv_iload_n hx hb dX13_some_64 rfl (lv_at hl 1 rfl) ?_
          refine lv_iload_n hx hb dX13_some_65 rfl (lv_at hl 2 rfl) ?_
          refine lv_iload_n hx hb dX13_some_66 rfl (lv_at hl 3 rfl) ?_
          refine lv_aload hx hb dX13_some_67 (lv_at hl 4 rfl) ?_
          refine q_cq (va_runS (As := [.ref r, .int (nI pn), .int (nI R), .int 0, .ref la]) (rest := [.int (nI L.length), .ref b9]) ⟨hx, hb, hml, hown, hts⟩ (kX13_drawn_0 l E F N r la pn R (q + L.length - m - bC L) RS s9 g9 hd hla hp1 hp2 hR (by omega) hg9) (va_cwS 5 hts gX13_some_X13_drawn rfl rfl rfl (by decide +kernel) ⟨(Nat.le_of_ble_eq_true rfl), (Nat.le_of_ble_eq_true rfl)⟩) (q_pS hA hW hS) rfl rfl hl.1 rfl (lv_room (Nat.le_of_ble_eq_true rfl)) dX13_some_69 ⟨(by show _ ≤ 5269; omega), (by show _ ≤ 14620; omega)⟩) hS (fun r_69 f_69 n_69 H locs hp hW hS => ?_)
          obtain ⟨a_69, S_69, V_69, c_69, s1_69, g1_69, rfl, e0_69, e1_69, ec_69, eg_69, en_69, eA_69, hfr_69⟩ := hp
          have l_e0_69 := hW.lt e0_69
          have l_e1_69 := hW.lt e1_69
          have hb9_69 : f_69 b9 = some (aQ E 6 m (lf L)) := (hfr_69 _ (by omega) (by omega) (by omega)).trans hb9
          obtain ⟨do9, wh9, va9, sg9, on9, ot9, b8, el9, hcl⟩ := eA_69.cell
          refine q_aast hx hb hA hW hS 6 rfl hb9_69 hcl rfl (vp_in_nI hlt (by omega)) dX13_some_72 (fun H locs hW hS => ?_)
          rw [show (nI L.length).toNatClampNeg = L.length from (nI_clamp (by omega))] at hW
          rw [show va_up (lf L) L.length (some a_69) = lf (L ++ [(a_69, S_69, V_69, c_69)]) from lf_put (x := (a_69, S_69, V_69, c_69))] at hW
          have hW : q_W E (va_up f_69 b9 (some (aQ E 6 m (lf (L ++ [(a_69, S_69, V_69, c_69)]))))) n_69 H := hW
          refine lv_iinc (v := nI (L ++ [(a_69, S_69, V_69, c_69)]).length) (lv' := [(7, .int (nI (L ++ [(a_69, S_69, V_69, c_69)]).length)), (0, .ref r), (1, .int (nI pn)), (2, .int (nI R)), (3, .int 0), (4, .ref la), (6, .ref b9)]) hx hb dX13_some_73 hl (k := 6) rfl (by rw [List.length_append]; exact nI_1 _) (by decide) rfl (fun ls hl => ?_)
          refine lv_goto (tgt := 51) hx hb dX13_some_76 (by decide) ?_
          rw [show 1 + L.length * 1317 + 1317 = 1 + (L ++ [(a_69, S_69, V_69, c_69)]).length * 1317 by rw [List.length_append]; show _ = 1 + (L.length + 1) * 1317; omega, show m + L.length * 3654 + 3654 = m + (L ++ [(a_69, S_69, V_69, c_69)]).length * 3654 by rw [List.length_append]; show _ = m + (L.length + 1) * 3654; omega]
          have hl9 : (L ++ [(a_69, S_69, V_69, c_69)]).length = L.length + 1 := List.length_append
          exact ih (va_up f_69 b9 (some (aQ E 6 m (lf (L ++ [(a_69, S_69, V_69, c_69)]))))) n_69 (L ++ [(a_69, S_69, V_69, c_69)]) s1_69 g1_69 b9 (q_ne (by omega) e0_69) (q_ne (by omega) e1_69) q_eq (by rw [List.length_append]; exact hlt) (by rw [bC_app, List.length_append]; show bC L + 1 + c_69 + m ≤ q + (L.length + 1); omega) (by rw [bC_app, List.length_append, eg_69]; congr 1; show q + L.length - m - bC L - c_69 = q + (L.length + 1) - m - (bC L + 1 + c_69); omega) (by omega) hnb (fun x hx => (List.mem_append.mp hx).elim (fun h => LACT.to (fun q (hq : b9 < q ∧ q < N) => ⟨⟨by omega, by omega⟩, (q_ne (by omega) ((hfr_69 _ (by omega) (by omega) (by omega)).trans rfl))⟩) (Nat.le_refl _) (fun _ _ => rfl) 4 x (hLA x h)) (fun h => by rw [List.mem_singleton.mp h]; exact LACT.to (fun q (hq : N ≤ q ∧ q < n_69) => ⟨⟨by omega, by omega⟩, (q_ne (by omega) rfl)⟩) (Nat.le_refl _) (fun _ _ => rfl) 4 _ eA_69)) (fun z9 g0 g1 g2 => (q_ne (by omega) ((hfr_69 _ (by omega) (by omega) (by omega)).trans ((hfr_K51 _ (by omega) (by omega) (by omega)).trans rfl)))) (by omega) _ _ _ hW hS (lv_sub hl [1, 2, 3, 4, 5, 6, 0] rfl)
    refine w_eqc (c2 := 1 + ([] : List LT).length * 1317) (s2 := m + ([] : List LT).length * 3654) (by show _ = 1 + 0 * 1317; omega) (by show _ = m + 0 * 3654; omega) ?_
    exact K51 _ (va_up (va_up f_10 n_10 (some (aQ E 6 m (fun _ => none)))) la (some (aI E 1 (upd g 0 (nI (q - m)))))) (n_10 + 1) ([]) s1_10 (upd g 0 (nI (q - m))) n_10 (q_ne (by omega) (q_ne (by omega) e0_10)) q_eq (show _ = some (aQ E 6 m (lf [])) from (q_ne (by omega) q_eq)) (Nat.zero_le _) (by show 0 + m ≤ q + 0; omega) (by show nI (q - m) = nI (q + 0 - m - 0); rfl) (by omega) (by omega) (fun x hx => absurd hx List.not_mem_nil) (fun z9 g0 g1 g2 => (q_ne (by omega) (q_ne (by omega) ((hfr_10 _ (by omega)).trans rfl)))) (Nat.lt_succ_self _) _ _ _ hW hS (lv_sub hl [3, 4, 5, 6, 7, 1, 0] rfl)

