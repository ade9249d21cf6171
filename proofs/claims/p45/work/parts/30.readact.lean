theorem act_n {K : Nat → Nat} {T : Nat} {Wd pN rN : Nat → Int64} {pn rc d0 : Nat} {s : p_S} (hKT : 39 ≤ K T) (h : b_act s.2.1 = true) (hok : p_ok K T s) : s.2.2.2.2.2 + 1 ≤ (p_act K Wd pN pn rN rc (p_blk K Wd pN pn rN rc d0) s).2.2.2.2.2 := by
  have hb := go_beg hKT (b_act_lt h) hok
  have hn : (p_beg K s).2.2.2.2.2 = s.2.2.2.2.2 + 1 := rfl
  have t29 := fun s : p_S => go_take (K := K) (T := T) (s := s) (w := 29) hKT (by decide)
  have hB := fun s => go_blk (Wd := Wd) (pN := pN) (pn := pn) (rN := rN) (rc := rc) hKT d0 s
  have key : p_go K T (p_beg K s) (p_act K Wd pN pn rN rc (p_blk K Wd pN pn rN rc d0) s) := by
    unfold p_act
    split
    · exact (go_val0 hKT 4 _).trans (hB _)
    · split
      · exact ((go_cmps hKT 400 _).trans (hB _)).trans (go_else hKT hB)
      · split
        · exact (((go_val0 hKT 4 _).trans (go_what hKT)).trans (go_known hKT)).trans (t29 _)
        · split
          · exact (((go_known hKT).trans (go_take (w := 8) hKT (by decide))).trans (go_val0 hKT 4 _)).trans (t29 _)
          · split
            · exact (((go_known hKT).trans (go_take (w := 10) hKT (by decide))).trans (go_val0 hKT 4 _)).trans (t29 _)
            · split
              · exact (go_known hKT).trans (t29 _)
              · split
                · exact (go_known hKT).trans (t29 _)
                · exact (go_val0 hKT 4 _).trans (t29 _)
  have := (key hb.1).2.2.1
  omega
theorem cmp_all (l : Launch) (E : q_E) (f : q_H) (px bk T pn rc : Nat) (u : p_S) (kk : Nat → Option Nat) (wo pN rN : Nat → Int64) (K : Nat → Nat) (Wd : Nat → Int64) (f2 : f (px + 2) = some (aQ E 5 401 kk)) (f4 : f (px + 4) = some (aJ E 401 wo)) (g1 : f (bk + 1) = some (aJ E 8 pN)) (g3 : f (bk + 3) = some (aJ E 6 rN)) (hp : PAR E f px bk T pn rc u) (hbk : px + 5 ≤ bk) (hn : bk + 5 ≤ u.2.2.2.2.2) (hT : T ≤ 400) (hkk : ∀ j, j ≤ T → kk j = some (E.2.2.2 (K j))) (hKT : 39 ≤ K T) (hK41 : ∀ j, K j < 41) (hWd : ∀ j, j ≤ T → wo j = Wd j) (hpn : pn ≤ 8) (hrc : rc ≤ 6) (hok : p_ok K T u) : Met l yX8_readCompares wsX8_readCompares ({ frames := 34, cells := (p_cmps K Wd pN pn 400 u).2.2.2.2.2 - u.2.2.2.2.2, slots := 9 * ((p_cmps K Wd pN pn 400 u).2.2.2.2.2 - u.2.2.2.2.2), locals := 950 }) (q_P E [.ref px] f u.2.2.2.2.2) (q_Qq E (CMPq E f px bk T pn rc K Wd pN u)) ((p_cmps K Wd pN pn 400 u).2.2.2.2.2 - u.2.2.2.2.2) (9 * ((p_cmps K Wd pN pn 400 u).2.2.2.2.2 - u.2.2.2.2.2)) (q_ge E) := kX8_readCompares l E f u.2.2.2.2.2 px bk T pn rc u kk wo pN rN K Wd f2 f4 g1 g3 hp hbk hn hT hkk hKT hK41 hWd hpn hrc hok rfl
/-- what readAct leaves, and readBlock -/
def ACTq (E : q_E) (f : q_H) (px bk T pn rc : Nat) (K : Nat → Nat) (Wd pN rN : Nat → Int64) (RS : Nat → q_S) (d d0 : Nat) (u : p_S) : Option Nat → q_H → Nat → Prop := fun r f1 n1 => ∃ (g : q_H) (pan rcp pm : Int32) (val lc blk oth : Option Nat), some u.2.2.2.2.2 = r ∧ pS E g px bk T pn rc (p_act K Wd pN pn rN rc (p_blk K Wd pN pn rN rc d0) u) = f1 ∧ (p_act K Wd pN pn rN rc (p_blk K Wd pN pn rN rc d0) u).2.2.2.2.2 = n1 ∧ (∀ q, q < u.2.2.2.2.2 → q ≠ px → q ≠ px + 1 → q ≠ bk → g q = f q) ∧ g u.2.2.2.2.2 = some (cAct E u.2.1 pan rcp pm val lc blk oth none) ∧ ((p_act K Wd pN pn rN rc (p_blk K Wd pN pn rN rc d0) u).2.1 ≠ 40 → (p_act K Wd pN pn rN rc (p_blk K Wd pN pn rN rc d0) u).2.2.1 = 0 → ∀ o9 : Option Nat, rA E pn u.2.2.2.2.2 (p_act K Wd pN pn rN rc (p_blk K Wd pN pn rN rc d0) u).2.2.2.2.2 (va_up g u.2.2.2.2.2 (some (cAct E u.2.1 pan rcp pm val lc blk oth o9))) RS rc d u.2.2.2.2.2 (p_actS K Wd pN pn rN rc RS (p_blk K Wd pN pn rN rc d0) (p_blkS K Wd pN pn rN rc RS d0) u))
def BLKq (E : q_E) (f : q_H) (px bk T pn rc : Nat) (K : Nat → Nat) (Wd pN rN : Nat → Int64) (RS : Nat → q_S) (d : Nat) (u : p_S) : Option Nat → q_H → Nat → Prop := fun r f1 n1 => ∃ g : q_H, pS E g px bk T pn rc (p_blk K Wd pN pn rN rc d u) = f1 ∧ (p_blk K Wd pN pn rN rc d u).2.2.2.2.2 = n1 ∧ (∀ q, q < u.2.2.2.2.2 → q ≠ px → q ≠ px + 1 → q ≠ bk → g q = f q) ∧ (∀ a, r = some a → u.2.2.2.2.2 ≤ a ∧ ∃ (kd : Nat) (x1 x2 x3 : Int32) (x4 x5 x6 x7 x8 : Option Nat), g a = some (cAct E kd x1 x2 x3 x4 x5 x6 x7 x8)) ∧ ((p_blk K Wd pN pn rN rc d u).2.1 ≠ 40 → (p_blk K Wd pN pn rN rc d u).2.2.1 = 0 → ∃ m, rL E u.2.2.2.2.2 (p_blk K Wd pN pn rN rc d u).2.2.2.2.2 g (rA E pn u.2.2.2.2.2 (p_blk K Wd pN pn rN rc d u).2.2.2.2.2 g RS rc d) m r (p_blkS K Wd pN pn rN rc RS d u))
def RBK (l : Launch) (E : q_E) (RS : Nat → q_S) (d : Nat) : Prop := ∀ (f : q_H) (px bk T pn rc : Nat) (u : p_S) (kk : Nat → Option Nat) (wo pN rN : Nat → Int64) (K : Nat → Nat) (Wd : Nat → Int64), f (px + 2) = some (aQ E 5 401 kk) → f (px + 4) = some (aJ E 401 wo) → f (bk + 1) = some (aJ E 8 pN) → f (bk + 3) = some (aJ E 6 rN) → PAR E f px bk T pn rc u → px + 5 ≤ bk → bk + 5 ≤ u.2.2.2.2.2 → T ≤ 400 → (∀ j, j ≤ T → kk j = some (E.2.2.2 (K j))) → 39 ≤ K T → (∀ j, K j < 41) → (∀ j, j ≤ T → wo j = Wd j) → pn ≤ 8 → rc ≤ 6 → p_ok K T u →
  Met l yX8_readBlock wsX8_readBlock ({ frames := 10 * d + 45, cells := (p_blk K Wd pN pn rN rc d u).2.2.2.2.2 - u.2.2.2.2.2, slots := 9 * ((p_blk K Wd pN pn rN rc d u).2.2.2.2.2 - u.2.2.2.2.2), locals := 100 * d + 1050 }) (q_P E [.ref px, .int (nI (6 - d))] f u.2.2.2.2.2) (q_Qq E (BLKq E f px bk T pn rc K Wd pN rN RS d u)) ((p_blk K Wd pN pn rN rc d u).2.2.2.2.2 - u.2.2.2.2.2) (9 * ((p_blk K Wd pN pn rN rc d u).2.2.2.2.2 - u.2.2.2.2.2)) (q_ge E)
theorem blk_0 {K : Nat → Nat} {Wd pN rN : Nat → Int64} {pn rc d : Nat} {s : p_S} (h : (p_blk K Wd pN pn rN rc d s).2.1 ≠ 40) : 1 ≤ d := by
  cases d with
  | zero =>
    exfalso
    apply h
    show (p_take K 28 (p_step K false s)).2.1 = 40
    unfold p_take
    rw [decide_eq_false (show ¬ (p_step K false s).2.1 = 28 from fun h9 => absurd (show (40 : Nat) = 28 from h9) (by decide))]
    rfl
  | succ d => exact Nat.succ_le_succ (Nat.zero_le _)

set_option maxHeartbeats 4000000 in
set_option maxRecDepth 100000 in
theorem kX8_readAct_12 (l : Launch) (E : q_E) (f : q_H) (n : Nat) (px bk T pn rc : Nat) (u : p_S) (kk : Nat → Option Nat) (wo pN rN : Nat → Int64) (K : Nat → Nat) (Wd : Nat → Int64) (RS : Nat → q_S) (d d0 : Nat) (f2 : f (px + 2) = some (aQ E 5 401 kk)) (f4 : f (px + 4) = some (aJ E 401 wo)) (g1 : f (bk + 1) = some (aJ E 8 pN)) (g3 : f (bk + 3) = some (aJ E 6 rN)) (hp : PAR E f px bk T pn rc u) (hbk : px + 5 ≤ bk) (hn : bk + 5 ≤ n) (hT : T ≤ 400) (hkk : ∀ j, j ≤ T → kk j = some (E.2.2.2 (K j))) (hKT : 39 ≤ K T) (hK41 : ∀ j, K j < 41) (hWd : ∀ j, j ≤ T → wo j = Wd j) (hpn : pn ≤ 8) (hrc : rc ≤ 6) (hok : p_ok K T u) (hsn : n = u.2.2.2.2.2) (hkd : u.2.1 = 12) (hd1 : d = d0 + 1) (hd6 : d ≤ 6) (ihB : RBK l E RS d0) : Met l yX8_readAct wsX8_readAct ({ frames := 10 * d + 40, cells := (p_act K Wd pN pn rN rc (p_blk K Wd pN pn rN rc d0) u).2.2.2.2.2 - u.2.2.2.2.2, slots := 9 * ((p_act K Wd pN pn rN rc (p_blk K Wd pN pn rN rc d0) u).2.2.2.2.2 - u.2.2.2.2.2), locals := 100 * d + 1000 }) (q_P E [.ref px, .int (nI (6 - d))] f n) (q_Qq E (ACTq E f px bk T pn rc K Wd pN rN RS d d0 u)) ((p_act K Wd pN pn rN rc (p_blk K Wd pN pn rN rc d0) u).2.2.2.2.2 - u.2.2.2.2.2) (9 * ((p_act K Wd pN pn rN rc (p_blk K Wd pN pn rN rc d0) u).2.2.2.2.2 - u.2.2.2.2.2)) (q_ge E) := by
  refine Met.ofW (cc := cX8_readAct) (maxL := 3) (ret := (some (.object "HighRecipes$Act"))) (by decide) rfl ?_
  intro p e s m args below meth c s₁ B hml hv
  obtain ⟨rfl, hA, hW⟩ := hv
  have hx := B.exec
  have hb := B.bytes
  have hr := B.returns
  have hts := atoms_spec (ws := wsX8_readAct) B.pre
  have hown : s.vm.findClass RX8 = some m.cls := findClass_of_methodNamed B.named
  have hlocks := B.notSynchronized
  have hS : va_S (q_ge E) s.heap s.heap [] := va_S.rf
  have iX1 : ∀ w ∈ wsX10, w ∈ wsX8_readAct := by decide +kernel
  have iX10 : ∀ w ∈ wsX100, w ∈ wsX8_readAct := by decide +kernel
  have iX8 : ∀ w ∈ wsX80, w ∈ wsX8_readAct := by decide +kernel
  have hl := lv_entry ([.ref px, .int (nI (6 - d))]) (n := 3) (Nat.le_of_ble_eq_true rfl)
  rw [lg_entry_eq]
  generalize (lg_sl ([.ref px, .int (nI (6 - d))]) ++ List.replicate (3 - (lg_sl ([.ref px, .int (nI (6 - d))])).length) Slot.unset).toArray = ls at hl ⊢
  have hl : lv_has ls 3 [(0, .ref px), (1, .int (nI (6 - d)))] := hl
  subst hsn
  rw [hp.eq] at hW
  have hk41 : u.2.1 < 41 := by rcases hok.2.1 with h9 | h9 <;> rw [h9]; decide; exact hK41 _
  have hlt : u.2.1 < 39 := by rw [hkd]; decide
  have okb : p_ok K T (p_beg K u) := p_ok.act (s := p_new u) hok hKT hlt
  have hna : u.2.2.2.2.2 + 1 ≤ (p_act K Wd pN pn rN rc (p_blk K Wd pN pn rN rc d0) u).2.2.2.2.2 := act_n hKT (by rw [hkd]; rfl) hok
  have gob := (go_beg (s := u) hKT hlt hok).2
  have ea : nI (6 - d) + 1 = nI (6 - d0) := by rw [nI_1]; congr 1; omega
  refine q_new (ci := 2) hx hb hts hown hA hW hS iX1 tyX1 tyX1_ok (hts (.classLink RX8 135 RX1) (by decide +kernel)) (hts (.instantiable RX1 9) (by decide +kernel)) (hts (.initialized RX1) (by decide +kernel)) rfl (fs := [.null, .int 0, .int 0, .int 0, .null, .null, .null, .null, .null]) (by decide) (by show 0 + 1 ≤ (p_act K Wd pN pn rN rc (p_blk K Wd pN pn rN rc d0) u).2.2.2.2.2 - u.2.2.2.2.2; omega) (by show 0 + 9 ≤ 9 * ((p_act K Wd pN pn rN rc (p_blk K Wd pN pn rN rc d0) u).2.2.2.2.2 - u.2.2.2.2.2); omega) dX8_readAct_0 (fun H hW hS => ?_)
  have hW : q_W E (va_up (pS E f px bk T pn rc u) u.2.2.2.2.2 (some (rX1 none 0 0 0 none none none none none))) (u.2.2.2.2.2 + 1) H := hW
  rw [pS_iu (by omega) (by omega) (by omega)] at hW
  have hW : q_W E (pS E (va_up f u.2.2.2.2.2 (some (rX1 none 0 0 0 none none none none none))) px bk T pn rc (p_new u)) (u.2.2.2.2.2 + 1) H := hW
  refine lv_dup hx hb dX8_readAct_3 rfl ?_
  refine lv_aload_n hx hb dX8_readAct_4 rfl (lv_at hl 0 rfl) ?_
  refine q_get hx hb hts hown hA hW iX8 pS_p rfl 0 (by decide) (hts (.fieldLink RX8 10 "HighRecipes$Parser" "tokens" "LHighRecipes$Tokens;") (by decide +kernel)) (fun _ h9 => h9) (v := .ref (px + 1)) rfl dX8_readAct_5 ?_
  refine q_getN hx hb hts hown hA hW iX10 pS_t rfl 5 (by decide) (va_Nw.use rfl (hA.2.2.2.1 ("HighRecipes$Parser", 31, "HighRecipes$Tokens", "kind", "LHighRecipes$Kind;", "HighRecipes") (by decide +kernel))) (fun _ h9 => h9) (v := .ref (E.2.2.2 ((p_new u)).2.1)) rfl dX8_readAct_8 ?_
  refine q_cv (va_runI (As := [.ref (E.2.2.2 u.2.1)]) (rest := [.ref u.2.2.2.2.2]) ⟨hx, hb, hml, hown, hts⟩ (kX1_init l E (pS E (va_up f u.2.2.2.2.2 (some (rX1 none 0 0 0 none none none none none))) px bk T pn rc (p_new u)) (u.2.2.2.2.2 + 1) u.2.2.2.2.2 u.2.1 ((pS_out (by omega) (by omega) (by omega)).trans q_eq)) (cwI 1 hts gX8_readAct_X1_init rfl rfl rfl (hts (.initialized RX1) (by decide +kernel)) (hts (.methodLink RX8 146 yX1_init) (by decide +kernel)) (hts (.instanceMethod yX1_init) (by decide +kernel)) rfl (by decide +kernel) ⟨(by show 1 + 1 ≤ 10 * d + 40; omega), (by show 8 + (2 + 11) + 20 ≤ 100 * d + 1000; omega)⟩) (q_pS hA hW hS) rfl rfl hl.1 rfl (lv_room (Nat.le_of_ble_eq_true rfl)) dX8_readAct_11 ⟨(by show 1 + 0 ≤ (p_act K Wd pN pn rN rc (p_blk K Wd pN pn rN rc d0) u).2.2.2.2.2 - u.2.2.2.2.2; omega), (by show 9 + 0 ≤ 9 * ((p_act K Wd pN pn rN rc (p_blk K Wd pN pn rN rc d0) u).2.2.2.2.2 - u.2.2.2.2.2); omega)⟩) hS (fun f_11 n_11 H locs hp hW hS => ?_)
  obtain ⟨rfl, rfl⟩ := hp
  have hW : q_W E (va_up (pS E (va_up f u.2.2.2.2.2 (some (rX1 none 0 0 0 none none none none none))) px bk T pn rc (p_new u)) u.2.2.2.2.2 (some (rX1 (some (E.2.2.2 u.2.1)) (-1) (-1) 0 none none none none none))) (u.2.2.2.2.2 + 1) H := hW
  rw [pS_iu (by omega) (by omega) (by omega)] at hW
  rw [q_upup] at hW
  have hW : q_W E (pS E (va_up f u.2.2.2.2.2 (some (rX1 (some (E.2.2.2 u.2.1)) (-1) (-1) 0 none none none none none))) px bk T pn rc (p_new u)) (u.2.2.2.2.2 + 1) H := hW
  refine lv_astore_n (lv' := [(2, .ref u.2.2.2.2.2), (0, .ref px), (1, .int (nI (6 - d)))]) hx hb dX8_readAct_14 rfl hl (by decide) rfl (fun ls hl => ?_)
  refine lv_aload_n hx hb dX8_readAct_15 rfl (lv_at hl 1 rfl) ?_
  refine q_cv (va_runV (As := []) (rest := []) ⟨hx, hb, hml, hown, hts⟩ (kX8_countAct l E (pS E (va_up f u.2.2.2.2.2 (some (rX1 (some (E.2.2.2 u.2.1)) (-1) (-1) 0 none none none none none))) px bk T pn rc (p_new u)) (u.2.2.2.2.2 + 1) px bk T pn rc (p_new u) kk wo pN rN K Wd ((pS_out (by omega) (by omega) (by omega)).trans (q_ne (by omega) f2)) ((pS_out (by omega) (by omega) (by omega)).trans (q_ne (by omega) f4)) ((pS_out (by omega) (by omega) (by omega)).trans (q_ne (by omega) g1)) ((pS_out (by omega) (by omega) (by omega)).trans (q_ne (by omega) g3)) (pS_K hbk) (by assumption) (by omega) (by assumption) (by assumption) (by assumption) (by assumption) (by assumption) (by assumption) (by assumption) hok.new) (cwV 0 hts gX8_readAct_X8_countAct rfl rfl rfl (by decide +kernel) ⟨(by show 1 + 1 ≤ 10 * d + 40; omega), (by show 8 + (1 + 11) + 21 ≤ 100 * d + 1000; omega)⟩) (q_pV hA hW hS (ci := 8) rfl pS_p) rfl rfl hl.1 rfl (lv_room (Nat.le_of_ble_eq_true rfl)) dX8_readAct_16 ⟨(by show 1 + 0 ≤ (p_act K Wd pN pn rN rc (p_blk K Wd pN pn rN rc d0) u).2.2.2.2.2 - u.2.2.2.2.2; omega), (by show 9 + 0 ≤ 9 * ((p_act K Wd pN pn rN rc (p_blk K Wd pN pn rN rc d0) u).2.2.2.2.2 - u.2.2.2.2.2); omega)⟩) hS (fun f_16 n_16 H locs hp hW hS => ?_)
  obtain ⟨rfl, rfl⟩ := hp
  rw [pS_pS] at hW
  have hW : q_W E (pS E (va_up f u.2.2.2.2.2 (some (rX1 (some (E.2.2.2 u.2.1)) (-1) (-1) 0 none none none none none))) px bk T pn rc (p_cnt (p_new u))) (u.2.2.2.2.2 + 1) H := hW
  refine lv_aload_n hx hb dX8_readAct_19 rfl (lv_at hl 1 rfl) ?_
  refine q_get hx hb hts hown hA hW iX8 pS_p rfl 0 (by decide) (hts (.fieldLink RX8 10 "HighRecipes$Parser" "tokens" "LHighRecipes$Tokens;") (by decide +kernel)) (fun _ h9 => h9) (v := .ref (px + 1)) rfl dX8_readAct_20 ?_
  refine lv_iconst (v := 1) hx hb dX8_readAct_23 (by decide) ?_
  refine q_cv (va_runV (As := [.int 1]) (rest := []) ⟨hx, hb, hml, hown, hts⟩ (kX10_step l E (pS E (va_up f u.2.2.2.2.2 (some (rX1 (some (E.2.2.2 u.2.1)) (-1) (-1) 0 none none none none none))) px bk T pn rc (p_cnt (p_new u))) (u.2.2.2.2.2 + 1) (px + 1) T (p_cnt (p_new u)) kk K true pS_t ((pS_out (by omega) (by omega) (by omega)).trans (q_ne (by omega) f2)) (by assumption) (by assumption) (hok.step hKT (r := true) (fun _ => hlt)).2) (cwV 1 hts gX8_readAct_X10_step rfl rfl rfl (by decide +kernel) ⟨(by show 0 + 1 ≤ 10 * d + 40; omega), (by show 8 + (3 + 11) + 0 ≤ 100 * d + 1000; omega)⟩) (q_pV hA hW hS (ci := 10) rfl pS_t) rfl rfl hl.1 rfl (lv_room (Nat.le_of_ble_eq_true rfl)) dX8_readAct_24 ⟨(by show 1 + 0 ≤ (p_act K Wd pN pn rN rc (p_blk K Wd pN pn rN rc d0) u).2.2.2.2.2 - u.2.2.2.2.2; omega), (by show 9 + 0 ≤ 9 * ((p_act K Wd pN pn rN rc (p_blk K Wd pN pn rN rc d0) u).2.2.2.2.2 - u.2.2.2.2.2); omega)⟩) hS (fun f_24 n_24 H locs hp hW hS => ?_)
  obtain ⟨rfl, rfl⟩ := hp
  have hW : q_W E (va_up (pS E (va_up f u.2.2.2.2.2 (some (rX1 (some (E.2.2.2 u.2.1)) (-1) (-1) 0 none none none none none))) px bk T pn rc (p_cnt (p_new u))) (px + 1) (some (cTS E (px + 1) T (p_step K true (p_cnt (p_new u)))))) (u.2.2.2.2.2 + 1) H := hW
  have hW : q_W E (pS E (va_up f u.2.2.2.2.2 (some (rX1 (some (E.2.2.2 u.2.1)) (-1) (-1) 0 none none none none none))) px bk T pn rc (p_step K true (p_cnt (p_new u)))) (u.2.2.2.2.2 + 1) H := by rw [← pS_st (s := p_cnt (p_new u)) (s' := p_step K true (p_cnt (p_new u))) rfl rfl]; exact hW
  have hW : q_W E (pS E (va_up f u.2.2.2.2.2 (some (rX1 (some (E.2.2.2 u.2.1)) (-1) (-1) 0 none none none none none))) px bk T pn rc (p_step K true (p_cnt (p_new u)))) (u.2.2.2.2.2 + 1) H := hW
  refine va_gets hx hb hA.2.2.1.2.2.2.1.1 hS hown (hts (.fieldLink RX8 151 "HighRecipes$1" "$SwitchMap$HighRecipes$Kind" "[I") (by decide +kernel)) (fun _ h9 => h9) dX8_readAct_27 ?_
  refine lv_aload_n hx hb dX8_readAct_30 rfl (lv_at hl 0 rfl) ?_
  refine q_getN hx hb hts hown hA hW iX1 ((pS_out (by omega) (by omega) (by omega)).trans q_eq) rfl 0 (by decide) (va_Nw.use rfl (hA.2.2.2.1 ("HighRecipes$Parser", 157, "HighRecipes$Act", "kind", "LHighRecipes$Kind;", "HighRecipes") (by decide +kernel))) (fun _ h9 => h9) (v := .ref (E.2.2.2 u.2.1)) rfl dX8_readAct_31 ?_
  refine q_ci (va_runU (As := []) (rest := [.ref (E.2.2.2 101)]) ⟨hx, hb, hml, hown, hts⟩ (q_ordinal l E (pS E (va_up f u.2.2.2.2.2 (some (rX1 (some (E.2.2.2 u.2.1)) (-1) (-1) 0 none none none none none))) px bk T pn rc (p_beg K u)) (u.2.2.2.2.2 + 1) u.2.1 (by rw [hkd]; decide)) (va_cwU 0 hts gX8_readAct_Jx29ce0_ordinal_8abf5_u158X5 rfl rfl rfl rfl (by decide +kernel) ⟨(by show 0 + 1 ≤ 10 * d + 40; omega), (by show 8 + (1 + 11) + 0 ≤ 100 * d + 1000; omega)⟩) ⟨q_P.blind, va_recvE hA.2.2.1.1 (by rw [hkd]; decide) hS, fun U hU hWm => ⟨rfl, hA.go hS hU hWm, by rw [hU]; exact hW⟩⟩ rfl rfl hl.1 rfl (lv_room (Nat.le_of_ble_eq_true rfl)) dX8_readAct_34 ⟨(by show 1 + 0 ≤ (p_act K Wd pN pn rN rc (p_blk K Wd pN pn rN rc d0) u).2.2.2.2.2 - u.2.2.2.2.2; omega), (by show 9 + 0 ≤ 9 * ((p_act K Wd pN pn rN rc (p_blk K Wd pN pn rN rc d0) u).2.2.2.2.2 - u.2.2.2.2.2); omega)⟩) hS (fun r_34 f_34 n_34 H locs hp hW hS => ?_)
  obtain ⟨rfl, rfl, rfl⟩ := hp
  rw [hkd]
  refine va_ti hx hb hA.2.2.1.2.2.2.1.2 hS (vp_in_nI (by decide) (by decide)) (v := .int 8) (by rw [nI_clamp (by decide)]; rfl) dX8_readAct_37 ?_
  refine lv_tableOut (x := 8) (tgt := 304) hx hb dX8_readAct_38 (by decide) (by decide) ?_
  obtain ⟨w1, hu_w1⟩ : ∃ z, p_val K Wd pN pn 4 (p_beg K u) = z := ⟨_, rfl⟩
  have v_w1 := val_n (Wd := Wd) (pN := pN) (pn := pn) (d := 4) hKT okb
  rw [hu_w1] at v_w1
  have ok_w1 := v_w1.1
  have wn1 : u.2.2.2.2.2 + 1 + 1 ≤ w1.2.2.2.2.2 := v_w1.2.2
  have eU : p_act K Wd pN pn rN rc (p_blk K Wd pN pn rN rc d0) u = p_take K 29 (w1) := by unfold p_act; rw [if_neg (by rw [hkd]; decide), if_neg (by rw [hkd]; decide), if_neg (by rw [hkd]; decide), if_neg (by rw [hkd]; decide), if_neg (by rw [hkd]; decide), if_neg (by rw [hkd]; decide), if_neg (by rw [hkd]; decide), hu_w1]
  have eN : (p_act K Wd pN pn rN rc (p_blk K Wd pN pn rN rc d0) u).2.2.2.2.2 = w1.2.2.2.2.2 := by rw [eU]; rfl
  refine lv_aload_n hx hb dX8_readAct_304 rfl (lv_at hl 0 rfl) ?_
  refine lv_aload_n hx hb dX8_readAct_305 rfl (lv_at hl 1 rfl) ?_
  refine lv_iconst (v := 0) hx hb dX8_readAct_306 (by decide) ?_
  refine q_cq (va_runV (As := [.int 0]) (rest := [.ref u.2.2.2.2.2]) ⟨hx, hb, hml, hown, hts⟩ (val_all l E 4 (pS E (va_up f u.2.2.2.2.2 (some (rX1 (some (E.2.2.2 u.2.1)) (-1) (-1) 0 none none none none none))) px bk T pn rc (p_beg K u)) px bk T pn rc (p_beg K u) kk wo pN rN K Wd  ((pS_out (by omega) (by omega) (by omega)).trans (q_ne (by omega) f2)) ((pS_out (by omega) (by omega) (by omega)).trans (q_ne (by omega) f4)) ((pS_out (by omega) (by omega) (by omega)).trans (q_ne (by omega) g1)) ((pS_out (by omega) (by omega) (by omega)).trans (q_ne (by omega) g3)) (pS_K hbk) hbk (by show bk + 5 ≤ u.2.2.2.2.2 + 1; omega) hT hkk hKT hK41 hWd hpn hrc okb (by decide)) (cwV 1 hts gX8_readAct_X8_readValue rfl rfl rfl (by decide +kernel) ⟨(by show 32 + 1 ≤ 10 * d + 40; omega), (by show 8 + (3 + 11) + 880 ≤ 100 * d + 1000; omega)⟩) (q_pV hA hW hS (ci := 8) rfl pS_p) rfl rfl hl.1 rfl (lv_room (Nat.le_of_ble_eq_true rfl)) dX8_readAct_307 ⟨(by rw [hu_w1]; show 1 + (w1.2.2.2.2.2 - (u.2.2.2.2.2 + 1)) ≤ (p_act K Wd pN pn rN rc (p_blk K Wd pN pn rN rc d0) u).2.2.2.2.2 - u.2.2.2.2.2; omega), (by rw [hu_w1]; show 9 + (9 * (w1.2.2.2.2.2 - (u.2.2.2.2.2 + 1))) ≤ 9 * ((p_act K Wd pN pn rN rc (p_blk K Wd pN pn rN rc d0) u).2.2.2.2.2 - u.2.2.2.2.2); omega)⟩) hS (fun r_307 f_307 n_307 H locs hp hW hS => ?_)
  obtain ⟨g_307, rfl, rfl, rfl, fr_307, rep_307⟩ := hp
  rw [hu_w1] at hW rep_307
  rw [hu_w1]
  have fr_307 : ∀ q, q < u.2.2.2.2.2 + 1 → q ≠ px → q ≠ px + 1 → q ≠ bk → g_307 q = (pS E (va_up f u.2.2.2.2.2 (some (rX1 (some (E.2.2.2 u.2.1)) (-1) (-1) 0 none none none none none))) px bk T pn rc (p_beg K u)) q := fr_307
  have fi_307 : ∀ q, q < u.2.2.2.2.2 → q ≠ px → q ≠ px + 1 → q ≠ bk → g_307 q = f q := fun q hq h7 h8 h9 => (fr_307 q (by omega) h7 h8 h9).trans ((pS_out h7 h8 h9).trans (((va_up_ne _ _ (by omega)).trans rfl)))
  have hW : q_W E (pS E g_307 px bk T pn rc w1) (w1.2.2.2.2.2) H := hW
  refine q_putN hx hb hts hown hA hW hS iX1 tyX1 tyX1_ok nmX1 ((pS_out (by omega) (by omega) (by omega)).trans ((fr_307 _ (by omega) (by omega) (by omega) (by omega)).trans ((pS_out (by omega) (by omega) (by omega)).trans q_eq))) rfl 4 (by decide) (va_Nw.use rfl (hA.2.2.2.1 ("HighRecipes$Parser", 166, "HighRecipes$Act", "value", "LHighRecipes$Value;", "HighRecipes") (by decide +kernel))) (fun _ h9 => h9) rfl rfl rfl (Nat.le_of_ble_eq_true rfl) dX8_readAct_310 (fun H locs hW hS => ?_)
  have hW : q_W E (va_up (pS E g_307 px bk T pn rc w1) u.2.2.2.2.2 (some (rX1 (some (E.2.2.2 u.2.1)) (-1) (-1) 0 (some (u.2.2.2.2.2 + 1)) none none none none))) w1.2.2.2.2.2 H := hW
  rw [pS_iu (by omega) (by omega) (by omega)] at hW
  refine lv_aload_n hx hb dX8_readAct_313 rfl (lv_at hl 1 rfl) ?_
  refine q_get hx hb hts hown hA hW iX8 pS_p rfl 0 (by decide) (hts (.fieldLink RX8 10 "HighRecipes$Parser" "tokens" "LHighRecipes$Tokens;") (by decide +kernel)) (fun _ h9 => h9) (v := .ref (px + 1)) rfl dX8_readAct_314 ?_
  refine va_gets (n := "SEMICOLON") (v := .ref (E.2.2.2 29)) hx hb (hA.2.2.1.1.1 29 (by decide)).1 hS hown (hts (.fieldLink RX8 95 "HighRecipes$Kind" "SEMICOLON" "LHighRecipes$Kind;") (by decide +kernel)) (fun _ h9 => h9) dX8_readAct_317 ?_
  refine q_cv (va_runV (As := [.ref (E.2.2.2 29)]) (rest := []) ⟨hx, hb, hml, hown, hts⟩ (kX10_take l E (pS E (va_up g_307 u.2.2.2.2.2 (some (rX1 (some (E.2.2.2 u.2.1)) (-1) (-1) 0 (some (u.2.2.2.2.2 + 1)) none none none none))) px bk T pn rc w1) w1.2.2.2.2.2 (px + 1) T w1 kk K 29 pS_t ((pS_out (by omega) (by omega) (by omega)).trans (q_ne (by omega) ((fr_307 _ (by omega) (by omega) (by omega) (by omega)).trans ((pS_out (by omega) (by omega) (by omega)).trans (q_ne (by omega) f2))))) (by assumption) (by assumption) (by assumption) (by assumption) ok_w1 (by first | assumption | decide)) (cwV 1 hts gX8_readAct_X10_take rfl rfl rfl (by decide +kernel) ⟨(by show 1 + 1 ≤ 10 * d + 40; omega), (by show 8 + (2 + 11) + 22 ≤ 100 * d + 1000; omega)⟩) (q_pV hA hW hS (ci := 10) rfl pS_t) rfl rfl hl.1 rfl (lv_room (Nat.le_of_ble_eq_true rfl)) dX8_readAct_320 ⟨(by show 1 + (w1.2.2.2.2.2 - (u.2.2.2.2.2 + 1)) + 0 ≤ (p_act K Wd pN pn rN rc (p_blk K Wd pN pn rN rc d0) u).2.2.2.2.2 - u.2.2.2.2.2; omega), (by show 9 + (9 * (w1.2.2.2.2.2 - (u.2.2.2.2.2 + 1))) + 0 ≤ 9 * ((p_act K Wd pN pn rN rc (p_blk K Wd pN pn rN rc d0) u).2.2.2.2.2 - u.2.2.2.2.2); omega)⟩) hS (fun f_320 n_320 H locs hp hW hS => ?_)
  obtain ⟨rfl, rfl⟩ := hp
  have hW : q_W E (va_up (pS E (va_up g_307 u.2.2.2.2.2 (some (rX1 (some (E.2.2.2 u.2.1)) (-1) (-1) 0 (some (u.2.2.2.2.2 + 1)) none none none none))) px bk T pn rc w1) (px + 1) (some (cTS E (px + 1) T (p_take K 29 w1)))) w1.2.2.2.2.2 H := hW
  have hW : q_W E (pS E (va_up g_307 u.2.2.2.2.2 (some (rX1 (some (E.2.2.2 u.2.1)) (-1) (-1) 0 (some (u.2.2.2.2.2 + 1)) none none none none))) px bk T pn rc (p_take K 29 w1)) w1.2.2.2.2.2 H := by rw [← pS_st (s := w1) (s' := p_take K 29 w1) rfl rfl]; exact hW
  have hok_320 : p_ok K T (p_take K 29 w1) := ok_w1.take hKT (by first | assumption | decide)
  have hW : q_W E (pS E (va_up g_307 u.2.2.2.2.2 (some (rX1 (some (E.2.2.2 u.2.1)) (-1) (-1) 0 (some (u.2.2.2.2.2 + 1)) none none none none))) px bk T pn rc (p_take K 29 w1)) w1.2.2.2.2.2 H := hW
  refine lv_aload_n hx hb dX8_readAct_323 rfl (lv_at hl 0 rfl) ?_
  have eS : p_actS K Wd pN pn rN rc RS (p_blk K Wd pN pn rN rc d0) (p_blkS K Wd pN pn rN rc RS d0) u = k_rest pn (p_valD K Wd pN pn 4 (p_beg K u)) := by unfold p_actS; rw [if_neg (by rw [hkd]; decide), if_neg (by rw [hkd]; decide), if_neg (by rw [hkd]; decide), if_neg (by rw [hkd]; decide), if_neg (by rw [hkd]; decide), if_neg (by rw [hkd]; decide), if_neg (by rw [hkd]; decide), if_pos hkd]
  have rep : (p_take K 29 (w1)).2.1 ≠ 40 → (p_take K 29 (w1)).2.2.1 = 0 → ∀ o9 : Option Nat, rA E pn u.2.2.2.2.2 (p_take K 29 (w1)).2.2.2.2.2 (va_up (va_up g_307 u.2.2.2.2.2 (some (rX1 (some (E.2.2.2 u.2.1)) (-1) (-1) 0 (some (u.2.2.2.2.2 + 1)) none none none none))) u.2.2.2.2.2 (some (cAct E u.2.1 (-1) (-1) 0 (some (u.2.2.2.2.2 + 1)) none none none o9))) RS rc d u.2.2.2.2.2 (k_rest pn (p_valD K Wd pN pn 4 (p_beg K u))) := by
    intro k1 k2 o9
    have L := (go_take (s := w1) (w := 29) hKT (by decide) ok_w1).2
    have R1 := rep_307 (L.2.2.1 k1) (L.2.2.2 k2)
    rw [hd1]
    refine ⟨u.2.1, _, _, _, _, _, _, _, o9, Nat.le_refl _, (by show u.2.2.2.2.2 < w1.2.2.2.2.2; omega), q_eq, Or.inr (Or.inr (Or.inr (Or.inr (Or.inl ⟨hkd, u.2.2.2.2.2 + 1, _, rfl, rV_frame ?_ (Nat.le_succ _) (Nat.le_refl _) _ _ _ R1, rfl⟩))))⟩
    intro q h1 h2
    have h1 : u.2.2.2.2.2 + 1 ≤ q := h1
    exact (va_up_ne _ _ (by omega)).trans (va_up_ne _ _ (by omega))
  exact q_aret (v := some u.2.2.2.2.2) hx hb hr (Or.inl ⟨_, rfl⟩) hlocks hW hS ⟨_, _, _, _, _, _, _, _, rfl, congrArg (fun z => pS E _ px bk T pn rc z) eU, (by rw [eU]; try rfl), fun q hq h7 h8 h9 => ((va_up_ne _ _ (by omega)).trans (fi_307 q hq h7 h8 h9)), q_eq, fun k1 k2 => by rw [eS]; rw [eU] at k1 k2 ⊢; exact rep k1 k2⟩ (by show 1 + (w1.2.2.2.2.2 - (u.2.2.2.2.2 + 1)) ≤ (p_act K Wd pN pn rN rc (p_blk K Wd pN pn rN rc d0) u).2.2.2.2.2 - u.2.2.2.2.2; omega) (by show 9 + (9 * (w1.2.2.2.2.2 - (u.2.2.2.2.2 + 1))) ≤ 9 * ((p_act K Wd pN pn rN rc (p_blk K Wd pN pn rN rc d0) u).2.2.2.2.2 - u.2.2.2.2.2); omega) dX8_readAct_324

set_option maxHeartbeats 4000000 in
set_option maxRecDepth 100000 in
theorem kX8_readAct_13 (l : Launch) (E : q_E) (f : q_H) (n : Nat) (px bk T pn rc : Nat) (u : p_S) (kk : Nat → Option Nat) (wo pN rN : Nat → Int64) (K : Nat → Nat) (Wd : Nat → Int64) (RS : Nat → q_S) (d d0 : Nat) (f2 : f (px + 2) = some (aQ E 5 401 kk)) (f4 : f (px + 4) = some (aJ E 401 wo)) (g1 : f (bk + 1) = some (aJ E 8 pN)) (g3 : f (bk + 3) = some (aJ E 6 rN)) (hp : PAR E f px bk T pn rc u) (hbk : px + 5 ≤ bk) (hn : bk + 5 ≤ n) (hT : T ≤ 400) (hkk : ∀ j, j ≤ T → kk j = some (E.2.2.2 (K j))) (hKT : 39 ≤ K T) (hK41 : ∀ j, K j < 41) (hWd : ∀ j, j ≤ T → wo j = Wd j) (hpn : pn ≤ 8) (hrc : rc ≤ 6) (hok : p_ok K T u) (hsn : n = u.2.2.2.2.2) (hkd : u.2.1 = 13) (hd1 : d = d0 + 1) (hd6 : d ≤ 6) (ihB : RBK l E RS d0) : Met l yX8_readAct wsX8_readAct ({ frames := 10 * d + 40, cells := (p_act K Wd pN pn rN rc (p_blk K Wd pN pn rN rc d0) u).2.2.2.2.2 - u.2.2.2.2.2, slots := 9 * ((p_act K Wd pN pn rN rc (p_blk K Wd pN pn rN rc d0) u).2.2.2.2.2 - u.2.2.2.2.2), locals := 100 * d + 1000 }) (q_P E [.ref px, .int (nI (6 - d))] f n) (q_Qq E (ACTq E f px bk T pn rc K Wd pN rN RS d d0 u)) ((p_act K Wd pN pn rN rc (p_blk K Wd pN pn rN rc d0) u).2.2.2.2.2 - u.2.2.2.2.2) (9 * ((p_act K Wd pN pn rN rc (p_blk K Wd pN pn rN rc d0) u).2.2.2.2.2 - u.2.2.2.2.2)) (q_ge E) := by
  refine Met.ofW (cc := cX8_readAct) (maxL := 3) (ret := (some (.object "HighRecipes$Act"))) (by decide) rfl ?_
  intro p e s m args below meth c s₁ B hml hv
  obtain ⟨rfl, hA, hW⟩ := hv
  have hx := B.exec
  have hb := B.bytes
  have hr := B.returns
  have hts := atoms_spec (ws := wsX8_readAct) B.pre
  have hown : s.vm.findClass RX8 = some m.cls := findClass_of_methodNamed B.named
  have hlocks := B.notSynchronized
  have hS : va_S (q_ge E) s.heap s.heap [] := va_S.rf
  have iX1 : ∀ w ∈ wsX10, w ∈ wsX8_readAct := by decide +kernel
  have iX10 : ∀ w ∈ wsX100, w ∈ wsX8_readAct := by decide +kernel
  have iX8 : ∀ w ∈ wsX80, w ∈ wsX8_readAct := by decide +kernel
  have hl := lv_entry ([.ref px, .int (nI (6 - d))]) (n := 3) (Nat.le_of_ble_eq_true rfl)
  rw [lg_entry_eq]
  generalize (lg_sl ([.ref px, .int (nI (6 - d))]) ++ List.replicate (3 - (lg_sl ([.ref px, .int (nI (6 - d))])).length) Slot.unset).toArray = ls at hl ⊢
  have hl : lv_has ls 3 [(0, .ref px), (1, .int (nI (6 - d)))] := hl
  subst hsn
  rw [hp.eq] at hW
  have hk41 : u.2.1 < 41 := by rcases hok.2.1 with h9 | h9 <;> rw [h9]; decide; exact hK41 _
  have hlt : u.2.1 < 39 := by rw [hkd]; decide
  have okb : p_ok K T (p_beg K u) := p_ok.act (s := p_new u) hok hKT hlt
  have hna : u.2.2.2.2.2 + 1 ≤ (p_act K Wd pN pn rN rc (p_blk K Wd pN pn rN rc d0) u).2.2.2.2.2 := act_n hKT (by rw [hkd]; rfl) hok
  have gob := (go_beg (s := u) hKT hlt hok).2
  have ea : nI (6 - d) + 1 = nI (6 - d0) := by rw [nI_1]; congr 1; omega
  refine q_new (ci := 2) hx hb hts hown hA hW hS iX1 tyX1 tyX1_ok (hts (.classLink RX8 135 RX1) (by decide +kernel)) (hts (.instantiable RX1 9) (by decide +kernel)) (hts (.initialized RX1) (by decide +kernel)) rfl (fs := [.null, .int 0, .int 0, .int 0, .null, .null, .null, .null, .null]) (by decide) (by show 0 + 1 ≤ (p_act K Wd pN pn rN rc (p_blk K Wd pN pn rN rc d0) u).2.2.2.2.2 - u.2.2.2.2.2; omega) (by show 0 + 9 ≤ 9 * ((p_act K Wd pN pn rN rc (p_blk K Wd pN pn rN rc d0) u).2.2.2.2.2 - u.2.2.2.2.2); omega) dX8_readAct_0 (fun H hW hS => ?_)
  have hW : q_W E (va_up (pS E f px bk T pn rc u) u.2.2.2.2.2 (some (rX1 none 0 0 0 none none none none none))) (u.2.2.2.2.2 + 1) H := hW
  rw [pS_iu (by omega) (by omega) (by omega)] at hW
  have hW : q_W E (pS E (va_up f u.2.2.2.2.2 (some (rX1 none 0 0 0 none none none none none))) px bk T pn rc (p_new u)) (u.2.2.2.2.2 + 1) H := hW
  refine lv_dup hx hb dX8_readAct_3 rfl ?_
  refine lv_aload_n hx hb dX8_readAct_4 rfl (lv_at hl 0 rfl) ?_
  refine q_get hx hb hts hown hA hW iX8 pS_p rfl 0 (by decide) (hts (.fieldLink RX8 10 "HighRecipes$Parser" "tokens" "LHighRecipes$Tokens;") (by decide +kernel)) (fun _ h9 => h9) (v := .ref (px + 1)) rfl dX8_readAct_5 ?_
  refine q_getN hx hb hts hown hA hW iX10 pS_t rfl 5 (by decide) (va_Nw.use rfl (hA.2.2.2.1 ("HighRecipes$Parser", 31, "HighRecipes$Tokens", "kind", "LHighRecipes$Kind;", "HighRecipes") (by decide +kernel))) (fun _ h9 => h9) (v := .ref (E.2.2.2 ((p_new u)).2.1)) rfl dX8_readAct_8 ?_
  refine q_cv (va_runI (As := [.ref (E.2.2.2 u.2.1)]) (rest := [.ref u.2.2.2.2.2]) ⟨hx, hb, hml, hown, hts⟩ (kX1_init l E (pS E (va_up f u.2.2.2.2.2 (some (rX1 none 0 0 0 none none none none none))) px bk T pn rc (p_new u)) (u.2.2.2.2.2 + 1) u.2.2.2.2.2 u.2.1 ((pS_out (by omega) (by omega) (by omega)).trans q_eq)) (cwI 1 hts gX8_readAct_X1_init rfl rfl rfl (hts (.initialized RX1) (by decide +kernel)) (hts (.methodLink RX8 146 yX1_init) (by decide +kernel)) (hts (.instanceMethod yX1_init) (by decide +kernel)) rfl (by decide +kernel) ⟨(by show 1 + 1 ≤ 10 * d + 40; omega), (by show 8 + (2 + 11) + 20 ≤ 100 * d + 1000; omega)⟩) (q_pS hA hW hS) rfl rfl hl.1 rfl (lv_room (Nat.le_of_ble_eq_true rfl)) dX8_readAct_11 ⟨(by show 1 + 0 ≤ (p_act K Wd pN pn rN rc (p_blk K Wd pN pn rN rc d0) u).2.2.2.2.2 - u.2.2.2.2.2; omega), (by show 9 + 0 ≤ 9 * ((p_act K Wd pN pn rN rc (p_blk K Wd pN pn rN rc d0) u).2.2.2.2.2 - u.2.2.2.2.2); omega)⟩) hS (fun f_11 n_11 H locs hp hW hS => ?_)
  obtain ⟨rfl, rfl⟩ := hp
  have hW : q_W E (va_up (pS E (va_up f u.2.2.2.2.2 (some (rX1 none 0 0 0 none none none none none))) px bk T pn rc (p_new u)) u.2.2.2.2.2 (some (rX1 (some (E.2.2.2 u.2.1)) (-1) (-1) 0 none none none none none))) (u.2.2.2.2.2 + 1) H := hW
  rw [pS_iu (by omega) (by omega) (by omega)] at hW
  rw [q_upup] at hW
  have hW : q_W E (pS E (va_up f u.2.2.2.2.2 (some (rX1 (some (E.2.2.2 u.2.1)) (-1) (-1) 0 none none none none none))) px bk T pn rc (p_new u)) (u.2.2.2.2.2 + 1) H := hW
  refine lv_astore_n (lv' := [(2, .ref u.2.2.2.2.2), (0, .ref px), (1, .int (nI (6 - d)))]) hx hb dX8_readAct_14 rfl hl (by decide) rfl (fun ls hl => ?_)
  refine lv_aload_n hx hb dX8_readAct_15 rfl (lv_at hl 1 rfl) ?_
  refine q_cv (va_runV (As := []) (rest := []) ⟨hx, hb, hml, hown, hts⟩ (kX8_countAct l E (pS E (va_up f u.2.2.2.2.2 (some (rX1 (some (E.2.2.2 u.2.1)) (-1) (-1) 0 none none none none none))) px bk T pn rc (p_new u)) (u.2.2.2.2.2 + 1) px bk T pn rc (p_new u) kk wo pN rN K Wd ((pS_out (by omega) (by omega) (by omega)).trans (q_ne (by omega) f2)) ((pS_out (by omega) (by omega) (by omega)).trans (q_ne (by omega) f4)) ((pS_out (by omega) (by omega) (by omega)).trans (q_ne (by omega) g1)) ((pS_out (by omega) (by omega) (by omega)).trans (q_ne (by omega) g3)) (pS_K hbk) (by assumption) (by omega) (by assumption) (by assumption) (by assumption) (by assumption) (by assumption) (by assumption) (by assumption) hok.new) (cwV 0 hts gX8_readAct_X8_countAct rfl rfl rfl (by decide +kernel) ⟨(by show 1 + 1 ≤ 10 * d + 40; omega), (by show 8 + (1 + 11) + 21 ≤ 100 * d + 1000; omega)⟩) (q_pV hA hW hS (ci := 8) rfl pS_p) rfl rfl hl.1 rfl (lv_room (Nat.le_of_ble_eq_true rfl)) dX8_readAct_16 ⟨(by show 1 + 0 ≤ (p_act K Wd pN pn rN rc (p_blk K Wd pN pn rN rc d0) u).2.2.2.2.2 - u.2.2.2.2.2; omega), (by show 9 + 0 ≤ 9 * ((p_act K Wd pN pn rN rc (p_blk K Wd pN pn rN rc d0) u).2.2.2.2.2 - u.2.2.2.2.2); omega)⟩) hS (fun f_16 n_16 H locs hp hW hS => ?_)
  obtain ⟨rfl, rfl⟩ := hp
  rw [pS_pS] at hW
  have hW : q_W E (pS E (va_up f u.2.2.2.2.2 (some (rX1 (some (E.2.2.2 u.2.1)) (-1) (-1) 0 none none none none none))) px bk T pn rc (p_cnt (p_new u))) (u.2.2.2.2.2 + 1) H := hW
  refine lv_aload_n hx hb dX8_readAct_19 rfl (lv_at hl 1 rfl) ?_
  refine q_get hx hb hts hown hA hW iX8 pS_p rfl 0 (by decide) (hts (.fieldLink RX8 10 "HighRecipes$Parser" "tokens" "LHighRecipes$Tokens;") (by decide +kernel)) (fun _ h9 => h9) (v := .ref (px + 1)) rfl dX8_readAct_20 ?_
  refine lv_iconst (v := 1) hx hb dX8_readAct_23 (by decide) ?_
  refine q_cv (va_runV (As := [.int 1]) (rest := []) ⟨hx, hb, hml, hown, hts⟩ (kX10_step l E (pS E (va_up f u.2.2.2.2.2 (some (rX1 (some (E.2.2.2 u.2.1)) (-1) (-1) 0 none none none none none))) px bk T pn rc (p_cnt (p_new u))) (u.2.2.2.2.2 + 1) (px + 1) T (p_cnt (p_new u)) kk K true pS_t ((pS_out (by omega) (by omega) (by omega)).trans (q_ne (by omega) f2)) (by assumption) (by assumption) (hok.step hKT (r := true) (fun _ => hlt)).2) (cwV 1 hts gX8_readAct_X10_step rfl rfl rfl (by decide +kernel) ⟨(by show 0 + 1 ≤ 10 * d + 40; omega), (by show 8 + (3 + 11) + 0 ≤ 100 * d + 1000; omega)⟩) (q_pV hA hW hS (ci := 10) rfl pS_t) rfl rfl hl.1 rfl (lv_room (Nat.le_of_ble_eq_true rfl)) dX8_readAct_24 ⟨(by show 1 + 0 ≤ (p_act K Wd pN pn rN rc (p_blk K Wd pN pn rN rc d0) u).2.2.2.2.2 - u.2.2.2.2.2; omega), (by show 9 + 0 ≤ 9 * ((p_act K Wd pN pn rN rc (p_blk K Wd pN pn rN rc d0) u).2.2.2.2.2 - u.2.2.2.2.2); omega)⟩) hS (fun f_24 n_24 H locs hp hW hS => ?_)
  obtain ⟨rfl, rfl⟩ := hp
  have hW : q_W E (va_up (pS E (va_up f u.2.2.2.2.2 (some (rX1 (some (E.2.2.2 u.2.1)) (-1) (-1) 0 none none none none none))) px bk T pn rc (p_cnt (p_new u))) (px + 1) (some (cTS E (px + 1) T (p_step K true (p_cnt (p_new u)))))) (u.2.2.2.2.2 + 1) H := hW
  have hW : q_W E (pS E (va_up f u.2.2.2.2.2 (some (rX1 (some (E.2.2.2 u.2.1)) (-1) (-1) 0 none none none none none))) px bk T pn rc (p_step K true (p_cnt (p_new u)))) (u.2.2.2.2.2 + 1) H := by rw [← pS_st (s := p_cnt (p_new u)) (s' := p_step K true (p_cnt (p_new u))) rfl rfl]; exact hW
  have hW : q_W E (pS E (va_up f u.2.2.2.2.2 (some (rX1 (some (E.2.2.2 u.2.1)) (-1) (-1) 0 none none none none none))) px bk T pn rc (p_step K true (p_cnt (p_new u)))) (u.2.2.2.2.2 + 1) H := hW
  refine va_gets hx hb hA.2.2.1.2.2.2.1.1 hS hown (hts (.fieldLink RX8 151 "HighRecipes$1" "$SwitchMap$HighRecipes$Kind" "[I") (by decide +kernel)) (fun _ h9 => h9) dX8_readAct_27 ?_
  refine lv_aload_n hx hb dX8_readAct_30 rfl (lv_at hl 0 rfl) ?_
  refine q_getN hx hb hts hown hA hW iX1 ((pS_out (by omega) (by omega) (by omega)).trans q_eq) rfl 0 (by decide) (va_Nw.use rfl (hA.2.2.2.1 ("HighRecipes$Parser", 157, "HighRecipes$Act", "kind", "LHighRecipes$Kind;", "HighRecipes") (by decide +kernel))) (fun _ h9 => h9) (v := .ref (E.2.2.2 u.2.1)) rfl dX8_readAct_31 ?_
  refine q_ci (va_runU (As := []) (rest := [.ref (E.2.2.2 101)]) ⟨hx, hb, hml, hown, hts⟩ (q_ordinal l E (pS E (va_up f u.2.2.2.2.2 (some (rX1 (some (E.2.2.2 u.2.1)) (-1) (-1) 0 none none none none none))) px bk T pn rc (p_beg K u)) (u.2.2.2.2.2 + 1) u.2.1 (by rw [hkd]; decide)) (va_cwU 0 hts gX8_readAct_Jx29ce0_ordinal_8abf5_u158X5 rfl rfl rfl rfl (by decide +kernel) ⟨(by show 0 + 1 ≤ 10 * d + 40; omega), (by show 8 + (1 + 11) + 0 ≤ 100 * d + 1000; omega)⟩) ⟨q_P.blind, va_recvE hA.2.2.1.1 (by rw [hkd]; decide) hS, fun U hU hWm => ⟨rfl, hA.go hS hU hWm, by rw [hU]; exact hW⟩⟩ rfl rfl hl.1 rfl (lv_room (Nat.le_of_ble_eq_true rfl)) dX8_readAct_34 ⟨(by show 1 + 0 ≤ (p_act K Wd pN pn rN rc (p_blk K Wd pN pn rN rc d0) u).2.2.2.2.2 - u.2.2.2.2.2; omega), (by show 9 + 0 ≤ 9 * ((p_act K Wd pN pn rN rc (p_blk K Wd pN pn rN rc d0) u).2.2.2.2.2 - u.2.2.2.2.2); omega)⟩) hS (fun r_34 f_34 n_34 H locs hp hW hS => ?_)
  obtain ⟨rfl, rfl, rfl⟩ := hp
  rw [hkd]
  refine va_ti hx hb hA.2.2.1.2.2.2.1.2 hS (vp_in_nI (by decide) (by decide)) (v := .int 0) (by rw [nI_clamp (by decide)]; rfl) dX8_readAct_37 ?_
  refine lv_tableOut (x := 0) (tgt := 304) hx hb dX8_readAct_38 (by decide) (by decide) ?_
  obtain ⟨w1, hu_w1⟩ : ∃ z, p_val K Wd pN pn 4 (p_beg K u) = z := ⟨_, rfl⟩
  have v_w1 := val_n (Wd := Wd) (pN := pN) (pn := pn) (d := 4) hKT okb
  rw [hu_w1] at v_w1
  have ok_w1 := v_w1.1
  have wn1 : u.2.2.2.2.2 + 1 + 1 ≤ w1.2.2.2.2.2 := v_w1.2.2
  have eU : p_act K Wd pN pn rN rc (p_blk K Wd pN pn rN rc d0) u = p_take K 29 (w1) := by unfold p_act; rw [if_neg (by rw [hkd]; decide), if_neg (by rw [hkd]; decide), if_neg (by rw [hkd]; decide), if_neg (by rw [hkd]; decide), if_neg (by rw [hkd]; decide), if_neg (by rw [hkd]; decide), if_neg (by rw [hkd]; decide), hu_w1]
  have eN : (p_act K Wd pN pn rN rc (p_blk K Wd pN pn rN rc d0) u).2.2.2.2.2 = w1.2.2.2.2.2 := by rw [eU]; rfl
  refine lv_aload_n hx hb dX8_readAct_304 rfl (lv_at hl 0 rfl) ?_
  refine lv_aload_n hx hb dX8_readAct_305 rfl (lv_at hl 1 rfl) ?_
  refine lv_iconst (v := 0) hx hb dX8_readAct_306 (by decide) ?_
  refine q_cq (va_runV (As := [.int 0]) (rest := [.ref u.2.2.2.2.2]) ⟨hx, hb, hml, hown, hts⟩ (val_all l E 4 (pS E (va_up f u.2.2.2.2.2 (some (rX1 (some (E.2.2.2 u.2.1)) (-1) (-1) 0 none none none none none))) px bk T pn rc (p_beg K u)) px bk T pn rc (p_beg K u) kk wo pN rN K Wd  ((pS_out (by omega) (by omega) (by omega)).trans (q_ne (by omega) f2)) ((pS_out (by omega) (by omega) (by omega)).trans (q_ne (by omega) f4)) ((pS_out (by omega) (by omega) (by omega)).trans (q_ne (by omega) g1)) ((pS_out (by omega) (by omega) (by omega)).trans (q_ne (by omega) g3)) (pS_K hbk) hbk (by show bk + 5 ≤ u.2.2.2.2.2 + 1; omega) hT hkk hKT hK41 hWd hpn hrc okb (by decide)) (cwV 1 hts gX8_readAct_X8_readValue rfl rfl rfl (by decide +kernel) ⟨(by show 32 + 1 ≤ 10 * d + 40; omega), (by show 8 + (3 + 11) + 880 ≤ 100 * d + 1000; omega)⟩) (q_pV hA hW hS (ci := 8) rfl pS_p) rfl rfl hl.1 rfl (lv_room (Nat.le_of_ble_eq_true rfl)) dX8_readAct_307 ⟨(by rw [hu_w1]; show 1 + (w1.2.2.2.2.2 - (u.2.2.2.2.2 + 1)) ≤ (p_act K Wd pN pn rN rc (p_blk K Wd pN pn rN rc d0) u).2.2.2.2.2 - u.2.2.2.2.2; omega), (by rw [hu_w1]; show 9 + (9 * (w1.2.2.2.2.2 - (u.2.2.2.2.2 + 1))) ≤ 9 * ((p_act K Wd pN pn rN rc (p_blk K Wd pN pn rN rc d0) u).2.2.2.2.2 - u.2.2.2.2.2); omega)⟩) hS (fun r_307 f_307 n_307 H locs hp hW hS => ?_)
  obtain ⟨g_307, rfl, rfl, rfl, fr_307, rep_307⟩ := hp
  rw [hu_w1] at hW rep_307
  rw [hu_w1]
  have fr_307 : ∀ q, q < u.2.2.2.2.2 + 1 → q ≠ px → q ≠ px + 1 → q ≠ bk → g_307 q = (pS E (va_up f u.2.2.2.2.2 (some (rX1 (some (E.2.2.2 u.2.1)) (-1) (-1) 0 none none none none none))) px bk T pn rc (p_beg K u)) q := fr_307
  have fi_307 : ∀ q, q < u.2.2.2.2.2 → q ≠ px → q ≠ px + 1 → q ≠ bk → g_307 q = f q := fun q hq h7 h8 h9 => (fr_307 q (by omega) h7 h8 h9).trans ((pS_out h7 h8 h9).trans (((va_up_ne _ _ (by omega)).trans rfl)))
  have hW : q_W E (pS E g_307 px bk T pn rc w1) (w1.2.2.2.2.2) H := hW
  refine q_putN hx hb hts hown hA hW hS iX1 tyX1 tyX1_ok nmX1 ((pS_out (by omega) (by omega) (by omega)).trans ((fr_307 _ (by omega) (by omega) (by omega) (by omega)).trans ((pS_out (by omega) (by omega) (by omega)).trans q_eq))) rfl 4 (by decide) (va_Nw.use rfl (hA.2.2.2.1 ("HighRecipes$Parser", 166, "HighRecipes$Act", "value", "LHighRecipes$Value;", "HighRecipes") (by decide +kernel))) (fun _ h9 => h9) rfl rfl rfl (Nat.le_of_ble_eq_true rfl) dX8_readAct_310 (fun H locs hW hS => ?_)
  have hW : q_W E (va_up (pS E g_307 px bk T pn rc w1) u.2.2.2.2.2 (some (rX1 (some (E.2.2.2 u.2.1)) (-1) (-1) 0 (some (u.2.2.2.2.2 + 1)) none none none none))) w1.2.2.2.2.2 H := hW
  rw [pS_iu (by omega) (by omega) (by omega)] at hW
  refine lv_aload_n hx hb dX8_readAct_313 rfl (lv_at hl 1 rfl) ?_
  refine q_get hx hb hts hown hA hW iX8 pS_p rfl 0 (by decide) (hts (.fieldLink RX8 10 "HighRecipes$Parser" "tokens" "LHighRecipes$Tokens;") (by decide +kernel)) (fun _ h9 => h9) (v := .ref (px + 1)) rfl dX8_readAct_314 ?_
  refine va_gets (n := "SEMICOLON") (v := .ref (E.2.2.2 29)) hx hb (hA.2.2.1.1.1 29 (by decide)).1 hS hown (hts (.fieldLink RX8 95 "HighRecipes$Kind" "SEMICOLON" "LHighRecipes$Kind;") (by decide +kernel)) (fun _ h9 => h9) dX8_readAct_317 ?_
  refine q_cv (va_runV (As := [.ref (E.2.2.2 29)]) (rest := []) ⟨hx, hb, hml, hown, hts⟩ (kX10_take l E (pS E (va_up g_307 u.2.2.2.2.2 (some (rX1 (some (E.2.2.2 u.2.1)) (-1) (-1) 0 (some (u.2.2.2.2.2 + 1)) none none none none))) px bk T pn rc w1) w1.2.2.2.2.2 (px + 1) T w1 kk K 29 pS_t ((pS_out (by omega) (by omega) (by omega)).trans (q_ne (by omega) ((fr_307 _ (by omega) (by omega) (by omega) (by omega)).trans ((pS_out (by omega) (by omega) (by omega)).trans (q_ne (by omega) f2))))) (by assumption) (by assumption) (by assumption) (by assumption) ok_w1 (by first | assumption | decide)) (cwV 1 hts gX8_readAct_X10_take rfl rfl rfl (by decide +kernel) ⟨(by show 1 + 1 ≤ 10 * d + 40; omega), (by show 8 + (2 + 11) + 22 ≤ 100 * d + 1000; omega)⟩) (q_pV hA hW hS (ci := 10) rfl pS_t) rfl rfl hl.1 rfl (lv_room (Nat.le_of_ble_eq_true rfl)) dX8_readAct_320 ⟨(by show 1 + (w1.2.2.2.2.2 - (u.2.2.2.2.2 + 1)) + 0 ≤ (p_act K Wd pN pn rN rc (p_blk K Wd pN pn rN rc d0) u).2.2.2.2.2 - u.2.2.2.2.2; omega), (by show 9 + (9 * (w1.2.2.2.2.2 - (u.2.2.2.2.2 + 1))) + 0 ≤ 9 * ((p_act K Wd pN pn rN rc (p_blk K Wd pN pn rN rc d0) u).2.2.2.2.2 - u.2.2.2.2.2); omega)⟩) hS (fun f_320 n_320 H locs hp hW hS => ?_)
  obtain ⟨rfl, rfl⟩ := hp
  have hW : q_W E (va_up (pS E (va_up g_307 u.2.2.2.2.2 (some (rX1 (some (E.2.2.2 u.2.1)) (-1) (-1) 0 (some (u.2.2.2.2.2 + 1)) none none none none))) px bk T pn rc w1) (px + 1) (some (cTS E (px + 1) T (p_take K 29 w1)))) w1.2.2.2.2.2 H := hW
  have hW : q_W E (pS E (va_up g_307 u.2.2.2.2.2 (some (rX1 (some (E.2.2.2 u.2.1)) (-1) (-1) 0 (some (u.2.2.2.2.2 + 1)) none none none none))) px bk T pn rc (p_take K 29 w1)) w1.2.2.2.2.2 H := by rw [← pS_st (s := w1) (s' := p_take K 29 w1) rfl rfl]; exact hW
  have hok_320 : p_ok K T (p_take K 29 w1) := ok_w1.take hKT (by first | assumption | decide)
  have hW : q_W E (pS E (va_up g_307 u.2.2.2.2.2 (some (rX1 (some (E.2.2.2 u.2.1)) (-1) (-1) 0 (some (u.2.2.2.2.2 + 1)) none none none none))) px bk T pn rc (p_take K 29 w1)) w1.2.2.2.2.2 H := hW
  refine lv_aload_n hx hb dX8_readAct_323 rfl (lv_at hl 0 rfl) ?_
  have eS : p_actS K Wd pN pn rN rc RS (p_blk K Wd pN pn rN rc d0) (p_blkS K Wd pN pn rN rc RS d0) u = k_note (p_valD K Wd pN pn 4 (p_beg K u)) := by unfold p_actS; rw [if_neg (by rw [hkd]; decide), if_neg (by rw [hkd]; decide), if_neg (by rw [hkd]; decide), if_neg (by rw [hkd]; decide), if_neg (by rw [hkd]; decide), if_neg (by rw [hkd]; decide), if_neg (by rw [hkd]; decide), if_neg (by rw [hkd]; decide)]
  have rep : (p_take K 29 (w1)).2.1 ≠ 40 → (p_take K 29 (w1)).2.2.1 = 0 → ∀ o9 : Option Nat, rA E pn u.2.2.2.2.2 (p_take K 29 (w1)).2.2.2.2.2 (va_up (va_up g_307 u.2.2.2.2.2 (some (rX1 (some (E.2.2.2 u.2.1)) (-1) (-1) 0 (some (u.2.2.2.2.2 + 1)) none none none none))) u.2.2.2.2.2 (some (cAct E u.2.1 (-1) (-1) 0 (some (u.2.2.2.2.2 + 1)) none none none o9))) RS rc d u.2.2.2.2.2 (k_note (p_valD K Wd pN pn 4 (p_beg K u))) := by
    intro k1 k2 o9
    have L := (go_take (s := w1) (w := 29) hKT (by decide) ok_w1).2
    have R1 := rep_307 (L.2.2.1 k1) (L.2.2.2 k2)
    rw [hd1]
    refine ⟨u.2.1, _, _, _, _, _, _, _, o9, Nat.le_refl _, (by show u.2.2.2.2.2 < w1.2.2.2.2.2; omega), q_eq, Or.inr (Or.inr (Or.inr (Or.inr (Or.inr (Or.inl ⟨hkd, u.2.2.2.2.2 + 1, _, rfl, rV_frame ?_ (Nat.le_succ _) (Nat.le_refl _) _ _ _ R1, rfl⟩)))))⟩
    intro q h1 h2
    have h1 : u.2.2.2.2.2 + 1 ≤ q := h1
    exact (va_up_ne _ _ (by omega)).trans (va_up_ne _ _ (by omega))
  exact q_aret (v := some u.2.2.2.2.2) hx hb hr (Or.inl ⟨_, rfl⟩) hlocks hW hS ⟨_, _, _, _, _, _, _, _, rfl, congrArg (fun z => pS E _ px bk T pn rc z) eU, (by rw [eU]; try rfl), fun q hq h7 h8 h9 => ((va_up_ne _ _ (by omega)).trans (fi_307 q hq h7 h8 h9)), q_eq, fun k1 k2 => by rw [eS]; rw [eU] at k1 k2 ⊢; exact rep k1 k2⟩ (by show 1 + (w1.2.2.2.2.2 - (u.2.2.2.2.2 + 1)) ≤ (p_act K Wd pN pn rN rc (p_blk K Wd pN pn rN rc d0) u).2.2.2.2.2 - u.2.2.2.2.2; omega) (by show 9 + (9 * (w1.2.2.2.2.2 - (u.2.2.2.2.2 + 1))) ≤ 9 * ((p_act K Wd pN pn rN rc (p_blk K Wd pN pn rN rc d0) u).2.2.2.2.2 - u.2.2.2.2.2); omega) dX8_readAct_324

set_option maxHeartbeats 4000000 in
set_option maxRecDepth 100000 in
theorem kX8_readAct_11 (l : Launch) (E : q_E) (f : q_H) (n : Nat) (px bk T pn rc : Nat) (u : p_S) (kk : Nat → Option Nat) (wo pN rN : Nat → Int64) (K : Nat → Nat) (Wd : Nat → Int64) (RS : Nat → q_S) (d d0 : Nat) (f2 : f (px + 2) = some (aQ E 5 401 kk)) (f4 : f (px + 4) = some (aJ E 401 wo)) (g1 : f (bk + 1) = some (aJ E 8 pN)) (g3 : f (bk + 3) = some (aJ E 6 rN)) (hp : PAR E f px bk T pn rc u) (hbk : px + 5 ≤ bk) (hn : bk + 5 ≤ n) (hT : T ≤ 400) (hkk : ∀ j, j ≤ T → kk j = some (E.2.2.2 (K j))) (hKT : 39 ≤ K T) (hK41 : ∀ j, K j < 41) (hWd : ∀ j, j ≤ T → wo j = Wd j) (hpn : pn ≤ 8) (hrc : rc ≤ 6) (hok : p_ok K T u) (hsn : n = u.2.2.2.2.2) (hkd : u.2.1 = 11) (hd1 : d = d0 + 1) (hd6 : d ≤ 6) (ihB : RBK l E RS d0) : Met l yX8_readAct wsX8_readAct ({ frames := 10 * d + 40, cells := (p_act K Wd pN pn rN rc (p_blk K Wd pN pn rN rc d0) u).2.2.2.2.2 - u.2.2.2.2.2, slots := 9 * ((p_act K Wd pN pn rN rc (p_blk K Wd pN pn rN rc d0) u).2.2.2.2.2 - u.2.2.2.2.2), locals := 100 * d + 1000 }) (q_P E [.ref px, .int (nI (6 - d))] f n) (q_Qq E (ACTq E f px bk T pn rc K Wd pN rN RS d d0 u)) ((p_act K Wd pN pn rN rc (p_blk K Wd pN pn rN rc d0) u).2.2.2.2.2 - u.2.2.2.2.2) (9 * ((p_act K Wd pN pn rN rc (p_blk K Wd pN pn rN rc d0) u).2.2.2.2.2 - u.2.2.2.2.2)) (q_ge E) := by
  refine Met.ofW (cc := cX8_readAct) (maxL := 3) (ret := (some (.object "HighRecipes$Act"))) (by decide) rfl ?_
  intro p e s m args below meth c s₁ B hml hv
  obtain ⟨rfl, hA, hW⟩ := hv
  have hx := B.exec
  have hb := B.bytes
  have hr := B.returns
  have hts := atoms_spec (ws := wsX8_readAct) B.pre
  have hown : s.vm.findClass RX8 = some m.cls := findClass_of_methodNamed B.named
  have hlocks := B.notSynchronized
  have hS : va_S (q_ge E) s.heap s.heap [] := va_S.rf
  have iX1 : ∀ w ∈ wsX10, w ∈ wsX8_readAct := by decide +kernel
  have iX10 : ∀ w ∈ wsX100, w ∈ wsX8_readAct := by decide +kernel
  have iX8 : ∀ w ∈ wsX80, w ∈ wsX8_readAct := by decide +kernel
  have hl := lv_entry ([.ref px, .int (nI (6 - d))]) (n := 3) (Nat.le_of_ble_eq_true rfl)
  rw [lg_entry_eq]
  generalize (lg_sl ([.ref px, .int (nI (6 - d))]) ++ List.replicate (3 - (lg_sl ([.ref px, .int (nI (6 - d))])).length) Slot.unset).toArray = ls at hl ⊢
  have hl : lv_has ls 3 [(0, .ref px), (1, .int (nI (6 - d)))] := hl
  subst hsn
  rw [hp.eq] at hW
  have hk41 : u.2.1 < 41 := by rcases hok.2.1 with h9 | h9 <;> rw [h9]; decide; exact hK41 _
  have hlt : u.2.1 < 39 := by rw [hkd]; decide
  have okb : p_ok K T (p_beg K u) := p_ok.act (s := p_new u) hok hKT hlt
  have hna : u.2.2.2.2.2 + 1 ≤ (p_act K Wd pN pn rN rc (p_blk K Wd pN pn rN rc d0) u).2.2.2.2.2 := act_n hKT (by rw [hkd]; rfl) hok
  have gob := (go_beg (s := u) hKT hlt hok).2
  have ea : nI (6 - d) + 1 = nI (6 - d0) := by rw [nI_1]; congr 1; omega
  refine q_new (ci := 2) hx hb hts hown hA hW hS iX1 tyX1 tyX1_ok (hts (.classLink RX8 135 RX1) (by decide +kernel)) (hts (.instantiable RX1 9) (by decide +kernel)) (hts (.initialized RX1) (by decide +kernel)) rfl (fs := [.null, .int 0, .int 0, .int 0, .null, .null, .null, .null, .null]) (by decide) (by show 0 + 1 ≤ (p_act K Wd pN pn rN rc (p_blk K Wd pN pn rN rc d0) u).2.2.2.2.2 - u.2.2.2.2.2; omega) (by show 0 + 9 ≤ 9 * ((p_act K Wd pN pn rN rc (p_blk K Wd pN pn rN rc d0) u).2.2.2.2.2 - u.2.2.2.2.2); omega) dX8_readAct_0 (fun H hW hS => ?_)
  have hW : q_W E (va_up (pS E f px bk T pn rc u) u.2.2.2.2.2 (some (rX1 none 0 0 0 none none none none none))) (u.2.2.2.2.2 + 1) H := hW
  rw [pS_iu (by omega) (by omega) (by omega)] at hW
  have hW : q_W E (pS E (va_up f u.2.2.2.2.2 (some (rX1 none 0 0 0 none none none none none))) px bk T pn rc (p_new u)) (u.2.2.2.2.2 + 1) H := hW
  refine lv_dup hx hb dX8_readAct_3 rfl ?_
  refine lv_aload_n hx hb dX8_readAct_4 rfl (lv_at hl 0 rfl) ?_
  refine q_get hx hb hts hown hA hW iX8 pS_p rfl 0 (by decide) (hts (.fieldLink RX8 10 "HighRecipes$Parser" "tokens" "LHighRecipes$Tokens;") (by decide +kernel)) (fun _ h9 => h9) (v := .ref (px + 1)) rfl dX8_readAct_5 ?_
  refine q_getN hx hb hts hown hA hW iX10 pS_t rfl 5 (by decide) (va_Nw.use rfl (hA.2.2.2.1 ("HighRecipes$Parser", 31, "HighRecipes$Tokens", "kind", "LHighRecipes$Kind;", "HighRecipes") (by decide +kernel))) (fun _ h9 => h9) (v := .ref (E.2.2.2 ((p_new u)).2.1)) rfl dX8_readAct_8 ?_
  refine q_cv (va_runI (As := [.ref (E.2.2.2 u.2.1)]) (rest := [.ref u.2.2.2.2.2]) ⟨hx, hb, hml, hown, hts⟩ (kX1_init l E (pS E (va_up f u.2.2.2.2.2 (some (rX1 none 0 0 0 none none none none none))) px bk T pn rc (p_new u)) (u.2.2.2.2.2 + 1) u.2.2.2.2.2 u.2.1 ((pS_out (by omega) (by omega) (by omega)).trans q_eq)) (cwI 1 hts gX8_readAct_X1_init rfl rfl rfl (hts (.initialized RX1) (by decide +kernel)) (hts (.methodLink RX8 146 yX1_init) (by decide +kernel)) (hts (.instanceMethod yX1_init) (by decide +kernel)) rfl (by decide +kernel) ⟨(by show 1 + 1 ≤ 10 * d + 40; omega), (by show 8 + (2 + 11) + 20 ≤ 100 * d + 1000; omega)⟩) (q_pS hA hW hS) rfl rfl hl.1 rfl (lv_room (Nat.le_of_ble_eq_true rfl)) dX8_readAct_11 ⟨(by show 1 + 0 ≤ (p_act K Wd pN pn rN rc (p_blk K Wd pN pn rN rc d0) u).2.2.2.2.2 - u.2.2.2.2.2; omega), (by show 9 + 0 ≤ 9 * ((p_act K Wd pN pn rN rc (p_blk K Wd pN pn rN rc d0) u).2.2.2.2.2 - u.2.2.2.2.2); omega)⟩) hS (fun f_11 n_11 H locs hp hW hS => ?_)
  obtain ⟨rfl, rfl⟩ := hp
  have hW : q_W E (va_up (pS E (va_up f u.2.2.2.2.2 (some (rX1 none 0 0 0 none none none none none))) px bk T pn rc (p_new u)) u.2.2.2.2.2 (some (rX1 (some (E.2.2.2 u.2.1)) (-1) (-1) 0 none none none none none))) (u.2.2.2.2.2 + 1) H := hW
  rw [pS_iu (by omega) (by omega) (by omega)] at hW
  rw [q_upup] at hW
  have hW : q_W E (pS E (va_up f u.2.2.2.2.2 (some (rX1 (some (E.2.2.2 u.2.1)) (-1) (-1) 0 none none none none none))) px bk T pn rc (p_new u)) (u.2.2.2.2.2 + 1) H := hW
  refine lv_astore_n (lv' := [(2, .ref u.2.2.2.2.2), (0, .ref px), (1, .int (nI (6 - d)))]) hx hb dX8_readAct_14 rfl hl (by decide) rfl (fun ls hl => ?_)
  refine lv_aload_n hx hb dX8_readAct_15 rfl (lv_at hl 1 rfl) ?_
  refine q_cv (va_runV (As := []) (rest := []) ⟨hx, hb, hml, hown, hts⟩ (kX8_countAct l E (pS E (va_up f u.2.2.2.2.2 (some (rX1 (some (E.2.2.2 u.2.1)) (-1) (-1) 0 none none none none none))) px bk T pn rc (p_new u)) (u.2.2.2.2.2 + 1) px bk T pn rc (p_new u) kk wo pN rN K Wd ((pS_out (by omega) (by omega) (by omega)).trans (q_ne (by omega) f2)) ((pS_out (by omega) (by omega) (by omega)).trans (q_ne (by omega) f4)) ((pS_out (by omega) (by omega) (by omega)).trans (q_ne (by omega) g1)) ((pS_out (by omega) (by omega) (by omega)).trans (q_ne (by omega) g3)) (pS_K hbk) (by assumption) (by omega) (by assumption) (by assumption) (by assumption) (by assumption) (by assumption) (by assumption) (by assumption) hok.new) (cwV 0 hts gX8_readAct_X8_countAct rfl rfl rfl (by decide +kernel) ⟨(by show 1 + 1 ≤ 10 * d + 40; omega), (by show 8 + (1 + 11) + 21 ≤ 100 * d + 1000; omega)⟩) (q_pV hA hW hS (ci := 8) rfl pS_p) rfl rfl hl.1 rfl (lv_room (Nat.le_of_ble_eq_true rfl)) dX8_readAct_16 ⟨(by show 1 + 0 ≤ (p_act K Wd pN pn rN rc (p_blk K Wd pN pn rN rc d0) u).2.2.2.2.2 - u.2.2.2.2.2; omega), (by show 9 + 0 ≤ 9 * ((p_act K Wd pN pn rN rc (p_blk K Wd pN pn rN rc d0) u).2.2.2.2.2 - u.2.2.2.2.2); omega)⟩) hS (fun f_16 n_16 H locs hp hW hS => ?_)
  obtain ⟨rfl, rfl⟩ := hp
  rw [pS_pS] at hW
  have hW : q_W E (pS E (va_up f u.2.2.2.2.2 (some (rX1 (some (E.2.2.2 u.2.1)) (-1) (-1) 0 none none none none none))) px bk T pn rc (p_cnt (p_new u))) (u.2.2.2.2.2 + 1) H := hW
  refine lv_aload_n hx hb dX8_readAct_19 rfl (lv_at hl 1 rfl) ?_
  refine q_get hx hb hts hown hA hW iX8 pS_p rfl 0 (by decide) (hts (.fieldLink RX8 10 "HighRecipes$Parser" "tokens" "LHighRecipes$Tokens;") (by decide +kernel)) (fun _ h9 => h9) (v := .ref (px + 1)) rfl dX8_readAct_20 ?_
  refine lv_iconst (v := 1) hx hb dX8_readAct_23 (by decide) ?_
  refine q_cv (va_runV (As := [.int 1]) (rest := []) ⟨hx, hb, hml, hown, hts⟩ (kX10_step l E (pS E (va_up f u.2.2.2.2.2 (some (rX1 (some (E.2.2.2 u.2.1)) (-1) (-1) 0 none none none none none))) px bk T pn rc (p_cnt (p_new u))) (u.2.2.2.2.2 + 1) (px + 1) T (p_cnt (p_new u)) kk K true pS_t ((pS_out (by omega) (by omega) (by omega)).trans (q_ne (by omega) f2)) (by assumption) (by assumption) (hok.step hKT (r := true) (fun _ => hlt)).2) (cwV 1 hts gX8_readAct_X10_step rfl rfl rfl (by decide +kernel) ⟨(by show 0 + 1 ≤ 10 * d + 40; omega), (by show 8 + (3 + 11) + 0 ≤ 100 * d + 1000; omega)⟩) (q_pV hA hW hS (ci := 10) rfl pS_t) rfl rfl hl.1 rfl (lv_room (Nat.le_of_ble_eq_true rfl)) dX8_readAct_24 ⟨(by show 1 + 0 ≤ (p_act K Wd pN pn rN rc (p_blk K Wd pN pn rN rc d0) u).2.2.2.2.2 - u.2.2.2.2.2; omega), (by show 9 + 0 ≤ 9 * ((p_act K Wd pN pn rN rc (p_blk K Wd pN pn rN rc d0) u).2.2.2.2.2 - u.2.2.2.2.2); omega)⟩) hS (fun f_24 n_24 H locs hp hW hS => ?_)
  obtain ⟨rfl, rfl⟩ := hp
  have hW : q_W E (va_up (pS E (va_up f u.2.2.2.2.2 (some (rX1 (some (E.2.2.2 u.2.1)) (-1) (-1) 0 none none none none none))) px bk T pn rc (p_cnt (p_new u))) (px + 1) (some (cTS E (px + 1) T (p_step K true (p_cnt (p_new u)))))) (u.2.2.2.2.2 + 1) H := hW
  have hW : q_W E (pS E (va_up f u.2.2.2.2.2 (some (rX1 (some (E.2.2.2 u.2.1)) (-1) (-1) 0 none none none none none))) px bk T pn rc (p_step K true (p_cnt (p_new u)))) (u.2.2.2.2.2 + 1) H := by rw [← pS_st (s := p_cnt (p_new u)) (s' := p_step K true (p_cnt (p_new u))) rfl rfl]; exact hW
  have hW : q_W E (pS E (va_up f u.2.2.2.2.2 (some (rX1 (some (E.2.2.2 u.2.1)) (-1) (-1) 0 none none none none none))) px bk T pn rc (p_step K true (p_cnt (p_new u)))) (u.2.2.2.2.2 + 1) H := hW
  refine va_gets hx hb hA.2.2.1.2.2.2.1.1 hS hown (hts (.fieldLink RX8 151 "HighRecipes$1" "$SwitchMap$HighRecipes$Kind" "[I") (by decide +kernel)) (fun _ h9 => h9) dX8_readAct_27 ?_
  refine lv_aload_n hx hb dX8_readAct_30 rfl (lv_at hl 0 rfl) ?_
  refine q_getN hx hb hts hown hA hW iX1 ((pS_out (by omega) (by omega) (by omega)).trans q_eq) rfl 0 (by decide) (va_Nw.use rfl (hA.2.2.2.1 ("HighRecipes$Parser", 157, "HighRecipes$Act", "kind", "LHighRecipes$Kind;", "HighRecipes") (by decide +kernel))) (fun _ h9 => h9) (v := .ref (E.2.2.2 u.2.1)) rfl dX8_readAct_31 ?_
  refine q_ci (va_runU (As := []) (rest := [.ref (E.2.2.2 101)]) ⟨hx, hb, hml, hown, hts⟩ (q_ordinal l E (pS E (va_up f u.2.2.2.2.2 (some (rX1 (some (E.2.2.2 u.2.1)) (-1) (-1) 0 none none none none none))) px bk T pn rc (p_beg K u)) (u.2.2.2.2.2 + 1) u.2.1 (by rw [hkd]; decide)) (va_cwU 0 hts gX8_readAct_Jx29ce0_ordinal_8abf5_u158X5 rfl rfl rfl rfl (by decide +kernel) ⟨(by show 0 + 1 ≤ 10 * d + 40; omega), (by show 8 + (1 + 11) + 0 ≤ 100 * d + 1000; omega)⟩) ⟨q_P.blind, va_recvE hA.2.2.1.1 (by rw [hkd]; decide) hS, fun U hU hWm => ⟨rfl, hA.go hS hU hWm, by rw [hU]; exact hW⟩⟩ rfl rfl hl.1 rfl (lv_room (Nat.le_of_ble_eq_true rfl)) dX8_readAct_34 ⟨(by show 1 + 0 ≤ (p_act K Wd pN pn rN rc (p_blk K Wd pN pn rN rc d0) u).2.2.2.2.2 - u.2.2.2.2.2; omega), (by show 9 + 0 ≤ 9 * ((p_act K Wd pN pn rN rc (p_blk K Wd pN pn rN rc d0) u).2.2.2.2.2 - u.2.2.2.2.2); omega)⟩) hS (fun r_34 f_34 n_34 H locs hp hW hS => ?_)
  obtain ⟨rfl, rfl, rfl⟩ := hp
  rw [hkd]
  refine va_ti hx hb hA.2.2.1.2.2.2.1.2 hS (vp_in_nI (by decide) (by decide)) (v := .int 6) (by rw [nI_clamp (by decide)]; rfl) dX8_readAct_37 ?_
  refine lv_tableIn (x := 6) (off := 242) (tgt := 280) hx hb dX8_readAct_38 (by decide) (by decide) (by decide) (by decide) ?_
  have eU : p_act K Wd pN pn rN rc (p_blk K Wd pN pn rN rc d0) u = p_take K 29 (p_known K Wd pN pn (p_beg K u)) := by unfold p_act; rw [if_neg (by rw [hkd]; decide), if_neg (by rw [hkd]; decide), if_neg (by rw [hkd]; decide), if_neg (by rw [hkd]; decide), if_neg (by rw [hkd]; decide), if_pos hkd]
  have eN : (p_act K Wd pN pn rN rc (p_blk K Wd pN pn rN rc d0) u).2.2.2.2.2 = u.2.2.2.2.2 + 1 := by rw [eU]; rfl
  refine lv_aload_n hx hb dX8_readAct_280 rfl (lv_at hl 0 rfl) ?_
  refine lv_aload_n hx hb dX8_readAct_281 rfl (lv_at hl 1 rfl) ?_
  refine lv_iconst (v := 0) hx hb dX8_readAct_282 (by decide) ?_
  refine q_ci (va_runV (As := [.int 0]) (rest := [.ref u.2.2.2.2.2]) ⟨hx, hb, hml, hown, hts⟩ (kX8_known0 l E (pS E (va_up f u.2.2.2.2.2 (some (rX1 (some (E.2.2.2 u.2.1)) (-1) (-1) 0 none none none none none))) px bk T pn rc (p_beg K u)) (u.2.2.2.2.2 + 1) px bk T pn rc (p_beg K u) kk wo pN rN K Wd ((pS_out (by omega) (by omega) (by omega)).trans (q_ne (by omega) f2)) ((pS_out (by omega) (by omega) (by omega)).trans (q_ne (by omega) f4)) ((pS_out (by omega) (by omega) (by omega)).trans (q_ne (by omega) g1)) ((pS_out (by omega) (by omega) (by omega)).trans (q_ne (by omega) g3)) (pS_K hbk) (by assumption) (by omega) (by assumption) (by assumption) (by assumption) (by assumption) (by assumption) (by assumption) (by assumption) okb) (cwV 1 hts gX8_readAct_X8_readKnownName rfl rfl rfl (by decide +kernel) ⟨(by show 1 + 1 ≤ 10 * d + 40; omega), (by show 8 + (3 + 11) + 24 ≤ 100 * d + 1000; omega)⟩) (q_pV hA hW hS (ci := 8) rfl pS_p) rfl rfl hl.1 rfl (lv_room (Nat.le_of_ble_eq_true rfl)) dX8_readAct_283 ⟨(by show 1 + 0 ≤ (p_act K Wd pN pn rN rc (p_blk K Wd pN pn rN rc d0) u).2.2.2.2.2 - u.2.2.2.2.2; omega), (by show 9 + 0 ≤ 9 * ((p_act K Wd pN pn rN rc (p_blk K Wd pN pn rN rc d0) u).2.2.2.2.2 - u.2.2.2.2.2); omega)⟩) hS (fun r_283 f_283 n_283 H locs hp hW hS => ?_)
  obtain ⟨rfl, rfl, rfl⟩ := hp
  rw [pS_pS] at hW
  have hok_283 : p_ok K T (p_known K Wd pN pn (p_beg K u)) := okb.known hKT
  have hW : q_W E (pS E (va_up f u.2.2.2.2.2 (some (rX1 (some (E.2.2.2 u.2.1)) (-1) (-1) 0 none none none none none))) px bk T pn rc (p_known K Wd pN pn (p_beg K u))) (u.2.2.2.2.2 + 1) H := hW
  refine q_putN hx hb hts hown hA hW hS iX1 tyX1 tyX1_ok nmX1 ((pS_out (by omega) (by omega) (by omega)).trans q_eq) rfl 1 (by decide) (va_Nw.use rfl (hA.2.2.2.1 ("HighRecipes$Parser", 203, "HighRecipes$Act", "pan", "I", "HighRecipes") (by decide +kernel))) (fun _ h9 => h9) rfl rfl rfl (Nat.le_of_ble_eq_true rfl) dX8_readAct_286 (fun H locs hW hS => ?_)
  have hW : q_W E (va_up (pS E (va_up f u.2.2.2.2.2 (some (rX1 (some (E.2.2.2 u.2.1)) (-1) (-1) 0 none none none none none))) px bk T pn rc (p_known K Wd pN pn (p_beg K u))) u.2.2.2.2.2 (some (rX1 (some (E.2.2.2 u.2.1)) (ix pN pn (Wd (p_beg K u).1)) (-1) 0 none none none none none))) (u.2.2.2.2.2 + 1) H := hW
  rw [pS_iu (by omega) (by omega) (by omega)] at hW
  rw [q_upup] at hW
  refine lv_goto (tgt := 313) hx hb dX8_readAct_289 (by decide) ?_
  refine lv_aload_n hx hb dX8_readAct_313 rfl (lv_at hl 1 rfl) ?_
  refine q_get hx hb hts hown hA hW iX8 pS_p rfl 0 (by decide) (hts (.fieldLink RX8 10 "HighRecipes$Parser" "tokens" "LHighRecipes$Tokens;") (by decide +kernel)) (fun _ h9 => h9) (v := .ref (px + 1)) rfl dX8_readAct_314 ?_
  refine va_gets (n := "SEMICOLON") (v := .ref (E.2.2.2 29)) hx hb (hA.2.2.1.1.1 29 (by decide)).1 hS hown (hts (.fieldLink RX8 95 "HighRecipes$Kind" "SEMICOLON" "LHighRecipes$Kind;") (by decide +kernel)) (fun _ h9 => h9) dX8_readAct_317 ?_
  refine q_cv (va_runV (As := [.ref (E.2.2.2 29)]) (rest := []) ⟨hx, hb, hml, hown, hts⟩ (kX10_take l E (pS E (va_up f u.2.2.2.2.2 (some (rX1 (some (E.2.2.2 u.2.1)) (ix pN pn (Wd (p_beg K u).1)) (-1) 0 none none none none none))) px bk T pn rc (p_known K Wd pN pn (p_beg K u))) (u.2.2.2.2.2 + 1) (px + 1) T (p_known K Wd pN pn (p_beg K u)) kk K 29 pS_t ((pS_out (by omega) (by omega) (by omega)).trans (q_ne (by omega) f2)) (by assumption) (by assumption) (by assumption) (by assumption) hok_283 (by first | assumption | decide)) (cwV 1 hts gX8_readAct_X10_take rfl rfl rfl (by decide +kernel) ⟨(by show 1 + 1 ≤ 10 * d + 40; omega), (by show 8 + (2 + 11) + 22 ≤ 100 * d + 1000; omega)⟩) (q_pV hA hW hS (ci := 10) rfl pS_t) rfl rfl hl.1 rfl (lv_room (Nat.le_of_ble_eq_true rfl)) dX8_readAct_320 ⟨(by show 1 + 0 ≤ (p_act K Wd pN pn rN rc (p_blk K Wd pN pn rN rc d0) u).2.2.2.2.2 - u.2.2.2.2.2; omega), (by show 9 + 0 ≤ 9 * ((p_act K Wd pN pn rN rc (p_blk K Wd pN pn rN rc d0) u).2.2.2.2.2 - u.2.2.2.2.2); omega)⟩) hS (fun f_320 n_320 H locs hp hW hS => ?_)
  obtain ⟨rfl, rfl⟩ := hp
  have hW : q_W E (va_up (pS E (va_up f u.2.2.2.2.2 (some (rX1 (some (E.2.2.2 u.2.1)) (ix pN pn (Wd (p_beg K u).1)) (-1) 0 none none none none none))) px bk T pn rc (p_known K Wd pN pn (p_beg K u))) (px + 1) (some (cTS E (px + 1) T (p_take K 29 (p_known K Wd pN pn (p_beg K u)))))) (u.2.2.2.2.2 + 1) H := hW
  have hW : q_W E (pS E (va_up f u.2.2.2.2.2 (some (rX1 (some (E.2.2.2 u.2.1)) (ix pN pn (Wd (p_beg K u).1)) (-1) 0 none none none none none))) px bk T pn rc (p_take K 29 (p_known K Wd pN pn (p_beg K u)))) (u.2.2.2.2.2 + 1) H := by rw [← pS_st (s := p_known K Wd pN pn (p_beg K u)) (s' := p_take K 29 (p_known K Wd pN pn (p_beg K u))) rfl rfl]; exact hW
  have hok_320 : p_ok K T (p_take K 29 (p_known K Wd pN pn (p_beg K u))) := hok_283.take hKT (by first | assumption | decide)
  have hW : q_W E (pS E (va_up f u.2.2.2.2.2 (some (rX1 (some (E.2.2.2 u.2.1)) (ix pN pn (Wd (p_beg K u).1)) (-1) 0 none none none none none))) px bk T pn rc (p_take K 29 (p_known K Wd pN pn (p_beg K u)))) (u.2.2.2.2.2 + 1) H := hW
  refine lv_aload_n hx hb dX8_readAct_323 rfl (lv_at hl 0 rfl) ?_
  have eS : p_actS K Wd pN pn rN rc RS (p_blk K Wd pN pn rN rc d0) (p_blkS K Wd pN pn rN rc RS d0) u = k_empty pn (ix pN pn (Wd (p_beg K u).1)).toNatClampNeg := by unfold p_actS; rw [if_neg (by rw [hkd]; decide), if_neg (by rw [hkd]; decide), if_neg (by rw [hkd]; decide), if_neg (by rw [hkd]; decide), if_neg (by rw [hkd]; decide), if_pos hkd]
  have rep : (p_take K 29 (p_known K Wd pN pn (p_beg K u))).2.1 ≠ 40 → (p_take K 29 (p_known K Wd pN pn (p_beg K u))).2.2.1 = 0 → ∀ o9 : Option Nat, rA E pn u.2.2.2.2.2 (p_take K 29 (p_known K Wd pN pn (p_beg K u))).2.2.2.2.2 (va_up (va_up f u.2.2.2.2.2 (some (rX1 (some (E.2.2.2 u.2.1)) (ix pN pn (Wd (p_beg K u).1)) (-1) 0 none none none none none))) u.2.2.2.2.2 (some (cAct E u.2.1 (ix pN pn (Wd (p_beg K u).1)) (-1) 0 none none none none o9))) RS rc d u.2.2.2.2.2 (k_empty pn (ix pN pn (Wd (p_beg K u).1)).toNatClampNeg) := by
    intro k1 k2 o9
    have L := (go_take (s := p_known K Wd pN pn (p_beg K u)) (w := 29) hKT (by decide) (okb.known hKT)).2
    obtain ⟨-, i, hi, hix⟩ := known_ok hpn (L.2.2.1 k1) (L.2.2.2 k2)
    rw [hix, nI_clamp (by omega), hd1]
    exact ⟨u.2.1, _, _, _, _, _, _, _, o9, Nat.le_refl _, Nat.lt_succ_self _, q_eq, Or.inr (Or.inr (Or.inr (Or.inl ⟨hkd, i, hi, rfl, rfl⟩)))⟩
  exact q_aret (v := some u.2.2.2.2.2) hx hb hr (Or.inl ⟨_, rfl⟩) hlocks hW hS ⟨_, _, _, _, _, _, _, _, rfl, congrArg (fun z => pS E _ px bk T pn rc z) eU, (by rw [eU]; try rfl), fun q hq h7 h8 h9 => ((va_up_ne _ _ (by omega)).trans rfl), q_eq, fun k1 k2 => by rw [eS]; rw [eU] at k1 k2 ⊢; exact rep k1 k2⟩ (by show 1 ≤ (p_act K Wd pN pn rN rc (p_blk K Wd pN pn rN rc d0) u).2.2.2.2.2 - u.2.2.2.2.2; omega) (by show 9 ≤ 9 * ((p_act K Wd pN pn rN rc (p_blk K Wd pN pn rN rc d0) u).2.2.2.2.2 - u.2.2.2.2.2); omega) dX8_readAct_324

set_option maxHeartbeats 4000000 in
set_option maxRecDepth 100000 in
theorem kX8_readAct_14 (l : Launch) (E : q_E) (f : q_H) (n : Nat) (px bk T pn rc : Nat) (u : p_S) (kk : Nat → Option Nat) (wo pN rN : Nat → Int64) (K : Nat → Nat) (Wd : Nat → Int64) (RS : Nat → q_S) (d d0 : Nat) (f2 : f (px + 2) = some (aQ E 5 401 kk)) (f4 : f (px + 4) = some (aJ E 401 wo)) (g1 : f (bk + 1) = some (aJ E 8 pN)) (g3 : f (bk + 3) = some (aJ E 6 rN)) (hp : PAR E f px bk T pn rc u) (hbk : px + 5 ≤ bk) (hn : bk + 5 ≤ n) (hT : T ≤ 400) (hkk : ∀ j, j ≤ T → kk j = some (E.2.2.2 (K j))) (hKT : 39 ≤ K T) (hK41 : ∀ j, K j < 41) (hWd : ∀ j, j ≤ T → wo j = Wd j) (hpn : pn ≤ 8) (hrc : rc ≤ 6) (hok : p_ok K T u) (hsn : n = u.2.2.2.2.2) (hkd : u.2.1 = 14) (hd1 : d = d0 + 1) (hd6 : d ≤ 6) (ihB : RBK l E RS d0) : Met l yX8_readAct wsX8_readAct ({ frames := 10 * d + 40, cells := (p_act K Wd pN pn rN rc (p_blk K Wd pN pn rN rc d0) u).2.2.2.2.2 - u.2.2.2.2.2, slots := 9 * ((p_act K Wd pN pn rN rc (p_blk K Wd pN pn rN rc d0) u).2.2.2.2.2 - u.2.2.2.2.2), locals := 100 * d + 1000 }) (q_P E [.ref px, .int (nI (6 - d))] f n) (q_Qq E (ACTq E f px bk T pn rc K Wd pN rN RS d d0 u)) ((p_act K Wd pN pn rN rc (p_blk K Wd pN pn rN rc d0) u).2.2.2.2.2 - u.2.2.2.2.2) (9 * ((p_act K Wd pN pn rN rc (p_blk K Wd pN pn rN rc d0) u).2.2.2.2.2 - u.2.2.2.2.2)) (q_ge E) := by
  refine Met.ofW (cc := cX8_readAct) (maxL := 3) (ret := (some (.object "HighRecipes$Act"))) (by decide) rfl ?_
  intro p e s m args below meth c s₁ B hml hv
  obtain ⟨rfl, hA, hW⟩ := hv
  have hx := B.exec
  have hb := B.bytes
  have hr := B.returns
  have hts := atoms_spec (ws := wsX8_readAct) B.pre
  have hown : s.vm.findClass RX8 = some m.cls := findClass_of_methodNamed B.named
  have hlocks := B.notSynchronized
  have hS : va_S (q_ge E) s.heap s.heap [] := va_S.rf
  have iX1 : ∀ w ∈ wsX10, w ∈ wsX8_readAct := by decide +kernel
  have iX10 : ∀ w ∈ wsX100, w ∈ wsX8_readAct := by decide +kernel
  have iX8 : ∀ w ∈ wsX80, w ∈ wsX8_readAct := by decide +kernel
  have hl := lv_entry ([.ref px, .int (nI (6 - d))]) (n := 3) (Nat.le_of_ble_eq_true rfl)
  rw [lg_entry_eq]
  generalize (lg_sl ([.ref px, .int (nI (6 - d))]) ++ List.replicate (3 - (lg_sl ([.ref px, .int (nI (6 - d))])).length) Slot.unset).toArray = ls at hl ⊢
  have hl : lv_has ls 3 [(0, .ref px), (1, .int (nI (6 - d)))] := hl
  subst hsn
  rw [hp.eq] at hW
  have hk41 : u.2.1 < 41 := by rcases hok.2.1 with h9 | h9 <;> rw [h9]; decide; exact hK41 _
  have hlt : u.2.1 < 39 := by rw [hkd]; decide
  have okb : p_ok K T (p_beg K u) := p_ok.act (s := p_new u) hok hKT hlt
  have hna : u.2.2.2.2.2 + 1 ≤ (p_act K Wd pN pn rN rc (p_blk K Wd pN pn rN rc d0) u).2.2.2.2.2 := act_n hKT (by rw [hkd]; rfl) hok
  have gob := (go_beg (s := u) hKT hlt hok).2
  have ea : nI (6 - d) + 1 = nI (6 - d0) := by rw [nI_1]; congr 1; omega
  refine q_new (ci := 2) hx hb hts hown hA hW hS iX1 tyX1 tyX1_ok (hts (.classLink RX8 135 RX1) (by decide +kernel)) (hts (.instantiable RX1 9) (by decide +kernel)) (hts (.initialized RX1) (by decide +kernel)) rfl (fs := [.null, .int 0, .int 0, .int 0, .null, .null, .null, .null, .null]) (by decide) (by show 0 + 1 ≤ (p_act K Wd pN pn rN rc (p_blk K Wd pN pn rN rc d0) u).2.2.2.2.2 - u.2.2.2.2.2; omega) (by show 0 + 9 ≤ 9 * ((p_act K Wd pN pn rN rc (p_blk K Wd pN pn rN rc d0) u).2.2.2.2.2 - u.2.2.2.2.2); omega) dX8_readAct_0 (fun H hW hS => ?_)
  have hW : q_W E (va_up (pS E f px bk T pn rc u) u.2.2.2.2.2 (some (rX1 none 0 0 0 none none none none none))) (u.2.2.2.2.2 + 1) H := hW
  rw [pS_iu (by omega) (by omega) (by omega)] at hW
  have hW : q_W E (pS E (va_up f u.2.2.2.2.2 (some (rX1 none 0 0 0 none none none none none))) px bk T pn rc (p_new u)) (u.2.2.2.2.2 + 1) H := hW
  refine lv_dup hx hb dX8_readAct_3 rfl ?_
  refine lv_aload_n hx hb dX8_readAct_4 rfl (lv_at hl 0 rfl) ?_
  refine q_get hx hb hts hown hA hW iX8 pS_p rfl 0 (by decide) (hts (.fieldLink RX8 10 "HighRecipes$Parser" "tokens" "LHighRecipes$Tokens;") (by decide +kernel)) (fun _ h9 => h9) (v := .ref (px + 1)) rfl dX8_readAct_5 ?_
  refine q_getN hx hb hts hown hA hW iX10 pS_t rfl 5 (by decide) (va_Nw.use rfl (hA.2.2.2.1 ("HighRecipes$Parser", 31, "HighRecipes$Tokens", "kind", "LHighRecipes$Kind;", "HighRecipes") (by decide +kernel))) (fun _ h9 => h9) (v := .ref (E.2.2.2 ((p_new u)).2.1)) rfl dX8_readAct_8 ?_
  refine q_cv (va_runI (As := [.ref (E.2.2.2 u.2.1)]) (rest := [.ref u.2.2.2.2.2]) ⟨hx, hb, hml, hown, hts⟩ (kX1_init l E (pS E (va_up f u.2.2.2.2.2 (some (rX1 none 0 0 0 none none none none none))) px bk T pn rc (p_new u)) (u.2.2.2.2.2 + 1) u.2.2.2.2.2 u.2.1 ((pS_out (by omega) (by omega) (by omega)).trans q_eq)) (cwI 1 hts gX8_readAct_X1_init rfl rfl rfl (hts (.initialized RX1) (by decide +kernel)) (hts (.methodLink RX8 146 yX1_init) (by decide +kernel)) (hts (.instanceMethod yX1_init) (by decide +kernel)) rfl (by decide +kernel) ⟨(by show 1 + 1 ≤ 10 * d + 40; omega), (by show 8 + (2 + 11) + 20 ≤ 100 * d + 1000; omega)⟩) (q_pS hA hW hS) rfl rfl hl.1 rfl (lv_room (Nat.le_of_ble_eq_true rfl)) dX8_readAct_11 ⟨(by show 1 + 0 ≤ (p_act K Wd pN pn rN rc (p_blk K Wd pN pn rN rc d0) u).2.2.2.2.2 - u.2.2.2.2.2; omega), (by show 9 + 0 ≤ 9 * ((p_act K Wd pN pn rN rc (p_blk K Wd pN pn rN rc d0) u).2.2.2.2.2 - u.2.2.2.2.2); omega)⟩) hS (fun f_11 n_11 H locs hp hW hS => ?_)
  obtain ⟨rfl, rfl⟩ := hp
  have hW : q_W E (va_up (pS E (va_up f u.2.2.2.2.2 (some (rX1 none 0 0 0 none none none none none))) px bk T pn rc (p_new u)) u.2.2.2.2.2 (some (rX1 (some (E.2.2.2 u.2.1)) (-1) (-1) 0 none none none none none))) (u.2.2.2.2.2 + 1) H := hW
  rw [pS_iu (by omega) (by omega) (by omega)] at hW
  rw [q_upup] at hW
  have hW : q_W E (pS E (va_up f u.2.2.2.2.2 (some (rX1 (some (E.2.2.2 u.2.1)) (-1) (-1) 0 none none none none none))) px bk T pn rc (p_new u)) (u.2.2.2.2.2 + 1) H := hW
  refine lv_astore_n (lv' := [(2, .ref u.2.2.2.2.2), (0, .ref px), (1, .int (nI (6 - d)))]) hx hb dX8_readAct_14 rfl hl (by decide) rfl (fun ls hl => ?_)
  refine lv_aload_n hx hb dX8_readAct_15 rfl (lv_at hl 1 rfl) ?_
  refine q_cv (va_runV (As := []) (rest := []) ⟨hx, hb, hml, hown, hts⟩ (kX8_countAct l E (pS E (va_up f u.2.2.2.2.2 (some (rX1 (some (E.2.2.2 u.2.1)) (-1) (-1) 0 none none none none none))) px bk T pn rc (p_new u)) (u.2.2.2.2.2 + 1) px bk T pn rc (p_new u) kk wo pN rN K Wd ((pS_out (by omega) (by omega) (by omega)).trans (q_ne (by omega) f2)) ((pS_out (by omega) (by omega) (by omega)).trans (q_ne (by omega) f4)) ((pS_out (by omega) (by omega) (by omega)).trans (q_ne (by omega) g1)) ((pS_out (by omega) (by omega) (by omega)).trans (q_ne (by omega) g3)) (pS_K hbk) (by assumption) (by omega) (by assumption) (by assumption) (by assumption) (by assumption) (by assumption) (by assumption) (by assumption) hok.new) (cwV 0 hts gX8_readAct_X8_countAct rfl rfl rfl (by decide +kernel) ⟨(by show 1 + 1 ≤ 10 * d + 40; omega), (by show 8 + (1 + 11) + 21 ≤ 100 * d + 1000; omega)⟩) (q_pV hA hW hS (ci := 8) rfl pS_p) rfl rfl hl.1 rfl (lv_room (Nat.le_of_ble_eq_true rfl)) dX8_readAct_16 ⟨(by show 1 + 0 ≤ (p_act K Wd pN pn rN rc (p_blk K Wd pN pn rN rc d0) u).2.2.2.2.2 - u.2.2.2.2.2; omega), (by show 9 + 0 ≤ 9 * ((p_act K Wd pN pn rN rc (p_blk K Wd pN pn rN rc d0) u).2.2.2.2.2 - u.2.2.2.2.2); omega)⟩) hS (fun f_16 n_16 H locs hp hW hS => ?_)
  obtain ⟨rfl, rfl⟩ := hp
  rw [pS_pS] at hW
  have hW : q_W E (pS E (va_up f u.2.2.2.2.2 (some (rX1 (some (E.2.2.2 u.2.1)) (-1) (-1) 0 none none none none none))) px bk T pn rc (p_cnt (p_new u))) (u.2.2.2.2.2 + 1) H := hW
  refine lv_aload_n hx hb dX8_readAct_19 rfl (lv_at hl 1 rfl) ?_
  refine q_get hx hb hts hown hA hW iX8 pS_p rfl 0 (by decide) (hts (.fieldLink RX8 10 "HighRecipes$Parser" "tokens" "LHighRecipes$Tokens;") (by decide +kernel)) (fun _ h9 => h9) (v := .ref (px + 1)) rfl dX8_readAct_20 ?_
  refine lv_iconst (v := 1) hx hb dX8_readAct_23 (by decide) ?_
  refine q_cv (va_runV (As := [.int 1]) (rest := []) ⟨hx, hb, hml, hown, hts⟩ (kX10_step l E (pS E (va_up f u.2.2.2.2.2 (some (rX1 (some (E.2.2.2 u.2.1)) (-1) (-1) 0 none none none none none))) px bk T pn rc (p_cnt (p_new u))) (u.2.2.2.2.2 + 1) (px + 1) T (p_cnt (p_new u)) kk K true pS_t ((pS_out (by omega) (by omega) (by omega)).trans (q_ne (by omega) f2)) (by assumption) (by assumption) (hok.step hKT (r := true) (fun _ => hlt)).2) (cwV 1 hts gX8_readAct_X10_step rfl rfl rfl (by decide +kernel) ⟨(by show 0 + 1 ≤ 10 * d + 40; omega), (by show 8 + (3 + 11) + 0 ≤ 100 * d + 1000; omega)⟩) (q_pV hA hW hS (ci := 10) rfl pS_t) rfl rfl hl.1 rfl (lv_room (Nat.le_of_ble_eq_true rfl)) dX8_readAct_24 ⟨(by show 1 + 0 ≤ (p_act K Wd pN pn rN rc (p_blk K Wd pN pn rN rc d0) u).2.2.2.2.2 - u.2.2.2.2.2; omega), (by show 9 + 0 ≤ 9 * ((p_act K Wd pN pn rN rc (p_blk K Wd pN pn rN rc d0) u).2.2.2.2.2 - u.2.2.2.2.2); omega)⟩) hS (fun f_24 n_24 H locs hp hW hS => ?_)
  obtain ⟨rfl, rfl⟩ := hp
  have hW : q_W E (va_up (pS E (va_up f u.2.2.2.2.2 (some (rX1 (some (E.2.2.2 u.2.1)) (-1) (-1) 0 none none none none none))) px bk T pn rc (p_cnt (p_new u))) (px + 1) (some (cTS E (px + 1) T (p_step K true (p_cnt (p_new u)))))) (u.2.2.2.2.2 + 1) H := hW
  have hW : q_W E (pS E (va_up f u.2.2.2.2.2 (some (rX1 (some (E.2.2.2 u.2.1)) (-1) (-1) 0 none none none none none))) px bk T pn rc (p_step K true (p_cnt (p_new u)))) (u.2.2.2.2.2 + 1) H := by rw [← pS_st (s := p_cnt (p_new u)) (s' := p_step K true (p_cnt (p_new u))) rfl rfl]; exact hW
  have hW : q_W E (pS E (va_up f u.2.2.2.2.2 (some (rX1 (some (E.2.2.2 u.2.1)) (-1) (-1) 0 none none none none none))) px bk T pn rc (p_step K true (p_cnt (p_new u)))) (u.2.2.2.2.2 + 1) H := hW
  refine va_gets hx hb hA.2.2.1.2.2.2.1.1 hS hown (hts (.fieldLink RX8 151 "HighRecipes$1" "$SwitchMap$HighRecipes$Kind" "[I") (by decide +kernel)) (fun _ h9 => h9) dX8_readAct_27 ?_
  refine lv_aload_n hx hb dX8_readAct_30 rfl (lv_at hl 0 rfl) ?_
  refine q_getN hx hb hts hown hA hW iX1 ((pS_out (by omega) (by omega) (by omega)).trans q_eq) rfl 0 (by decide) (va_Nw.use rfl (hA.2.2.2.1 ("HighRecipes$Parser", 157, "HighRecipes$Act", "kind", "LHighRecipes$Kind;", "HighRecipes") (by decide +kernel))) (fun _ h9 => h9) (v := .ref (E.2.2.2 u.2.1)) rfl dX8_readAct_31 ?_
  refine q_ci (va_runU (As := []) (rest := [.ref (E.2.2.2 101)]) ⟨hx, hb, hml, hown, hts⟩ (q_ordinal l E (pS E (va_up f u.2.2.2.2.2 (some (rX1 (some (E.2.2.2 u.2.1)) (-1) (-1) 0 none none none none none))) px bk T pn rc (p_beg K u)) (u.2.2.2.2.2 + 1) u.2.1 (by rw [hkd]; decide)) (va_cwU 0 hts gX8_readAct_Jx29ce0_ordinal_8abf5_u158X5 rfl rfl rfl rfl (by decide +kernel) ⟨(by show 0 + 1 ≤ 10 * d + 40; omega), (by show 8 + (1 + 11) + 0 ≤ 100 * d + 1000; omega)⟩) ⟨q_P.blind, va_recvE hA.2.2.1.1 (by rw [hkd]; decide) hS, fun U hU hWm => ⟨rfl, hA.go hS hU hWm, by rw [hU]; exact hW⟩⟩ rfl rfl hl.1 rfl (lv_room (Nat.le_of_ble_eq_true rfl)) dX8_readAct_34 ⟨(by show 1 + 0 ≤ (p_act K Wd pN pn rN rc (p_blk K Wd pN pn rN rc d0) u).2.2.2.2.2 - u.2.2.2.2.2; omega), (by show 9 + 0 ≤ 9 * ((p_act K Wd pN pn rN rc (p_blk K Wd pN pn rN rc d0) u).2.2.2.2.2 - u.2.2.2.2.2); omega)⟩) hS (fun r_34 f_34 n_34 H locs hp hW hS => ?_)
  obtain ⟨rfl, rfl, rfl⟩ := hp
  rw [hkd]
  refine va_ti hx hb hA.2.2.1.2.2.2.1.2 hS (vp_in_nI (by decide) (by decide)) (v := .int 7) (by rw [nI_clamp (by decide)]; rfl) dX8_readAct_37 ?_
  refine lv_tableIn (x := 7) (off := 254) (tgt := 292) hx hb dX8_readAct_38 (by decide) (by decide) (by decide) (by decide) ?_
  have eU : p_act K Wd pN pn rN rc (p_blk K Wd pN pn rN rc d0) u = p_take K 29 (p_known K Wd rN rc (p_beg K u)) := by unfold p_act; rw [if_neg (by rw [hkd]; decide), if_neg (by rw [hkd]; decide), if_neg (by rw [hkd]; decide), if_neg (by rw [hkd]; decide), if_neg (by rw [hkd]; decide), if_neg (by rw [hkd]; decide), if_pos hkd]
  have eN : (p_act K Wd pN pn rN rc (p_blk K Wd pN pn rN rc d0) u).2.2.2.2.2 = u.2.2.2.2.2 + 1 := by rw [eU]; rfl
  refine lv_aload_n hx hb dX8_readAct_292 rfl (lv_at hl 0 rfl) ?_
  refine lv_aload_n hx hb dX8_readAct_293 rfl (lv_at hl 1 rfl) ?_
  refine lv_iconst (v := 1) hx hb dX8_readAct_294 (by decide) ?_
  refine q_ci (va_runV (As := [.int 1]) (rest := [.ref u.2.2.2.2.2]) ⟨hx, hb, hml, hown, hts⟩ (kX8_known1 l E (pS E (va_up f u.2.2.2.2.2 (some (rX1 (some (E.2.2.2 u.2.1)) (-1) (-1) 0 none none none none none))) px bk T pn rc (p_beg K u)) (u.2.2.2.2.2 + 1) px bk T pn rc (p_beg K u) kk wo pN rN K Wd ((pS_out (by omega) (by omega) (by omega)).trans (q_ne (by omega) f2)) ((pS_out (by omega) (by omega) (by omega)).trans (q_ne (by omega) f4)) ((pS_out (by omega) (by omega) (by omega)).trans (q_ne (by omega) g1)) ((pS_out (by omega) (by omega) (by omega)).trans (q_ne (by omega) g3)) (pS_K hbk) (by assumption) (by omega) (by assumption) (by assumption) (by assumption) (by assumption) (by assumption) (by assumption) (by assumption) okb) (cwV 1 hts gX8_readAct_X8_readKnownName rfl rfl rfl (by decide +kernel) ⟨(by show 1 + 1 ≤ 10 * d + 40; omega), (by show 8 + (3 + 11) + 24 ≤ 100 * d + 1000; omega)⟩) (q_pV hA hW hS (ci := 8) rfl pS_p) rfl rfl hl.1 rfl (lv_room (Nat.le_of_ble_eq_true rfl)) dX8_readAct_295 ⟨(by show 1 + 0 ≤ (p_act K Wd pN pn rN rc (p_blk K Wd pN pn rN rc d0) u).2.2.2.2.2 - u.2.2.2.2.2; omega), (by show 9 + 0 ≤ 9 * ((p_act K Wd pN pn rN rc (p_blk K Wd pN pn rN rc d0) u).2.2.2.2.2 - u.2.2.2.2.2); omega)⟩) hS (fun r_295 f_295 n_295 H locs hp hW hS => ?_)
  obtain ⟨rfl, rfl, rfl⟩ := hp
  rw [pS_pS] at hW
  have hok_295 : p_ok K T (p_known K Wd rN rc (p_beg K u)) := okb.known hKT
  have hW : q_W E (pS E (va_up f u.2.2.2.2.2 (some (rX1 (some (E.2.2.2 u.2.1)) (-1) (-1) 0 none none none none none))) px bk T pn rc (p_known K Wd rN rc (p_beg K u))) (u.2.2.2.2.2 + 1) H := hW
  refine q_putN hx hb hts hown hA hW hS iX1 tyX1 tyX1_ok nmX1 ((pS_out (by omega) (by omega) (by omega)).trans q_eq) rfl 2 (by decide) (va_Nw.use rfl (hA.2.2.2.1 ("HighRecipes$Parser", 215, "HighRecipes$Act", "recipe", "I", "HighRecipes") (by decide +kernel))) (fun _ h9 => h9) rfl rfl rfl (Nat.le_of_ble_eq_true rfl) dX8_readAct_298 (fun H locs hW hS => ?_)
  have hW : q_W E (va_up (pS E (va_up f u.2.2.2.2.2 (some (rX1 (some (E.2.2.2 u.2.1)) (-1) (-1) 0 none none none none none))) px bk T pn rc (p_known K Wd rN rc (p_beg K u))) u.2.2.2.2.2 (some (rX1 (some (E.2.2.2 u.2.1)) (-1) (ix rN rc (Wd (p_beg K u).1)) 0 none none none none none))) (u.2.2.2.2.2 + 1) H := hW
  rw [pS_iu (by omega) (by omega) (by omega)] at hW
  rw [q_upup] at hW
  refine lv_goto (tgt := 313) hx hb dX8_readAct_301 (by decide) ?_
  refine lv_aload_n hx hb dX8_readAct_313 rfl (lv_at hl 1 rfl) ?_
  refine q_get hx hb hts hown hA hW iX8 pS_p rfl 0 (by decide) (hts (.fieldLink RX8 10 "HighRecipes$Parser" "tokens" "LHighRecipes$Tokens;") (by decide +kernel)) (fun _ h9 => h9) (v := .ref (px + 1)) rfl dX8_readAct_314 ?_
  refine va_gets (n := "SEMICOLON") (v := .ref (E.2.2.2 29)) hx hb (hA.2.2.1.1.1 29 (by decide)).1 hS hown (hts (.fieldLink RX8 95 "HighRecipes$Kind" "SEMICOLON" "LHighRecipes$Kind;") (by decide +kernel)) (fun _ h9 => h9) dX8_readAct_317 ?_
  refine q_cv (va_runV (As := [.ref (E.2.2.2 29)]) (rest := []) ⟨hx, hb, hml, hown, hts⟩ (kX10_take l E (pS E (va_up f u.2.2.2.2.2 (some (rX1 (some (E.2.2.2 u.2.1)) (-1) (ix rN rc (Wd (p_beg K u).1)) 0 none none none none none))) px bk T pn rc (p_known K Wd rN rc (p_beg K u))) (u.2.2.2.2.2 + 1) (px + 1) T (p_known K Wd rN rc (p_beg K u)) kk K 29 pS_t ((pS_out (by omega) (by omega) (by omega)).trans (q_ne (by omega) f2)) (by assumption) (by assumption) (by assumption) (by assumption) hok_295 (by first | assumption | decide)) (cwV 1 hts gX8_readAct_X10_take rfl rfl rfl (by decide +kernel) ⟨(by show 1 + 1 ≤ 10 * d + 40; omega), (by show 8 + (2 + 11) + 22 ≤ 100 * d + 1000; omega)⟩) (q_pV hA hW hS (ci := 10) rfl pS_t) rfl rfl hl.1 rfl (lv_room (Nat.le_of_ble_eq_true rfl)) dX8_readAct_320 ⟨(by show 1 + 0 ≤ (p_act K Wd pN pn rN rc (p_blk K Wd pN pn rN rc d0) u).2.2.2.2.2 - u.2.2.2.2.2; omega), (by show 9 + 0 ≤ 9 * ((p_act K Wd pN pn rN rc (p_blk K Wd pN pn rN rc d0) u).2.2.2.2.2 - u.2.2.2.2.2); omega)⟩) hS (fun f_320 n_320 H locs hp hW hS => ?_)
  obtain ⟨rfl, rfl⟩ := hp
  have hW : q_W E (va_up (pS E (va_up f u.2.2.2.2.2 (some (rX1 (some (E.2.2.2 u.2.1)) (-1) (ix rN rc (Wd (p_beg K u).1)) 0 none none none none none))) px bk T pn rc (p_known K Wd rN rc (p_beg K u))) (px + 1) (some (cTS E (px + 1) T (p_take K 29 (p_known K Wd rN rc (p_beg K u)))))) (u.2.2.2.2.2 + 1) H := hW
  have hW : q_W E (pS E (va_up f u.2.2.2.2.2 (some (rX1 (some (E.2.2.2 u.2.1)) (-1) (ix rN rc (Wd (p_beg K u).1)) 0 none none none none none))) px bk T pn rc (p_take K 29 (p_known K Wd rN rc (p_beg K u)))) (u.2.2.2.2.2 + 1) H := by rw [← pS_st (s := p_known K Wd rN rc (p_beg K u)) (s' := p_take K 29 (p_known K Wd rN rc (p_beg K u))) rfl rfl]; exact hW
  have hok_320 : p_ok K T (p_take K 29 (p_known K Wd rN rc (p_beg K u))) := hok_295.take hKT (by first | assumption | decide)
  have hW : q_W E (pS E (va_up f u.2.2.2.2.2 (some (rX1 (some (E.2.2.2 u.2.1)) (-1) (ix rN rc (Wd (p_beg K u).1)) 0 none none none none none))) px bk T pn rc (p_take K 29 (p_known K Wd rN rc (p_beg K u)))) (u.2.2.2.2.2 + 1) H := hW
  refine lv_aload_n hx hb dX8_readAct_323 rfl (lv_at hl 0 rfl) ?_
  have eS : p_actS K Wd pN pn rN rc RS (p_blk K Wd pN pn rN rc d0) (p_blkS K Wd pN pn rN rc RS d0) u = RS (ix rN rc (Wd (p_beg K u).1)).toNatClampNeg := by unfold p_actS; rw [if_neg (by rw [hkd]; decide), if_neg (by rw [hkd]; decide), if_neg (by rw [hkd]; decide), if_neg (by rw [hkd]; decide), if_neg (by rw [hkd]; decide), if_neg (by rw [hkd]; decide), if_pos hkd]
  have rep : (p_take K 29 (p_known K Wd rN rc (p_beg K u))).2.1 ≠ 40 → (p_take K 29 (p_known K Wd rN rc (p_beg K u))).2.2.1 = 0 → ∀ o9 : Option Nat, rA E pn u.2.2.2.2.2 (p_take K 29 (p_known K Wd rN rc (p_beg K u))).2.2.2.2.2 (va_up (va_up f u.2.2.2.2.2 (some (rX1 (some (E.2.2.2 u.2.1)) (-1) (ix rN rc (Wd (p_beg K u).1)) 0 none none none none none))) u.2.2.2.2.2 (some (cAct E u.2.1 (-1) (ix rN rc (Wd (p_beg K u).1)) 0 none none none none o9))) RS rc d u.2.2.2.2.2 (RS (ix rN rc (Wd (p_beg K u).1)).toNatClampNeg) := by
    intro k1 k2 o9
    have L := (go_take (s := p_known K Wd rN rc (p_beg K u)) (w := 29) hKT (by decide) (okb.known hKT)).2
    obtain ⟨-, i, hi, hix⟩ := known_ok (Nat.le_trans hrc (by decide)) (L.2.2.1 k1) (L.2.2.2 k2)
    rw [hix, nI_clamp (by omega), hd1]
    exact ⟨u.2.1, _, _, _, _, _, _, _, o9, Nat.le_refl _, Nat.lt_succ_self _, q_eq, Or.inr (Or.inr (Or.inr (Or.inr (Or.inr (Or.inr (Or.inl ⟨hkd, i, hi, rfl, rfl⟩))))))⟩
  exact q_aret (v := some u.2.2.2.2.2) hx hb hr (Or.inl ⟨_, rfl⟩) hlocks hW hS ⟨_, _, _, _, _, _, _, _, rfl, congrArg (fun z => pS E _ px bk T pn rc z) eU, (by rw [eU]; try rfl), fun q hq h7 h8 h9 => ((va_up_ne _ _ (by omega)).trans rfl), q_eq, fun k1 k2 => by rw [eS]; rw [eU] at k1 k2 ⊢; exact rep k1 k2⟩ (by show 1 ≤ (p_act K Wd pN pn rN rc (p_blk K Wd pN pn rN rc d0) u).2.2.2.2.2 - u.2.2.2.2.2; omega) (by show 9 ≤ 9 * ((p_act K Wd pN pn rN rc (p_blk K Wd pN pn rN rc d0) u).2.2.2.2.2 - u.2.2.2.2.2); omega) dX8_readAct_324

set_option maxHeartbeats 4000000 in
set_option maxRecDepth 100000 in
theorem kX8_readAct_7 (l : Launch) (E : q_E) (f : q_H) (n : Nat) (px bk T pn rc : Nat) (u : p_S) (kk : Nat → Option Nat) (wo pN rN : Nat → Int64) (K : Nat → Nat) (Wd : Nat → Int64) (RS : Nat → q_S) (d d0 : Nat) (f2 : f (px + 2) = some (aQ E 5 401 kk)) (f4 : f (px + 4) = some (aJ E 401 wo)) (g1 : f (bk + 1) = some (aJ E 8 pN)) (g3 : f (bk + 3) = some (aJ E 6 rN)) (hp : PAR E f px bk T pn rc u) (hbk : px + 5 ≤ bk) (hn : bk + 5 ≤ n) (hT : T ≤ 400) (hkk : ∀ j, j ≤ T → kk j = some (E.2.2.2 (K j))) (hKT : 39 ≤ K T) (hK41 : ∀ j, K j < 41) (hWd : ∀ j, j ≤ T → wo j = Wd j) (hpn : pn ≤ 8) (hrc : rc ≤ 6) (hok : p_ok K T u) (hsn : n = u.2.2.2.2.2) (hkd : u.2.1 = 7) (hd1 : d = d0 + 1) (hd6 : d ≤ 6) (ihB : RBK l E RS d0) : Met l yX8_readAct wsX8_readAct ({ frames := 10 * d + 40, cells := (p_act K Wd pN pn rN rc (p_blk K Wd pN pn rN rc d0) u).2.2.2.2.2 - u.2.2.2.2.2, slots := 9 * ((p_act K Wd pN pn rN rc (p_blk K Wd pN pn rN rc d0) u).2.2.2.2.2 - u.2.2.2.2.2), locals := 100 * d + 1000 }) (q_P E [.ref px, .int (nI (6 - d))] f n) (q_Qq E (ACTq E f px bk T pn rc K Wd pN rN RS d d0 u)) ((p_act K Wd pN pn rN rc (p_blk K Wd pN pn rN rc d0) u).2.2.2.2.2 - u.2.2.2.2.2) (9 * ((p_act K Wd pN pn rN rc (p_blk K Wd pN pn rN rc d0) u).2.2.2.2.2 - u.2.2.2.2.2)) (q_ge E) := by
  refine Met.ofW (cc := cX8_readAct) (maxL := 3) (ret := (some (.object "HighRecipes$Act"))) (by decide) rfl ?_
  intro p e s m args below meth c s₁ B hml hv
  obtain ⟨rfl, hA, hW⟩ := hv
  have hx := B.exec
  have hb := B.bytes
  have hr := B.returns
  have hts := atoms_spec (ws := wsX8_readAct) B.pre
  have hown : s.vm.findClass RX8 = some m.cls := findClass_of_methodNamed B.named
  have hlocks := B.notSynchronized
  have hS : va_S (q_ge E) s.heap s.heap [] := va_S.rf
  have iX1 : ∀ w ∈ wsX10, w ∈ wsX8_readAct := by decide +kernel
  have iX10 : ∀ w ∈ wsX100, w ∈ wsX8_readAct := by decide +kernel
  have iX8 : ∀ w ∈ wsX80, w ∈ wsX8_readAct := by decide +kernel
  have hl := lv_entry ([.ref px, .int (nI (6 - d))]) (n := 3) (Nat.le_of_ble_eq_true rfl)
  rw [lg_entry_eq]
  generalize (lg_sl ([.ref px, .int (nI (6 - d))]) ++ List.replicate (3 - (lg_sl ([.ref px, .int (nI (6 - d))])).length) Slot.unset).toArray = ls at hl ⊢
  have hl : lv_has ls 3 [(0, .ref px), (1, .int (nI (6 - d)))] := hl
  subst hsn
  rw [hp.eq] at hW
  have hk41 : u.2.1 < 41 := by rcases hok.2.1 with h9 | h9 <;> rw [h9]; decide; exact hK41 _
  have hlt : u.2.1 < 39 := by rw [hkd]; decide
  have okb : p_ok K T (p_beg K u) := p_ok.act (s := p_new u) hok hKT hlt
  have hna : u.2.2.2.2.2 + 1 ≤ (p_act K Wd pN pn rN rc (p_blk K Wd pN pn rN rc d0) u).2.2.2.2.2 := act_n hKT (by rw [hkd]; rfl) hok
  have gob := (go_beg (s := u) hKT hlt hok).2
  have ea : nI (6 - d) + 1 = nI (6 - d0) := by rw [nI_1]; congr 1; omega
  refine q_new (ci := 2) hx hb hts hown hA hW hS iX1 tyX1 tyX1_ok (hts (.classLink RX8 135 RX1) (by decide +kernel)) (hts (.instantiable RX1 9) (by decide +kernel)) (hts (.initialized RX1) (by decide +kernel)) rfl (fs := [.null, .int 0, .int 0, .int 0, .null, .null, .null, .null, .null]) (by decide) (by show 0 + 1 ≤ (p_act K Wd pN pn rN rc (p_blk K Wd pN pn rN rc d0) u).2.2.2.2.2 - u.2.2.2.2.2; omega) (by show 0 + 9 ≤ 9 * ((p_act K Wd pN pn rN rc (p_blk K Wd pN pn rN rc d0) u).2.2.2.2.2 - u.2.2.2.2.2); omega) dX8_readAct_0 (fun H hW hS => ?_)
  have hW : q_W E (va_up (pS E f px bk T pn rc u) u.2.2.2.2.2 (some (rX1 none 0 0 0 none none none none none))) (u.2.2.2.2.2 + 1) H := hW
  rw [pS_iu (by omega) (by omega) (by omega)] at hW
  have hW : q_W E (pS E (va_up f u.2.2.2.2.2 (some (rX1 none 0 0 0 none none none none none))) px bk T pn rc (p_new u)) (u.2.2.2.2.2 + 1) H := hW
  refine lv_dup hx hb dX8_readAct_3 rfl ?_
  refine lv_aload_n hx hb dX8_readAct_4 rfl (lv_at hl 0 rfl) ?_
  refine q_get hx hb hts hown hA hW iX8 pS_p rfl 0 (by decide) (hts (.fieldLink RX8 10 "HighRecipes$Parser" "tokens" "LHighRecipes$Tokens;") (by decide +kernel)) (fun _ h9 => h9) (v := .ref (px + 1)) rfl dX8_readAct_5 ?_
  refine q_getN hx hb hts hown hA hW iX10 pS_t rfl 5 (by decide) (va_Nw.use rfl (hA.2.2.2.1 ("HighRecipes$Parser", 31, "HighRecipes$Tokens", "kind", "LHighRecipes$Kind;", "HighRecipes") (by decide +kernel))) (fun _ h9 => h9) (v := .ref (E.2.2.2 ((p_new u)).2.1)) rfl dX8_readAct_8 ?_
  refine q_cv (va_runI (As := [.ref (E.2.2.2 u.2.1)]) (rest := [.ref u.2.2.2.2.2]) ⟨hx, hb, hml, hown, hts⟩ (kX1_init l E (pS E (va_up f u.2.2.2.2.2 (some (rX1 none 0 0 0 none none none none none))) px bk T pn rc (p_new u)) (u.2.2.2.2.2 + 1) u.2.2.2.2.2 u.2.1 ((pS_out (by omega) (by omega) (by omega)).trans q_eq)) (cwI 1 hts gX8_readAct_X1_init rfl rfl rfl (hts (.initialized RX1) (by decide +kernel)) (hts (.methodLink RX8 146 yX1_init) (by decide +kernel)) (hts (.instanceMethod yX1_init) (by decide +kernel)) rfl (by decide +kernel) ⟨(by show 1 + 1 ≤ 10 * d + 40; omega), (by show 8 + (2 + 11) + 20 ≤ 100 * d + 1000; omega)⟩) (q_pS hA hW hS) rfl rfl hl.1 rfl (lv_room (Nat.le_of_ble_eq_true rfl)) dX8_readAct_11 ⟨(by show 1 + 0 ≤ (p_act K Wd pN pn rN rc (p_blk K Wd pN pn rN rc d0) u).2.2.2.2.2 - u.2.2.2.2.2; omega), (by show 9 + 0 ≤ 9 * ((p_act K Wd pN pn rN rc (p_blk K Wd pN pn rN rc d0) u).2.2.2.2.2 - u.2.2.2.2.2); omega)⟩) hS (fun f_11 n_11 H locs hp hW hS => ?_)
  obtain ⟨rfl, rfl⟩ := hp
  have hW : q_W E (va_up (pS E (va_up f u.2.2.2.2.2 (some (rX1 none 0 0 0 none none none none none))) px bk T pn rc (p_new u)) u.2.2.2.2.2 (some (rX1 (some (E.2.2.2 u.2.1)) (-1) (-1) 0 none none none none none))) (u.2.2.2.2.2 + 1) H := hW
  rw [pS_iu (by omega) (by omega) (by omega)] at hW
  rw [q_upup] at hW
  have hW : q_W E (pS E (va_up f u.2.2.2.2.2 (some (rX1 (some (E.2.2.2 u.2.1)) (-1) (-1) 0 none none none none none))) px bk T pn rc (p_new u)) (u.2.2.2.2.2 + 1) H := hW
  refine lv_astore_n (lv' := [(2, .ref u.2.2.2.2.2), (0, .ref px), (1, .int (nI (6 - d)))]) hx hb dX8_readAct_14 rfl hl (by decide) rfl (fun ls hl => ?_)
  refine lv_aload_n hx hb dX8_readAct_15 rfl (lv_at hl 1 rfl) ?_
  refine q_cv (va_runV (As := []) (rest := []) ⟨hx, hb, hml, hown, hts⟩ (kX8_countAct l E (pS E (va_up f u.2.2.2.2.2 (some (rX1 (some (E.2.2.2 u.2.1)) (-1) (-1) 0 none none none none none))) px bk T pn rc (p_new u)) (u.2.2.2.2.2 + 1) px bk T pn rc (p_new u) kk wo pN rN K Wd ((pS_out (by omega) (by omega) (by omega)).trans (q_ne (by omega) f2)) ((pS_out (by omega) (by omega) (by omega)).trans (q_ne (by omega) f4)) ((pS_out (by omega) (by omega) (by omega)).trans (q_ne (by omega) g1)) ((pS_out (by omega) (by omega) (by omega)).trans (q_ne (by omega) g3)) (pS_K hbk) (by assumption) (by omega) (by assumption) (by assumption) (by assumption) (by assumption) (by assumption) (by assumption) (by assumption) hok.new) (cwV 0 hts gX8_readAct_X8_countAct rfl rfl rfl (by decide +kernel) ⟨(by show 1 + 1 ≤ 10 * d + 40; omega), (by show 8 + (1 + 11) + 21 ≤ 100 * d + 1000; omega)⟩) (q_pV hA hW hS (ci := 8) rfl pS_p) rfl rfl hl.1 rfl (lv_room (Nat.le_of_ble_eq_true rfl)) dX8_readAct_16 ⟨(by show 1 + 0 ≤ (p_act K Wd pN pn rN rc (p_blk K Wd pN pn rN rc d0) u).2.2.2.2.2 - u.2.2.2.2.2; omega), (by show 9 + 0 ≤ 9 * ((p_act K Wd pN pn rN rc (p_blk K Wd pN pn rN rc d0) u).2.2.2.2.2 - u.2.2.2.2.2); omega)⟩) hS (fun f_16 n_16 H locs hp hW hS => ?_)
  obtain ⟨rfl, rfl⟩ := hp
  rw [pS_pS] at hW
  have hW : q_W E (pS E (va_up f u.2.2.2.2.2 (some (rX1 (some (E.2.2.2 u.2.1)) (-1) (-1) 0 none none none none none))) px bk T pn rc (p_cnt (p_new u))) (u.2.2.2.2.2 + 1) H := hW
  refine lv_aload_n hx hb dX8_readAct_19 rfl (lv_at hl 1 rfl) ?_
  refine q_get hx hb hts hown hA hW iX8 pS_p rfl 0 (by decide) (hts (.fieldLink RX8 10 "HighRecipes$Parser" "tokens" "LHighRecipes$Tokens;") (by decide +kernel)) (fun _ h9 => h9) (v := .ref (px + 1)) rfl dX8_readAct_20 ?_
  refine lv_iconst (v := 1) hx hb dX8_readAct_23 (by decide) ?_
  refine q_cv (va_runV (As := [.int 1]) (rest := []) ⟨hx, hb, hml, hown, hts⟩ (kX10_step l E (pS E (va_up f u.2.2.2.2.2 (some (rX1 (some (E.2.2.2 u.2.1)) (-1) (-1) 0 none none none none none))) px bk T pn rc (p_cnt (p_new u))) (u.2.2.2.2.2 + 1) (px + 1) T (p_cnt (p_new u)) kk K true pS_t ((pS_out (by omega) (by omega) (by omega)).trans (q_ne (by omega) f2)) (by assumption) (by assumption) (hok.step hKT (r := true) (fun _ => hlt)).2) (cwV 1 hts gX8_readAct_X10_step rfl rfl rfl (by decide +kernel) ⟨(by show 0 + 1 ≤ 10 * d + 40; omega), (by show 8 + (3 + 11) + 0 ≤ 100 * d + 1000; omega)⟩) (q_pV hA hW hS (ci := 10) rfl pS_t) rfl rfl hl.1 rfl (lv_room (Nat.le_of_ble_eq_true rfl)) dX8_readAct_24 ⟨(by show 1 + 0 ≤ (p_act K Wd pN pn rN rc (p_blk K Wd pN pn rN rc d0) u).2.2.2.2.2 - u.2.2.2.2.2; omega), (by show 9 + 0 ≤ 9 * ((p_act K Wd pN pn rN rc (p_blk K Wd pN pn rN rc d0) u).2.2.2.2.2 - u.2.2.2.2.2); omega)⟩) hS (fun f_24 n_24 H locs hp hW hS => ?_)
  obtain ⟨rfl, rfl⟩ := hp
  have hW : q_W E (va_up (pS E (va_up f u.2.2.2.2.2 (some (rX1 (some (E.2.2.2 u.2.1)) (-1) (-1) 0 none none none none none))) px bk T pn rc (p_cnt (p_new u))) (px + 1) (some (cTS E (px + 1) T (p_step K true (p_cnt (p_new u)))))) (u.2.2.2.2.2 + 1) H := hW
  have hW : q_W E (pS E (va_up f u.2.2.2.2.2 (some (rX1 (some (E.2.2.2 u.2.1)) (-1) (-1) 0 none none none none none))) px bk T pn rc (p_step K true (p_cnt (p_new u)))) (u.2.2.2.2.2 + 1) H := by rw [← pS_st (s := p_cnt (p_new u)) (s' := p_step K true (p_cnt (p_new u))) rfl rfl]; exact hW
  have hW : q_W E (pS E (va_up f u.2.2.2.2.2 (some (rX1 (some (E.2.2.2 u.2.1)) (-1) (-1) 0 none none none none none))) px bk T pn rc (p_step K true (p_cnt (p_new u)))) (u.2.2.2.2.2 + 1) H := hW
  refine va_gets hx hb hA.2.2.1.2.2.2.1.1 hS hown (hts (.fieldLink RX8 151 "HighRecipes$1" "$SwitchMap$HighRecipes$Kind" "[I") (by decide +kernel)) (fun _ h9 => h9) dX8_readAct_27 ?_
  refine lv_aload_n hx hb dX8_readAct_30 rfl (lv_at hl 0 rfl) ?_
  refine q_getN hx hb hts hown hA hW iX1 ((pS_out (by omega) (by omega) (by omega)).trans q_eq) rfl 0 (by decide) (va_Nw.use rfl (hA.2.2.2.1 ("HighRecipes$Parser", 157, "HighRecipes$Act", "kind", "LHighRecipes$Kind;", "HighRecipes") (by decide +kernel))) (fun _ h9 => h9) (v := .ref (E.2.2.2 u.2.1)) rfl dX8_readAct_31 ?_
  refine q_ci (va_runU (As := []) (rest := [.ref (E.2.2.2 101)]) ⟨hx, hb, hml, hown, hts⟩ (q_ordinal l E (pS E (va_up f u.2.2.2.2.2 (some (rX1 (some (E.2.2.2 u.2.1)) (-1) (-1) 0 none none none none none))) px bk T pn rc (p_beg K u)) (u.2.2.2.2.2 + 1) u.2.1 (by rw [hkd]; decide)) (va_cwU 0 hts gX8_readAct_Jx29ce0_ordinal_8abf5_u158X5 rfl rfl rfl rfl (by decide +kernel) ⟨(by show 0 + 1 ≤ 10 * d + 40; omega), (by show 8 + (1 + 11) + 0 ≤ 100 * d + 1000; omega)⟩) ⟨q_P.blind, va_recvE hA.2.2.1.1 (by rw [hkd]; decide) hS, fun U hU hWm => ⟨rfl, hA.go hS hU hWm, by rw [hU]; exact hW⟩⟩ rfl rfl hl.1 rfl (lv_room (Nat.le_of_ble_eq_true rfl)) dX8_readAct_34 ⟨(by show 1 + 0 ≤ (p_act K Wd pN pn rN rc (p_blk K Wd pN pn rN rc d0) u).2.2.2.2.2 - u.2.2.2.2.2; omega), (by show 9 + 0 ≤ 9 * ((p_act K Wd pN pn rN rc (p_blk K Wd pN pn rN rc d0) u).2.2.2.2.2 - u.2.2.2.2.2); omega)⟩) hS (fun r_34 f_34 n_34 H locs hp hW hS => ?_)
  obtain ⟨rfl, rfl, rfl⟩ := hp
  rw [hkd]
  refine va_ti hx hb hA.2.2.1.2.2.2.1.2 hS (vp_in_nI (by decide) (by decide)) (v := .int 4) (by rw [nI_clamp (by decide)]; rfl) dX8_readAct_37 ?_
  refine lv_tableIn (x := 4) (off := 195) (tgt := 233) hx hb dX8_readAct_38 (by decide) (by decide) (by decide) (by decide) ?_
  have oky : p_ok K T (p_take K 8 (p_known K Wd pN pn (p_beg K u))) := (okb.known hKT).take hKT (by decide)
  obtain ⟨w1, hu_w1⟩ : ∃ z, p_val K Wd pN pn 4 (p_take K 8 (p_known K Wd pN pn (p_beg K u))) = z := ⟨_, rfl⟩
  have v_w1 := val_n (Wd := Wd) (pN := pN) (pn := pn) (d := 4) hKT oky
  rw [hu_w1] at v_w1
  have ok_w1 := v_w1.1
  have wn1 : u.2.2.2.2.2 + 1 + 1 ≤ w1.2.2.2.2.2 := v_w1.2.2
  have eU : p_act K Wd pN pn rN rc (p_blk K Wd pN pn rN rc d0) u = p_take K 29 (w1) := by unfold p_act; rw [if_neg (by rw [hkd]; decide), if_neg (by rw [hkd]; decide), if_neg (by rw [hkd]; decide), if_pos hkd, hu_w1]
  have eN : (p_act K Wd pN pn rN rc (p_blk K Wd pN pn rN rc d0) u).2.2.2.2.2 = w1.2.2.2.2.2 := by rw [eU]; rfl
  refine lv_aload_n hx hb dX8_readAct_233 rfl (lv_at hl 0 rfl) ?_
  refine lv_aload_n hx hb dX8_readAct_234 rfl (lv_at hl 1 rfl) ?_
  refine lv_iconst (v := 0) hx hb dX8_readAct_235 (by decide) ?_
  refine q_ci (va_runV (As := [.int 0]) (rest := [.ref u.2.2.2.2.2]) ⟨hx, hb, hml, hown, hts⟩ (kX8_known0 l E (pS E (va_up f u.2.2.2.2.2 (some (rX1 (some (E.2.2.2 u.2.1)) (-1) (-1) 0 none none none none none))) px bk T pn rc (p_beg K u)) (u.2.2.2.2.2 + 1) px bk T pn rc (p_beg K u) kk wo pN rN K Wd ((pS_out (by omega) (by omega) (by omega)).trans (q_ne (by omega) f2)) ((pS_out (by omega) (by omega) (by omega)).trans (q_ne (by omega) f4)) ((pS_out (by omega) (by omega) (by omega)).trans (q_ne (by omega) g1)) ((pS_out (by omega) (by omega) (by omega)).trans (q_ne (by omega) g3)) (pS_K hbk) (by assumption) (by omega) (by assumption) (by assumption) (by assumption) (by assumption) (by assumption) (by assumption) (by assumption) okb) (cwV 1 hts gX8_readAct_X8_readKnownName rfl rfl rfl (by decide +kernel) ⟨(by show 1 + 1 ≤ 10 * d + 40; omega), (by show 8 + (3 + 11) + 24 ≤ 100 * d + 1000; omega)⟩) (q_pV hA hW hS (ci := 8) rfl pS_p) rfl rfl hl.1 rfl (lv_room (Nat.le_of_ble_eq_true rfl)) dX8_readAct_236 ⟨(by show 1 + 0 ≤ (p_act K Wd pN pn rN rc (p_blk K Wd pN pn rN rc d0) u).2.2.2.2.2 - u.2.2.2.2.2; omega), (by show 9 + 0 ≤ 9 * ((p_act K Wd pN pn rN rc (p_blk K Wd pN pn rN rc d0) u).2.2.2.2.2 - u.2.2.2.2.2); omega)⟩) hS (fun r_236 f_236 n_236 H locs hp hW hS => ?_)
  obtain ⟨rfl, rfl, rfl⟩ := hp
  rw [pS_pS] at hW
  have hok_236 : p_ok K T (p_known K Wd pN pn (p_beg K u)) := okb.known hKT
  have hW : q_W E (pS E (va_up f u.2.2.2.2.2 (some (rX1 (some (E.2.2.2 u.2.1)) (-1) (-1) 0 none none none none none))) px bk T pn rc (p_known K Wd pN pn (p_beg K u))) (u.2.2.2.2.2 + 1) H := hW
  refine q_putN hx hb hts hown hA hW hS iX1 tyX1 tyX1_ok nmX1 ((pS_out (by omega) (by omega) (by omega)).trans q_eq) rfl 1 (by decide) (va_Nw.use rfl (hA.2.2.2.1 ("HighRecipes$Parser", 203, "HighRecipes$Act", "pan", "I", "HighRecipes") (by decide +kernel))) (fun _ h9 => h9) rfl rfl rfl (Nat.le_of_ble_eq_true rfl) dX8_readAct_239 (fun H locs hW hS => ?_)
  have hW : q_W E (va_up (pS E (va_up f u.2.2.2.2.2 (some (rX1 (some (E.2.2.2 u.2.1)) (-1) (-1) 0 none none none none none))) px bk T pn rc (p_known K Wd pN pn (p_beg K u))) u.2.2.2.2.2 (some (rX1 (some (E.2.2.2 u.2.1)) (ix pN pn (Wd (p_beg K u).1)) (-1) 0 none none none none none))) (u.2.2.2.2.2 + 1) H := hW
  rw [pS_iu (by omega) (by omega) (by omega)] at hW
  rw [q_upup] at hW
  refine lv_aload_n hx hb dX8_readAct_242 rfl (lv_at hl 1 rfl) ?_
  refine q_get hx hb hts hown hA hW iX8 pS_p rfl 0 (by decide) (hts (.fieldLink RX8 10 "HighRecipes$Parser" "tokens" "LHighRecipes$Tokens;") (by decide +kernel)) (fun _ h9 => h9) (v := .ref (px + 1)) rfl dX8_readAct_243 ?_
  refine lv_aload_n hx hb dX8_readAct_246 rfl (lv_at hl 0 rfl) ?_
  refine q_getN hx hb hts hown hA hW iX1 ((pS_out (by omega) (by omega) (by omega)).trans q_eq) rfl 0 (by decide) (va_Nw.use rfl (hA.2.2.2.1 ("HighRecipes$Parser", 157, "HighRecipes$Act", "kind", "LHighRecipes$Kind;", "HighRecipes") (by decide +kernel))) (fun _ h9 => h9) (v := .ref (E.2.2.2 u.2.1)) rfl dX8_readAct_247 ?_
  refine va_gets (n := "HEAT") (v := .ref (E.2.2.2 7)) hx hb (hA.2.2.1.1.1 7 (by decide)).1 hS hown (hts (.fieldLink RX8 206 "HighRecipes$Kind" "HEAT" "LHighRecipes$Kind;") (by decide +kernel)) (fun _ h9 => h9) dX8_readAct_250 ?_
  refine lv_acmp_ne (rx := (some (E.2.2.2 u.2.1))) (ry := (some (E.2.2.2 7))) (tgt := 262) hx hb dX8_readAct_253 (by decide) (fun c_253 => False.elim ((fun h9 => h9 (by rw [hkd])) c_253)) (fun c_253 => ?_)
  refine va_gets (n := "TO") (v := .ref (E.2.2.2 8)) hx hb (hA.2.2.1.1.1 8 (by decide)).1 hS hown (hts (.fieldLink RX8 209 "HighRecipes$Kind" "TO" "LHighRecipes$Kind;") (by decide +kernel)) (fun _ h9 => h9) dX8_readAct_256 ?_
  refine lv_goto (tgt := 265) hx hb dX8_readAct_259 (by decide) ?_
  refine q_cv (va_runV (As := [.ref (E.2.2.2 8)]) (rest := []) ⟨hx, hb, hml, hown, hts⟩ (kX10_take l E (pS E (va_up f u.2.2.2.2.2 (some (rX1 (some (E.2.2.2 u.2.1)) (ix pN pn (Wd (p_beg K u).1)) (-1) 0 none none none none none))) px bk T pn rc (p_known K Wd pN pn (p_beg K u))) (u.2.2.2.2.2 + 1) (px + 1) T (p_known K Wd pN pn (p_beg K u)) kk K 8 pS_t ((pS_out (by omega) (by omega) (by omega)).trans (q_ne (by omega) f2)) (by assumption) (by assumption) (by assumption) (by assumption) hok_236 (by first | assumption | decide)) (cwV 1 hts gX8_readAct_X10_take rfl rfl rfl (by decide +kernel) ⟨(by show 1 + 1 ≤ 10 * d + 40; omega), (by show 8 + (2 + 11) + 22 ≤ 100 * d + 1000; omega)⟩) (q_pV hA hW hS (ci := 10) rfl pS_t) rfl rfl hl.1 rfl (lv_room (Nat.le_of_ble_eq_true rfl)) dX8_readAct_265 ⟨(by show 1 + 0 ≤ (p_act K Wd pN pn rN rc (p_blk K Wd pN pn rN rc d0) u).2.2.2.2.2 - u.2.2.2.2.2; omega), (by show 9 + 0 ≤ 9 * ((p_act K Wd pN pn rN rc (p_blk K Wd pN pn rN rc d0) u).2.2.2.2.2 - u.2.2.2.2.2); omega)⟩) hS (fun f_265 n_265 H locs hp hW hS => ?_)
  obtain ⟨rfl, rfl⟩ := hp
  have hW : q_W E (va_up (pS E (va_up f u.2.2.2.2.2 (some (rX1 (some (E.2.2.2 u.2.1)) (ix pN pn (Wd (p_beg K u).1)) (-1) 0 none none none none none))) px bk T pn rc (p_known K Wd pN pn (p_beg K u))) (px + 1) (some (cTS E (px + 1) T (p_take K 8 (p_known K Wd pN pn (p_beg K u)))))) (u.2.2.2.2.2 + 1) H := hW
  have hW : q_W E (pS E (va_up f u.2.2.2.2.2 (some (rX1 (some (E.2.2.2 u.2.1)) (ix pN pn (Wd (p_beg K u).1)) (-1) 0 none none none none none))) px bk T pn rc (p_take K 8 (p_known K Wd pN pn (p_beg K u)))) (u.2.2.2.2.2 + 1) H := by rw [← pS_st (s := p_known K Wd pN pn (p_beg K u)) (s' := p_take K 8 (p_known K Wd pN pn (p_beg K u))) rfl rfl]; exact hW
  have hok_265 : p_ok K T (p_take K 8 (p_known K Wd pN pn (p_beg K u))) := hok_236.take hKT (by first | assumption | decide)
  have hW : q_W E (pS E (va_up f u.2.2.2.2.2 (some (rX1 (some (E.2.2.2 u.2.1)) (ix pN pn (Wd (p_beg K u).1)) (-1) 0 none none none none none))) px bk T pn rc (p_take K 8 (p_known K Wd pN pn (p_beg K u)))) (u.2.2.2.2.2 + 1) H := hW
  refine lv_aload_n hx hb dX8_readAct_268 rfl (lv_at hl 0 rfl) ?_
  refine lv_aload_n hx hb dX8_readAct_269 rfl (lv_at hl 1 rfl) ?_
  refine lv_iconst (v := 0) hx hb dX8_readAct_270 (by decide) ?_
  refine q_cq (va_runV (As := [.int 0]) (rest := [.ref u.2.2.2.2.2]) ⟨hx, hb, hml, hown, hts⟩ (val_all l E 4 (pS E (va_up f u.2.2.2.2.2 (some (rX1 (some (E.2.2.2 u.2.1)) (ix pN pn (Wd (p_beg K u).1)) (-1) 0 none none none none none))) px bk T pn rc (p_take K 8 (p_known K Wd pN pn (p_beg K u)))) px bk T pn rc (p_take K 8 (p_known K Wd pN pn (p_beg K u))) kk wo pN rN K Wd  ((pS_out (by omega) (by omega) (by omega)).trans (q_ne (by omega) f2)) ((pS_out (by omega) (by omega) (by omega)).trans (q_ne (by omega) f4)) ((pS_out (by omega) (by omega) (by omega)).trans (q_ne (by omega) g1)) ((pS_out (by omega) (by omega) (by omega)).trans (q_ne (by omega) g3)) (pS_K hbk) hbk (by show bk + 5 ≤ u.2.2.2.2.2 + 1; omega) hT hkk hKT hK41 hWd hpn hrc hok_265 (by decide)) (cwV 1 hts gX8_readAct_X8_readValue rfl rfl rfl (by decide +kernel) ⟨(by show 32 + 1 ≤ 10 * d + 40; omega), (by show 8 + (3 + 11) + 880 ≤ 100 * d + 1000; omega)⟩) (q_pV hA hW hS (ci := 8) rfl pS_p) rfl rfl hl.1 rfl (lv_room (Nat.le_of_ble_eq_true rfl)) dX8_readAct_271 ⟨(by rw [hu_w1]; show 1 + (w1.2.2.2.2.2 - (u.2.2.2.2.2 + 1)) ≤ (p_act K Wd pN pn rN rc (p_blk K Wd pN pn rN rc d0) u).2.2.2.2.2 - u.2.2.2.2.2; omega), (by rw [hu_w1]; show 9 + (9 * (w1.2.2.2.2.2 - (u.2.2.2.2.2 + 1))) ≤ 9 * ((p_act K Wd pN pn rN rc (p_blk K Wd pN pn rN rc d0) u).2.2.2.2.2 - u.2.2.2.2.2); omega)⟩) hS (fun r_271 f_271 n_271 H locs hp hW hS => ?_)
  obtain ⟨g_271, rfl, rfl, rfl, fr_271, rep_271⟩ := hp
  rw [hu_w1] at hW rep_271
  rw [hu_w1]
  have fr_271 : ∀ q, q < u.2.2.2.2.2 + 1 → q ≠ px → q ≠ px + 1 → q ≠ bk → g_271 q = (pS E (va_up f u.2.2.2.2.2 (some (rX1 (some (E.2.2.2 u.2.1)) (ix pN pn (Wd (p_beg K u).1)) (-1) 0 none none none none none))) px bk T pn rc (p_take K 8 (p_known K Wd pN pn (p_beg K u)))) q := fr_271
  have fi_271 : ∀ q, q < u.2.2.2.2.2 → q ≠ px → q ≠ px + 1 → q ≠ bk → g_271 q = f q := fun q hq h7 h8 h9 => (fr_271 q (by omega) h7 h8 h9).trans ((pS_out h7 h8 h9).trans (((va_up_ne _ _ (by omega)).trans rfl)))
  have hW : q_W E (pS E g_271 px bk T pn rc w1) (w1.2.2.2.2.2) H := hW
  refine q_putN hx hb hts hown hA hW hS iX1 tyX1 tyX1_ok nmX1 ((pS_out (by omega) (by omega) (by omega)).trans ((fr_271 _ (by omega) (by omega) (by omega) (by omega)).trans ((pS_out (by omega) (by omega) (by omega)).trans q_eq))) rfl 4 (by decide) (va_Nw.use rfl (hA.2.2.2.1 ("HighRecipes$Parser", 166, "HighRecipes$Act", "value", "LHighRecipes$Value;", "HighRecipes") (by decide +kernel))) (fun _ h9 => h9) rfl rfl rfl (Nat.le_of_ble_eq_true rfl) dX8_readAct_274 (fun H locs hW hS => ?_)
  have hW : q_W E (va_up (pS E g_271 px bk T pn rc w1) u.2.2.2.2.2 (some (rX1 (some (E.2.2.2 u.2.1)) (ix pN pn (Wd (p_beg K u).1)) (-1) 0 (some (u.2.2.2.2.2 + 1)) none none none none))) w1.2.2.2.2.2 H := hW
  rw [pS_iu (by omega) (by omega) (by omega)] at hW
  refine lv_goto (tgt := 313) hx hb dX8_readAct_277 (by decide) ?_
  refine lv_aload_n hx hb dX8_readAct_313 rfl (lv_at hl 1 rfl) ?_
  refine q_get hx hb hts hown hA hW iX8 pS_p rfl 0 (by decide) (hts (.fieldLink RX8 10 "HighRecipes$Parser" "tokens" "LHighRecipes$Tokens;") (by decide +kernel)) (fun _ h9 => h9) (v := .ref (px + 1)) rfl dX8_readAct_314 ?_
  refine va_gets (n := "SEMICOLON") (v := .ref (E.2.2.2 29)) hx hb (hA.2.2.1.1.1 29 (by decide)).1 hS hown (hts (.fieldLink RX8 95 "HighRecipes$Kind" "SEMICOLON" "LHighRecipes$Kind;") (by decide +kernel)) (fun _ h9 => h9) dX8_readAct_317 ?_
  refine q_cv (va_runV (As := [.ref (E.2.2.2 29)]) (rest := []) ⟨hx, hb, hml, hown, hts⟩ (kX10_take l E (pS E (va_up g_271 u.2.2.2.2.2 (some (rX1 (some (E.2.2.2 u.2.1)) (ix pN pn (Wd (p_beg K u).1)) (-1) 0 (some (u.2.2.2.2.2 + 1)) none none none none))) px bk T pn rc w1) w1.2.2.2.2.2 (px + 1) T w1 kk K 29 pS_t ((pS_out (by omega) (by omega) (by omega)).trans (q_ne (by omega) ((fr_271 _ (by omega) (by omega) (by omega) (by omega)).trans ((pS_out (by omega) (by omega) (by omega)).trans (q_ne (by omega) f2))))) (by assumption) (by assumption) (by assumption) (by assumption) ok_w1 (by first | assumption | decide)) (cwV 1 hts gX8_readAct_X10_take rfl rfl rfl (by decide +kernel) ⟨(by show 1 + 1 ≤ 10 * d + 40; omega), (by show 8 + (2 + 11) + 22 ≤ 100 * d + 1000; omega)⟩) (q_pV hA hW hS (ci := 10) rfl pS_t) rfl rfl hl.1 rfl (lv_room (Nat.le_of_ble_eq_true rfl)) dX8_readAct_320 ⟨(by show 1 + (w1.2.2.2.2.2 - (u.2.2.2.2.2 + 1)) + 0 ≤ (p_act K Wd pN pn rN rc (p_blk K Wd pN pn rN rc d0) u).2.2.2.2.2 - u.2.2.2.2.2; omega), (by show 9 + (9 * (w1.2.2.2.2.2 - (u.2.2.2.2.2 + 1))) + 0 ≤ 9 * ((p_act K Wd pN pn rN rc (p_blk K Wd pN pn rN rc d0) u).2.2.2.2.2 - u.2.2.2.2.2); omega)⟩) hS (fun f_320 n_320 H locs hp hW hS => ?_)
  obtain ⟨rfl, rfl⟩ := hp
  have hW : q_W E (va_up (pS E (va_up g_271 u.2.2.2.2.2 (some (rX1 (some (E.2.2.2 u.2.1)) (ix pN pn (Wd (p_beg K u).1)) (-1) 0 (some (u.2.2.2.2.2 + 1)) none none none none))) px bk T pn rc w1) (px + 1) (some (cTS E (px + 1) T (p_take K 29 w1)))) w1.2.2.2.2.2 H := hW
  have hW : q_W E (pS E (va_up g_271 u.2.2.2.2.2 (some (rX1 (some (E.2.2.2 u.2.1)) (ix pN pn (Wd (p_beg K u).1)) (-1) 0 (some (u.2.2.2.2.2 + 1)) none none none none))) px bk T pn rc (p_take K 29 w1)) w1.2.2.2.2.2 H := by rw [← pS_st (s := w1) (s' := p_take K 29 w1) rfl rfl]; exact hW
  have hok_320 : p_ok K T (p_take K 29 w1) := ok_w1.take hKT (by first | assumption | decide)
  have hW : q_W E (pS E (va_up g_271 u.2.2.2.2.2 (some (rX1 (some (E.2.2.2 u.2.1)) (ix pN pn (Wd (p_beg K u).1)) (-1) 0 (some (u.2.2.2.2.2 + 1)) none none none none))) px bk T pn rc (p_take K 29 w1)) w1.2.2.2.2.2 H := hW
  refine lv_aload_n hx hb dX8_readAct_323 rfl (lv_at hl 0 rfl) ?_
  have eS : p_actS K Wd pN pn rN rc RS (p_blk K Wd pN pn rN rc d0) (p_blkS K Wd pN pn rN rc RS d0) u = k_heat pn (ix pN pn (Wd (p_beg K u).1)).toNatClampNeg (p_valD K Wd pN pn 4 (p_take K 8 (p_known K Wd pN pn (p_beg K u)))) := by unfold p_actS; rw [if_neg (by rw [hkd]; decide), if_neg (by rw [hkd]; decide), if_neg (by rw [hkd]; decide), if_pos hkd]
  have rep : (p_take K 29 (w1)).2.1 ≠ 40 → (p_take K 29 (w1)).2.2.1 = 0 → ∀ o9 : Option Nat, rA E pn u.2.2.2.2.2 (p_take K 29 (w1)).2.2.2.2.2 (va_up (va_up g_271 u.2.2.2.2.2 (some (rX1 (some (E.2.2.2 u.2.1)) (ix pN pn (Wd (p_beg K u).1)) (-1) 0 (some (u.2.2.2.2.2 + 1)) none none none none))) u.2.2.2.2.2 (some (cAct E u.2.1 (ix pN pn (Wd (p_beg K u).1)) (-1) 0 (some (u.2.2.2.2.2 + 1)) none none none o9))) RS rc d u.2.2.2.2.2 (k_heat pn (ix pN pn (Wd (p_beg K u).1)).toNatClampNeg (p_valD K Wd pN pn 4 (p_take K 8 (p_known K Wd pN pn (p_beg K u))))) := by
    intro k1 k2 o9
    have L := (go_take (s := w1) (w := 29) hKT (by decide) ok_w1).2
    have R1 := rep_271 (L.2.2.1 k1) (L.2.2.2 k2)
    have Lv := v_w1.2.1
    have Lt := (go_take (s := p_known K Wd pN pn (p_beg K u)) (w := 8) hKT (by decide) (okb.known hKT)).2
    obtain ⟨-, i, hi, hix⟩ := known_ok hpn (Lt.2.2.1 (Lv.2.2.1 (L.2.2.1 k1))) (Lt.2.2.2 (Lv.2.2.2 (L.2.2.2 k2)))
    rw [hix, nI_clamp (by omega), hd1]
    refine ⟨u.2.1, _, _, _, _, _, _, _, o9, Nat.le_refl _, (by show u.2.2.2.2.2 < w1.2.2.2.2.2; omega), q_eq, Or.inr (Or.inl ⟨hkd, i, u.2.2.2.2.2 + 1, _, hi, rfl, rfl, rV_frame ?_ (Nat.le_succ _) (Nat.le_refl _) _ _ _ R1, rfl⟩)⟩
    intro q h1 h2
    have h1 : u.2.2.2.2.2 + 1 ≤ q := h1
    exact (va_up_ne _ _ (by omega)).trans (va_up_ne _ _ (by omega))
  exact q_aret (v := some u.2.2.2.2.2) hx hb hr (Or.inl ⟨_, rfl⟩) hlocks hW hS ⟨_, _, _, _, _, _, _, _, rfl, congrArg (fun z => pS E _ px bk T pn rc z) eU, (by rw [eU]; try rfl), fun q hq h7 h8 h9 => ((va_up_ne _ _ (by omega)).trans (fi_271 q hq h7 h8 h9)), q_eq, fun k1 k2 => by rw [eS]; rw [eU] at k1 k2 ⊢; exact rep k1 k2⟩ (by show 1 + (w1.2.2.2.2.2 - (u.2.2.2.2.2 + 1)) ≤ (p_act K Wd pN pn rN rc (p_blk K Wd pN pn rN rc d0) u).2.2.2.2.2 - u.2.2.2.2.2; omega) (by show 9 + (9 * (w1.2.2.2.2.2 - (u.2.2.2.2.2 + 1))) ≤ 9 * ((p_act K Wd pN pn rN rc (p_blk K Wd pN pn rN rc d0) u).2.2.2.2.2 - u.2.2.2.2.2); omega) dX8_readAct_324

set_option maxHeartbeats 4000000 in
set_option maxRecDepth 100000 in
theorem kX8_readAct_9 (l : Launch) (E : q_E) (f : q_H) (n : Nat) (px bk T pn rc : Nat) (u : p_S) (kk : Nat → Option Nat) (wo pN rN : Nat → Int64) (K : Nat → Nat) (Wd : Nat → Int64) (RS : Nat → q_S) (d d0 : Nat) (f2 : f (px + 2) = some (aQ E 5 401 kk)) (f4 : f (px + 4) = some (aJ E 401 wo)) (g1 : f (bk + 1) = some (aJ E 8 pN)) (g3 : f (bk + 3) = some (aJ E 6 rN)) (hp : PAR E f px bk T pn rc u) (hbk : px + 5 ≤ bk) (hn : bk + 5 ≤ n) (hT : T ≤ 400) (hkk : ∀ j, j ≤ T → kk j = some (E.2.2.2 (K j))) (hKT : 39 ≤ K T) (hK41 : ∀ j, K j < 41) (hWd : ∀ j, j ≤ T → wo j = Wd j) (hpn : pn ≤ 8) (hrc : rc ≤ 6) (hok : p_ok K T u) (hsn : n = u.2.2.2.2.2) (hkd : u.2.1 = 9) (hd1 : d = d0 + 1) (hd6 : d ≤ 6) (ihB : RBK l E RS d0) : Met l yX8_readAct wsX8_readAct ({ frames := 10 * d + 40, cells := (p_act K Wd pN pn rN rc (p_blk K Wd pN pn rN rc d0) u).2.2.2.2.2 - u.2.2.2.2.2, slots := 9 * ((p_act K Wd pN pn rN rc (p_blk K Wd pN pn rN rc d0) u).2.2.2.2.2 - u.2.2.2.2.2), locals := 100 * d + 1000 }) (q_P E [.ref px, .int (nI (6 - d))] f n) (q_Qq E (ACTq E f px bk T pn rc K Wd pN rN RS d d0 u)) ((p_act K Wd pN pn rN rc (p_blk K Wd pN pn rN rc d0) u).2.2.2.2.2 - u.2.2.2.2.2) (9 * ((p_act K Wd pN pn rN rc (p_blk K Wd pN pn rN rc d0) u).2.2.2.2.2 - u.2.2.2.2.2)) (q_ge E) := by
  refine Met.ofW (cc := cX8_readAct) (maxL := 3) (ret := (some (.object "HighRecipes$Act"))) (by decide) rfl ?_
  intro p e s m args below meth c s₁ B hml hv
  obtain ⟨rfl, hA, hW⟩ := hv
  have hx := B.exec
  have hb := B.bytes
  have hr := B.returns
  have hts := atoms_spec (ws := wsX8_readAct) B.pre
  have hown : s.vm.findClass RX8 = some m.cls := findClass_of_methodNamed B.named
  have hlocks := B.notSynchronized
  have hS : va_S (q_ge E) s.heap s.heap [] := va_S.rf
  have iX1 : ∀ w ∈ wsX10, w ∈ wsX8_readAct := by decide +kernel
  have iX10 : ∀ w ∈ wsX100, w ∈ wsX8_readAct := by decide +kernel
  have iX8 : ∀ w ∈ wsX80, w ∈ wsX8_readAct := by decide +kernel
  have hl := lv_entry ([.ref px, .int (nI (6 - d))]) (n := 3) (Nat.le_of_ble_eq_true rfl)
  rw [lg_entry_eq]
  generalize (lg_sl ([.ref px, .int (nI (6 - d))]) ++ List.replicate (3 - (lg_sl ([.ref px, .int (nI (6 - d))])).length) Slot.unset).toArray = ls at hl ⊢
  have hl : lv_has ls 3 [(0, .ref px), (1, .int (nI (6 - d)))] := hl
  subst hsn
  rw [hp.eq] at hW
  have hk41 : u.2.1 < 41 := by rcases hok.2.1 with h9 | h9 <;> rw [h9]; decide; exact hK41 _
  have hlt : u.2.1 < 39 := by rw [hkd]; decide
  have okb : p_ok K T (p_beg K u) := p_ok.act (s := p_new u) hok hKT hlt
  have hna : u.2.2.2.2.2 + 1 ≤ (p_act K Wd pN pn rN rc (p_blk K Wd pN pn rN rc d0) u).2.2.2.2.2 := act_n hKT (by rw [hkd]; rfl) hok
  have gob := (go_beg (s := u) hKT hlt hok).2
  have ea : nI (6 - d) + 1 = nI (6 - d0) := by rw [nI_1]; congr 1; omega
  refine q_new (ci := 2) hx hb hts hown hA hW hS iX1 tyX1 tyX1_ok (hts (.classLink RX8 135 RX1) (by decide +kernel)) (hts (.instantiable RX1 9) (by decide +kernel)) (hts (.initialized RX1) (by decide +kernel)) rfl (fs := [.null, .int 0, .int 0, .int 0, .null, .null, .null, .null, .null]) (by decide) (by show 0 + 1 ≤ (p_act K Wd pN pn rN rc (p_blk K Wd pN pn rN rc d0) u).2.2.2.2.2 - u.2.2.2.2.2; omega) (by show 0 + 9 ≤ 9 * ((p_act K Wd pN pn rN rc (p_blk K Wd pN pn rN rc d0) u).2.2.2.2.2 - u.2.2.2.2.2); omega) dX8_readAct_0 (fun H hW hS => ?_)
  have hW : q_W E (va_up (pS E f px bk T pn rc u) u.2.2.2.2.2 (some (rX1 none 0 0 0 none none none none none))) (u.2.2.2.2.2 + 1) H := hW
  rw [pS_iu (by omega) (by omega) (by omega)] at hW
  have hW : q_W E (pS E (va_up f u.2.2.2.2.2 (some (rX1 none 0 0 0 none none none none none))) px bk T pn rc (p_new u)) (u.2.2.2.2.2 + 1) H := hW
  refine lv_dup hx hb dX8_readAct_3 rfl ?_
  refine lv_aload_n hx hb dX8_readAct_4 rfl (lv_at hl 0 rfl) ?_
  refine q_get hx hb hts hown hA hW iX8 pS_p rfl 0 (by decide) (hts (.fieldLink RX8 10 "HighRecipes$Parser" "tokens" "LHighRecipes$Tokens;") (by decide +kernel)) (fun _ h9 => h9) (v := .ref (px + 1)) rfl dX8_readAct_5 ?_
  refine q_getN hx hb hts hown hA hW iX10 pS_t rfl 5 (by decide) (va_Nw.use rfl (hA.2.2.2.1 ("HighRecipes$Parser", 31, "HighRecipes$Tokens", "kind", "LHighRecipes$Kind;", "HighRecipes") (by decide +kernel))) (fun _ h9 => h9) (v := .ref (E.2.2.2 ((p_new u)).2.1)) rfl dX8_readAct_8 ?_
  refine q_cv (va_runI (As := [.ref (E.2.2.2 u.2.1)]) (rest := [.ref u.2.2.2.2.2]) ⟨hx, hb, hml, hown, hts⟩ (kX1_init l E (pS E (va_up f u.2.2.2.2.2 (some (rX1 none 0 0 0 none none none none none))) px bk T pn rc (p_new u)) (u.2.2.2.2.2 + 1) u.2.2.2.2.2 u.2.1 ((pS_out (by omega) (by omega) (by omega)).trans q_eq)) (cwI 1 hts gX8_readAct_X1_init rfl rfl rfl (hts (.initialized RX1) (by decide +kernel)) (hts (.methodLink RX8 146 yX1_init) (by decide +kernel)) (hts (.instanceMethod yX1_init) (by decide +kernel)) rfl (by decide +kernel) ⟨(by show 1 + 1 ≤ 10 * d + 40; omega), (by show 8 + (2 + 11) + 20 ≤ 100 * d + 1000; omega)⟩) (q_pS hA hW hS) rfl rfl hl.1 rfl (lv_room (Nat.le_of_ble_eq_true rfl)) dX8_readAct_11 ⟨(by show 1 + 0 ≤ (p_act K Wd pN pn rN rc (p_blk K Wd pN pn rN rc d0) u).2.2.2.2.2 - u.2.2.2.2.2; omega), (by show 9 + 0 ≤ 9 * ((p_act K Wd pN pn rN rc (p_blk K Wd pN pn rN rc d0) u).2.2.2.2.2 - u.2.2.2.2.2); omega)⟩) hS (fun f_11 n_11 H locs hp hW hS => ?_)
  obtain ⟨rfl, rfl⟩ := hp
  have hW : q_W E (va_up (pS E (va_up f u.2.2.2.2.2 (some (rX1 none 0 0 0 none none none none none))) px bk T pn rc (p_new u)) u.2.2.2.2.2 (some (rX1 (some (E.2.2.2 u.2.1)) (-1) (-1) 0 none none none none none))) (u.2.2.2.2.2 + 1) H := hW
  rw [pS_iu (by omega) (by omega) (by omega)] at hW
  rw [q_upup] at hW
  have hW : q_W E (pS E (va_up f u.2.2.2.2.2 (some (rX1 (some (E.2.2.2 u.2.1)) (-1) (-1) 0 none none none none none))) px bk T pn rc (p_new u)) (u.2.2.2.2.2 + 1) H := hW
  refine lv_astore_n (lv' := [(2, .ref u.2.2.2.2.2), (0, .ref px), (1, .int (nI (6 - d)))]) hx hb dX8_readAct_14 rfl hl (by decide) rfl (fun ls hl => ?_)
  refine lv_aload_n hx hb dX8_readAct_15 rfl (lv_at hl 1 rfl) ?_
  refine q_cv (va_runV (As := []) (rest := []) ⟨hx, hb, hml, hown, hts⟩ (kX8_countAct l E (pS E (va_up f u.2.2.2.2.2 (some (rX1 (some (E.2.2.2 u.2.1)) (-1) (-1) 0 none none none none none))) px bk T pn rc (p_new u)) (u.2.2.2.2.2 + 1) px bk T pn rc (p_new u) kk wo pN rN K Wd ((pS_out (by omega) (by omega) (by omega)).trans (q_ne (by omega) f2)) ((pS_out (by omega) (by omega) (by omega)).trans (q_ne (by omega) f4)) ((pS_out (by omega) (by omega) (by omega)).trans (q_ne (by omega) g1)) ((pS_out (by omega) (by omega) (by omega)).trans (q_ne (by omega) g3)) (pS_K hbk) (by assumption) (by omega) (by assumption) (by assumption) (by assumption) (by assumption) (by assumption) (by assumption) (by assumption) hok.new) (cwV 0 hts gX8_readAct_X8_countAct rfl rfl rfl (by decide +kernel) ⟨(by show 1 + 1 ≤ 10 * d + 40; omega), (by show 8 + (1 + 11) + 21 ≤ 100 * d + 1000; omega)⟩) (q_pV hA hW hS (ci := 8) rfl pS_p) rfl rfl hl.1 rfl (lv_room (Nat.le_of_ble_eq_true rfl)) dX8_readAct_16 ⟨(by show 1 + 0 ≤ (p_act K Wd pN pn rN rc (p_blk K Wd pN pn rN rc d0) u).2.2.2.2.2 - u.2.2.2.2.2; omega), (by show 9 + 0 ≤ 9 * ((p_act K Wd pN pn rN rc (p_blk K Wd pN pn rN rc d0) u).2.2.2.2.2 - u.2.2.2.2.2); omega)⟩) hS (fun f_16 n_16 H locs hp hW hS => ?_)
  obtain ⟨rfl, rfl⟩ := hp
  rw [pS_pS] at hW
  have hW : q_W E (pS E (va_up f u.2.2.2.2.2 (some (rX1 (some (E.2.2.2 u.2.1)) (-1) (-1) 0 none none none none none))) px bk T pn rc (p_cnt (p_new u))) (u.2.2.2.2.2 + 1) H := hW
  refine lv_aload_n hx hb dX8_readAct_19 rfl (lv_at hl 1 rfl) ?_
  refine q_get hx hb hts hown hA hW iX8 pS_p rfl 0 (by decide) (hts (.fieldLink RX8 10 "HighRecipes$Parser" "tokens" "LHighRecipes$Tokens;") (by decide +kernel)) (fun _ h9 => h9) (v := .ref (px + 1)) rfl dX8_readAct_20 ?_
  refine lv_iconst (v := 1) hx hb dX8_readAct_23 (by decide) ?_
  refine q_cv (va_runV (As := [.int 1]) (rest := []) ⟨hx, hb, hml, hown, hts⟩ (kX10_step l E (pS E (va_up f u.2.2.2.2.2 (some (rX1 (some (E.2.2.2 u.2.1)) (-1) (-1) 0 none none none none none))) px bk T pn rc (p_cnt (p_new u))) (u.2.2.2.2.2 + 1) (px + 1) T (p_cnt (p_new u)) kk K true pS_t ((pS_out (by omega) (by omega) (by omega)).trans (q_ne (by omega) f2)) (by assumption) (by assumption) (hok.step hKT (r := true) (fun _ => hlt)).2) (cwV 1 hts gX8_readAct_X10_step rfl rfl rfl (by decide +kernel) ⟨(by show 0 + 1 ≤ 10 * d + 40; omega), (by show 8 + (3 + 11) + 0 ≤ 100 * d + 1000; omega)⟩) (q_pV hA hW hS (ci := 10) rfl pS_t) rfl rfl hl.1 rfl (lv_room (Nat.le_of_ble_eq_true rfl)) dX8_readAct_24 ⟨(by show 1 + 0 ≤ (p_act K Wd pN pn rN rc (p_blk K Wd pN pn rN rc d0) u).2.2.2.2.2 - u.2.2.2.2.2; omega), (by show 9 + 0 ≤ 9 * ((p_act K Wd pN pn rN rc (p_blk K Wd pN pn rN rc d0) u).2.2.2.2.2 - u.2.2.2.2.2); omega)⟩) hS (fun f_24 n_24 H locs hp hW hS => ?_)
  obtain ⟨rfl, rfl⟩ := hp
  have hW : q_W E (va_up (pS E (va_up f u.2.2.2.2.2 (some (rX1 (some (E.2.2.2 u.2.1)) (-1) (-1) 0 none none none none none))) px bk T pn rc (p_cnt (p_new u))) (px + 1) (some (cTS E (px + 1) T (p_step K true (p_cnt (p_new u)))))) (u.2.2.2.2.2 + 1) H := hW
  have hW : q_W E (pS E (va_up f u.2.2.2.2.2 (some (rX1 (some (E.2.2.2 u.2.1)) (-1) (-1) 0 none none none none none))) px bk T pn rc (p_step K true (p_cnt (p_new u)))) (u.2.2.2.2.2 + 1) H := by rw [← pS_st (s := p_cnt (p_new u)) (s' := p_step K true (p_cnt (p_new u))) rfl rfl]; exact hW
  have hW : q_W E (pS E (va_up f u.2.2.2.2.2 (some (rX1 (some (E.2.2.2 u.2.1)) (-1) (-1) 0 none none none none none))) px bk T pn rc (p_step K true (p_cnt (p_new u)))) (u.2.2.2.2.2 + 1) H := hW
  refine va_gets hx hb hA.2.2.1.2.2.2.1.1 hS hown (hts (.fieldLink RX8 151 "HighRecipes$1" "$SwitchMap$HighRecipes$Kind" "[I") (by decide +kernel)) (fun _ h9 => h9) dX8_readAct_27 ?_
  refine lv_aload_n hx hb dX8_readAct_30 rfl (lv_at hl 0 rfl) ?_
  refine q_getN hx hb hts hown hA hW iX1 ((pS_out (by omega) (by omega) (by omega)).trans q_eq) rfl 0 (by decide) (va_Nw.use rfl (hA.2.2.2.1 ("HighRecipes$Parser", 157, "HighRecipes$Act", "kind", "LHighRecipes$Kind;", "HighRecipes") (by decide +kernel))) (fun _ h9 => h9) (v := .ref (E.2.2.2 u.2.1)) rfl dX8_readAct_31 ?_
  refine q_ci (va_runU (As := []) (rest := [.ref (E.2.2.2 101)]) ⟨hx, hb, hml, hown, hts⟩ (q_ordinal l E (pS E (va_up f u.2.2.2.2.2 (some (rX1 (some (E.2.2.2 u.2.1)) (-1) (-1) 0 none none none none none))) px bk T pn rc (p_beg K u)) (u.2.2.2.2.2 + 1) u.2.1 (by rw [hkd]; decide)) (va_cwU 0 hts gX8_readAct_Jx29ce0_ordinal_8abf5_u158X5 rfl rfl rfl rfl (by decide +kernel) ⟨(by show 0 + 1 ≤ 10 * d + 40; omega), (by show 8 + (1 + 11) + 0 ≤ 100 * d + 1000; omega)⟩) ⟨q_P.blind, va_recvE hA.2.2.1.1 (by rw [hkd]; decide) hS, fun U hU hWm => ⟨rfl, hA.go hS hU hWm, by rw [hU]; exact hW⟩⟩ rfl rfl hl.1 rfl (lv_room (Nat.le_of_ble_eq_true rfl)) dX8_readAct_34 ⟨(by show 1 + 0 ≤ (p_act K Wd pN pn rN rc (p_blk K Wd pN pn rN rc d0) u).2.2.2.2.2 - u.2.2.2.2.2; omega), (by show 9 + 0 ≤ 9 * ((p_act K Wd pN pn rN rc (p_blk K Wd pN pn rN rc d0) u).2.2.2.2.2 - u.2.2.2.2.2); omega)⟩) hS (fun r_34 f_34 n_34 H locs hp hW hS => ?_)
  obtain ⟨rfl, rfl, rfl⟩ := hp
  rw [hkd]
  refine va_ti hx hb hA.2.2.1.2.2.2.1.2 hS (vp_in_nI (by decide) (by decide)) (v := .int 5) (by rw [nI_clamp (by decide)]; rfl) dX8_readAct_37 ?_
  refine lv_tableIn (x := 5) (off := 195) (tgt := 233) hx hb dX8_readAct_38 (by decide) (by decide) (by decide) (by decide) ?_
  have oky : p_ok K T (p_take K 10 (p_known K Wd pN pn (p_beg K u))) := (okb.known hKT).take hKT (by decide)
  obtain ⟨w1, hu_w1⟩ : ∃ z, p_val K Wd pN pn 4 (p_take K 10 (p_known K Wd pN pn (p_beg K u))) = z := ⟨_, rfl⟩
  have v_w1 := val_n (Wd := Wd) (pN := pN) (pn := pn) (d := 4) hKT oky
  rw [hu_w1] at v_w1
  have ok_w1 := v_w1.1
  have wn1 : u.2.2.2.2.2 + 1 + 1 ≤ w1.2.2.2.2.2 := v_w1.2.2
  have eU : p_act K Wd pN pn rN rc (p_blk K Wd pN pn rN rc d0) u = p_take K 29 (w1) := by unfold p_act; rw [if_neg (by rw [hkd]; decide), if_neg (by rw [hkd]; decide), if_neg (by rw [hkd]; decide), if_neg (by rw [hkd]; decide), if_pos hkd, hu_w1]
  have eN : (p_act K Wd pN pn rN rc (p_blk K Wd pN pn rN rc d0) u).2.2.2.2.2 = w1.2.2.2.2.2 := by rw [eU]; rfl
  refine lv_aload_n hx hb dX8_readAct_233 rfl (lv_at hl 0 rfl) ?_
  refine lv_aload_n hx hb dX8_readAct_234 rfl (lv_at hl 1 rfl) ?_
  refine lv_iconst (v := 0) hx hb dX8_readAct_235 (by decide) ?_
  refine q_ci (va_runV (As := [.int 0]) (rest := [.ref u.2.2.2.2.2]) ⟨hx, hb, hml, hown, hts⟩ (kX8_known0 l E (pS E (va_up f u.2.2.2.2.2 (some (rX1 (some (E.2.2.2 u.2.1)) (-1) (-1) 0 none none none none none))) px bk T pn rc (p_beg K u)) (u.2.2.2.2.2 + 1) px bk T pn rc (p_beg K u) kk wo pN rN K Wd ((pS_out (by omega) (by omega) (by omega)).trans (q_ne (by omega) f2)) ((pS_out (by omega) (by omega) (by omega)).trans (q_ne (by omega) f4)) ((pS_out (by omega) (by omega) (by omega)).trans (q_ne (by omega) g1)) ((pS_out (by omega) (by omega) (by omega)).trans (q_ne (by omega) g3)) (pS_K hbk) (by assumption) (by omega) (by assumption) (by assumption) (by assumption) (by assumption) (by assumption) (by assumption) (by assumption) okb) (cwV 1 hts gX8_readAct_X8_readKnownName rfl rfl rfl (by decide +kernel) ⟨(by show 1 + 1 ≤ 10 * d + 40; omega), (by show 8 + (3 + 11) + 24 ≤ 100 * d + 1000; omega)⟩) (q_pV hA hW hS (ci := 8) rfl pS_p) rfl rfl hl.1 rfl (lv_room (Nat.le_of_ble_eq_true rfl)) dX8_readAct_236 ⟨(by show 1 + 0 ≤ (p_act K Wd pN pn rN rc (p_blk K Wd pN pn rN rc d0) u).2.2.2.2.2 - u.2.2.2.2.2; omega), (by show 9 + 0 ≤ 9 * ((p_act K Wd pN pn rN rc (p_blk K Wd pN pn rN rc d0) u).2.2.2.2.2 - u.2.2.2.2.2); omega)⟩) hS (fun r_236 f_236 n_236 H locs hp hW hS => ?_)
  obtain ⟨rfl, rfl, rfl⟩ := hp
  rw [pS_pS] at hW
  have hok_236 : p_ok K T (p_known K Wd pN pn (p_beg K u)) := okb.known hKT
  have hW : q_W E (pS E (va_up f u.2.2.2.2.2 (some (rX1 (some (E.2.2.2 u.2.1)) (-1) (-1) 0 none none none none none))) px bk T pn rc (p_known K Wd pN pn (p_beg K u))) (u.2.2.2.2.2 + 1) H := hW
  refine q_putN hx hb hts hown hA hW hS iX1 tyX1 tyX1_ok nmX1 ((pS_out (by omega) (by omega) (by omega)).trans q_eq) rfl 1 (by decide) (va_Nw.use rfl (hA.2.2.2.1 ("HighRecipes$Parser", 203, "HighRecipes$Act", "pan", "I", "HighRecipes") (by decide +kernel))) (fun _ h9 => h9) rfl rfl rfl (Nat.le_of_ble_eq_true rfl) dX8_readAct_239 (fun H locs hW hS => ?_)
  have hW : q_W E (va_up (pS E (va_up f u.2.2.2.2.2 (some (rX1 (some (E.2.2.2 u.2.1)) (-1) (-1) 0 none none none none none))) px bk T pn rc (p_known K Wd pN pn (p_beg K u))) u.2.2.2.2.2 (some (rX1 (some (E.2.2.2 u.2.1)) (ix pN pn (Wd (p_beg K u).1)) (-1) 0 none none none none none))) (u.2.2.2.2.2 + 1) H := hW
  rw [pS_iu (by omega) (by omega) (by omega)] at hW
  rw [q_upup] at hW
  refine lv_aload_n hx hb dX8_readAct_242 rfl (lv_at hl 1 rfl) ?_
  refine q_get hx hb hts hown hA hW iX8 pS_p rfl 0 (by decide) (hts (.fieldLink RX8 10 "HighRecipes$Parser" "tokens" "LHighRecipes$Tokens;") (by decide +kernel)) (fun _ h9 => h9) (v := .ref (px + 1)) rfl dX8_readAct_243 ?_
  refine lv_aload_n hx hb dX8_readAct_246 rfl (lv_at hl 0 rfl) ?_
  refine q_getN hx hb hts hown hA hW iX1 ((pS_out (by omega) (by omega) (by omega)).trans q_eq) rfl 0 (by decide) (va_Nw.use rfl (hA.2.2.2.1 ("HighRecipes$Parser", 157, "HighRecipes$Act", "kind", "LHighRecipes$Kind;", "HighRecipes") (by decide +kernel))) (fun _ h9 => h9) (v := .ref (E.2.2.2 u.2.1)) rfl dX8_readAct_247 ?_
  refine va_gets (n := "HEAT") (v := .ref (E.2.2.2 7)) hx hb (hA.2.2.1.1.1 7 (by decide)).1 hS hown (hts (.fieldLink RX8 206 "HighRecipes$Kind" "HEAT" "LHighRecipes$Kind;") (by decide +kernel)) (fun _ h9 => h9) dX8_readAct_250 ?_
  refine lv_acmp_ne (rx := (some (E.2.2.2 u.2.1))) (ry := (some (E.2.2.2 7))) (tgt := 262) hx hb dX8_readAct_253 (by decide) (fun c_253 => ?_) (fun c_253 => False.elim ((fun h9 => absurd (q_kinj hA hk41 (by decide) h9) (by rw [hkd]; decide)) c_253))
  refine va_gets (n := "FOR") (v := .ref (E.2.2.2 10)) hx hb (hA.2.2.1.1.1 10 (by decide)).1 hS hown (hts (.fieldLink RX8 212 "HighRecipes$Kind" "FOR" "LHighRecipes$Kind;") (by decide +kernel)) (fun _ h9 => h9) dX8_readAct_262 ?_
  refine q_cv (va_runV (As := [.ref (E.2.2.2 10)]) (rest := []) ⟨hx, hb, hml, hown, hts⟩ (kX10_take l E (pS E (va_up f u.2.2.2.2.2 (some (rX1 (some (E.2.2.2 u.2.1)) (ix pN pn (Wd (p_beg K u).1)) (-1) 0 none none none none none))) px bk T pn rc (p_known K Wd pN pn (p_beg K u))) (u.2.2.2.2.2 + 1) (px + 1) T (p_known K Wd pN pn (p_beg K u)) kk K 10 pS_t ((pS_out (by omega) (by omega) (by omega)).trans (q_ne (by omega) f2)) (by assumption) (by assumption) (by assumption) (by assumption) hok_236 (by first | assumption | decide)) (cwV 1 hts gX8_readAct_X10_take rfl rfl rfl (by decide +kernel) ⟨(by show 1 + 1 ≤ 10 * d + 40; omega), (by show 8 + (2 + 11) + 22 ≤ 100 * d + 1000; omega)⟩) (q_pV hA hW hS (ci := 10) rfl pS_t) rfl rfl hl.1 rfl (lv_room (Nat.le_of_ble_eq_true rfl)) dX8_readAct_265 ⟨(by show 1 + 0 ≤ (p_act K Wd pN pn rN rc (p_blk K Wd pN pn rN rc d0) u).2.2.2.2.2 - u.2.2.2.2.2; omega), (by show 9 + 0 ≤ 9 * ((p_act K Wd pN pn rN rc (p_blk K Wd pN pn rN rc d0) u).2.2.2.2.2 - u.2.2.2.2.2); omega)⟩) hS (fun f_265 n_265 H locs hp hW hS => ?_)
  obtain ⟨rfl, rfl⟩ := hp
  have hW : q_W E (va_up (pS E (va_up f u.2.2.2.2.2 (some (rX1 (some (E.2.2.2 u.2.1)) (ix pN pn (Wd (p_beg K u).1)) (-1) 0 none none none none none))) px bk T pn rc (p_known K Wd pN pn (p_beg K u))) (px + 1) (some (cTS E (px + 1) T (p_take K 10 (p_known K Wd pN pn (p_beg K u)))))) (u.2.2.2.2.2 + 1) H := hW
  have hW : q_W E (pS E (va_up f u.2.2.2.2.2 (some (rX1 (some (E.2.2.2 u.2.1)) (ix pN pn (Wd (p_beg K u).1)) (-1) 0 none none none none none))) px bk T pn rc (p_take K 10 (p_known K Wd pN pn (p_beg K u)))) (u.2.2.2.2.2 + 1) H := by rw [← pS_st (s := p_known K Wd pN pn (p_beg K u)) (s' := p_take K 10 (p_known K Wd pN pn (p_beg K u))) rfl rfl]; exact hW
  have hok_265 : p_ok K T (p_take K 10 (p_known K Wd pN pn (p_beg K u))) := hok_236.take hKT (by first | assumption | decide)
  have hW : q_W E (pS E (va_up f u.2.2.2.2.2 (some (rX1 (some (E.2.2.2 u.2.1)) (ix pN pn (Wd (p_beg K u).1)) (-1) 0 none none none none none))) px bk T pn rc (p_take K 10 (p_known K Wd pN pn (p_beg K u)))) (u.2.2.2.2.2 + 1) H := hW
  refine lv_aload_n hx hb dX8_readAct_268 rfl (lv_at hl 0 rfl) ?_
  refine lv_aload_n hx hb dX8_readAct_269 rfl (lv_at hl 1 rfl) ?_
  refine lv_iconst (v := 0) hx hb dX8_readAct_270 (by decide) ?_
  refine q_cq (va_runV (As := [.int 0]) (rest := [.ref u.2.2.2.2.2]) ⟨hx, hb, hml, hown, hts⟩ (val_all l E 4 (pS E (va_up f u.2.2.2.2.2 (some (rX1 (some (E.2.2.2 u.2.1)) (ix pN pn (Wd (p_beg K u).1)) (-1) 0 none none none none none))) px bk T pn rc (p_take K 10 (p_known K Wd pN pn (p_beg K u)))) px bk T pn rc (p_take K 10 (p_known K Wd pN pn (p_beg K u))) kk wo pN rN K Wd  ((pS_out (by omega) (by omega) (by omega)).trans (q_ne (by omega) f2)) ((pS_out (by omega) (by omega) (by omega)).trans (q_ne (by omega) f4)) ((pS_out (by omega) (by omega) (by omega)).trans (q_ne (by omega) g1)) ((pS_out (by omega) (by omega) (by omega)).trans (q_ne (by omega) g3)) (pS_K hbk) hbk (by show bk + 5 ≤ u.2.2.2.2.2 + 1; omega) hT hkk hKT hK41 hWd hpn hrc hok_265 (by decide)) (cwV 1 hts gX8_readAct_X8_readValue rfl rfl rfl (by decide +kernel) ⟨(by show 32 + 1 ≤ 10 * d + 40; omega), (by show 8 + (3 + 11) + 880 ≤ 100 * d + 1000; omega)⟩) (q_pV hA hW hS (ci := 8) rfl pS_p) rfl rfl hl.1 rfl (lv_room (Nat.le_of_ble_eq_true rfl)) dX8_readAct_271 ⟨(by rw [hu_w1]; show 1 + (w1.2.2.2.2.2 - (u.2.2.2.2.2 + 1)) ≤ (p_act K Wd pN pn rN rc (p_blk K Wd pN pn rN rc d0) u).2.2.2.2.2 - u.2.2.2.2.2; omega), (by rw [hu_w1]; show 9 + (9 * (w1.2.2.2.2.2 - (u.2.2.2.2.2 + 1))) ≤ 9 * ((p_act K Wd pN pn rN rc (p_blk K Wd pN pn rN rc d0) u).2.2.2.2.2 - u.2.2.2.2.2); omega)⟩) hS (fun r_271 f_271 n_271 H locs hp hW hS => ?_)
  obtain ⟨g_271, rfl, rfl, rfl, fr_271, rep_271⟩ := hp
  rw [hu_w1] at hW rep_271
  rw [hu_w1]
  have fr_271 : ∀ q, q < u.2.2.2.2.2 + 1 → q ≠ px → q ≠ px + 1 → q ≠ bk → g_271 q = (pS E (va_up f u.2.2.2.2.2 (some (rX1 (some (E.2.2.2 u.2.1)) (ix pN pn (Wd (p_beg K u).1)) (-1) 0 none none none none none))) px bk T pn rc (p_take K 10 (p_known K Wd pN pn (p_beg K u)))) q := fr_271
  have fi_271 : ∀ q, q < u.2.2.2.2.2 → q ≠ px → q ≠ px + 1 → q ≠ bk → g_271 q = f q := fun q hq h7 h8 h9 => (fr_271 q (by omega) h7 h8 h9).trans ((pS_out h7 h8 h9).trans (((va_up_ne _ _ (by omega)).trans rfl)))
  have hW : q_W E (pS E g_271 px bk T pn rc w1) (w1.2.2.2.2.2) H := hW
  refine q_putN hx hb hts hown hA hW hS iX1 tyX1 tyX1_ok nmX1 ((pS_out (by omega) (by omega) (by omega)).trans ((fr_271 _ (by omega) (by omega) (by omega) (by omega)).trans ((pS_out (by omega) (by omega) (by omega)).trans q_eq))) rfl 4 (by decide) (va_Nw.use rfl (hA.2.2.2.1 ("HighRecipes$Parser", 166, "HighRecipes$Act", "value", "LHighRecipes$Value;", "HighRecipes") (by decide +kernel))) (fun _ h9 => h9) rfl rfl rfl (Nat.le_of_ble_eq_true rfl) dX8_readAct_274 (fun H locs hW hS => ?_)
  have hW : q_W E (va_up (pS E g_271 px bk T pn rc w1) u.2.2.2.2.2 (some (rX1 (some (E.2.2.2 u.2.1)) (ix pN pn (Wd (p_beg K u).1)) (-1) 0 (some (u.2.2.2.2.2 + 1)) none none none none))) w1.2.2.2.2.2 H := hW
  rw [pS_iu (by omega) (by omega) (by omega)] at hW
  refine lv_goto (tgt := 313) hx hb dX8_readAct_277 (by decide) ?_
  refine lv_aload_n hx hb dX8_readAct_313 rfl (lv_at hl 1 rfl) ?_
  refine q_get hx hb hts hown hA hW iX8 pS_p rfl 0 (by decide) (hts (.fieldLink RX8 10 "HighRecipes$Parser" "tokens" "LHighRecipes$Tokens;") (by decide +kernel)) (fun _ h9 => h9) (v := .ref (px + 1)) rfl dX8_readAct_314 ?_
  refine va_gets (n := "SEMICOLON") (v := .ref (E.2.2.2 29)) hx hb (hA.2.2.1.1.1 29 (by decide)).1 hS hown (hts (.fieldLink RX8 95 "HighRecipes$Kind" "SEMICOLON" "LHighRecipes$Kind;") (by decide +kernel)) (fun _ h9 => h9) dX8_readAct_317 ?_
  refine q_cv (va_runV (As := [.ref (E.2.2.2 29)]) (rest := []) ⟨hx, hb, hml, hown, hts⟩ (kX10_take l E (pS E (va_up g_271 u.2.2.2.2.2 (some (rX1 (some (E.2.2.2 u.2.1)) (ix pN pn (Wd (p_beg K u).1)) (-1) 0 (some (u.2.2.2.2.2 + 1)) none none none none))) px bk T pn rc w1) w1.2.2.2.2.2 (px + 1) T w1 kk K 29 pS_t ((pS_out (by omega) (by omega) (by omega)).trans (q_ne (by omega) ((fr_271 _ (by omega) (by omega) (by omega) (by omega)).trans ((pS_out (by omega) (by omega) (by omega)).trans (q_ne (by omega) f2))))) (by assumption) (by assumption) (by assumption) (by assumption) ok_w1 (by first | assumption | decide)) (cwV 1 hts gX8_readAct_X10_take rfl rfl rfl (by decide +kernel) ⟨(by show 1 + 1 ≤ 10 * d + 40; omega), (by show 8 + (2 + 11) + 22 ≤ 100 * d + 1000; omega)⟩) (q_pV hA hW hS (ci := 10) rfl pS_t) rfl rfl hl.1 rfl (lv_room (Nat.le_of_ble_eq_true rfl)) dX8_readAct_320 ⟨(by show 1 + (w1.2.2.2.2.2 - (u.2.2.2.2.2 + 1)) + 0 ≤ (p_act K Wd pN pn rN rc (p_blk K Wd pN pn rN rc d0) u).2.2.2.2.2 - u.2.2.2.2.2; omega), (by show 9 + (9 * (w1.2.2.2.2.2 - (u.2.2.2.2.2 + 1))) + 0 ≤ 9 * ((p_act K Wd pN pn rN rc (p_blk K Wd pN pn rN rc d0) u).2.2.2.2.2 - u.2.2.2.2.2); omega)⟩) hS (fun f_320 n_320 H locs hp hW hS => ?_)
  obtain ⟨rfl, rfl⟩ := hp
  have hW : q_W E (va_up (pS E (va_up g_271 u.2.2.2.2.2 (some (rX1 (some (E.2.2.2 u.2.1)) (ix pN pn (Wd (p_beg K u).1)) (-1) 0 (some (u.2.2.2.2.2 + 1)) none none none none))) px bk T pn rc w1) (px + 1) (some (cTS E (px + 1) T (p_take K 29 w1)))) w1.2.2.2.2.2 H := hW
  have hW : q_W E (pS E (va_up g_271 u.2.2.2.2.2 (some (rX1 (some (E.2.2.2 u.2.1)) (ix pN pn (Wd (p_beg K u).1)) (-1) 0 (some (u.2.2.2.2.2 + 1)) none none none none))) px bk T pn rc (p_take K 29 w1)) w1.2.2.2.2.2 H := by rw [← pS_st (s := w1) (s' := p_take K 29 w1) rfl rfl]; exact hW
  have hok_320 : p_ok K T (p_take K 29 w1) := ok_w1.take hKT (by first | assumption | decide)
  have hW : q_W E (pS E (va_up g_271 u.2.2.2.2.2 (some (rX1 (some (E.2.2.2 u.2.1)) (ix pN pn (Wd (p_beg K u).1)) (-1) 0 (some (u.2.2.2.2.2 + 1)) none none none none))) px bk T pn rc (p_take K 29 w1)) w1.2.2.2.2.2 H := hW
  refine lv_aload_n hx hb dX8_readAct_323 rfl (lv_at hl 0 rfl) ?_
  have eS : p_actS K Wd pN pn rN rc RS (p_blk K Wd pN pn rN rc d0) (p_blkS K Wd pN pn rN rc RS d0) u = k_boil pn (ix pN pn (Wd (p_beg K u).1)).toNatClampNeg (p_valD K Wd pN pn 4 (p_take K 10 (p_known K Wd pN pn (p_beg K u)))) := by unfold p_actS; rw [if_neg (by rw [hkd]; decide), if_neg (by rw [hkd]; decide), if_neg (by rw [hkd]; decide), if_neg (by rw [hkd]; decide), if_pos hkd]
  have rep : (p_take K 29 (w1)).2.1 ≠ 40 → (p_take K 29 (w1)).2.2.1 = 0 → ∀ o9 : Option Nat, rA E pn u.2.2.2.2.2 (p_take K 29 (w1)).2.2.2.2.2 (va_up (va_up g_271 u.2.2.2.2.2 (some (rX1 (some (E.2.2.2 u.2.1)) (ix pN pn (Wd (p_beg K u).1)) (-1) 0 (some (u.2.2.2.2.2 + 1)) none none none none))) u.2.2.2.2.2 (some (cAct E u.2.1 (ix pN pn (Wd (p_beg K u).1)) (-1) 0 (some (u.2.2.2.2.2 + 1)) none none none o9))) RS rc d u.2.2.2.2.2 (k_boil pn (ix pN pn (Wd (p_beg K u).1)).toNatClampNeg (p_valD K Wd pN pn 4 (p_take K 10 (p_known K Wd pN pn (p_beg K u))))) := by
    intro k1 k2 o9
    have L := (go_take (s := w1) (w := 29) hKT (by decide) ok_w1).2
    have R1 := rep_271 (L.2.2.1 k1) (L.2.2.2 k2)
    have Lv := v_w1.2.1
    have Lt := (go_take (s := p_known K Wd pN pn (p_beg K u)) (w := 10) hKT (by decide) (okb.known hKT)).2
    obtain ⟨-, i, hi, hix⟩ := known_ok hpn (Lt.2.2.1 (Lv.2.2.1 (L.2.2.1 k1))) (Lt.2.2.2 (Lv.2.2.2 (L.2.2.2 k2)))
    rw [hix, nI_clamp (by omega), hd1]
    refine ⟨u.2.1, _, _, _, _, _, _, _, o9, Nat.le_refl _, (by show u.2.2.2.2.2 < w1.2.2.2.2.2; omega), q_eq, Or.inr (Or.inr (Or.inl ⟨hkd, i, u.2.2.2.2.2 + 1, _, hi, rfl, rfl, rV_frame ?_ (Nat.le_succ _) (Nat.le_refl _) _ _ _ R1, rfl⟩))⟩
    intro q h1 h2
    have h1 : u.2.2.2.2.2 + 1 ≤ q := h1
    exact (va_up_ne _ _ (by omega)).trans (va_up_ne _ _ (by omega))
  exact q_aret (v := some u.2.2.2.2.2) hx hb hr (Or.inl ⟨_, rfl⟩) hlocks hW hS ⟨_, _, _, _, _, _, _, _, rfl, congrArg (fun z => pS E _ px bk T pn rc z) eU, (by rw [eU]; try rfl), fun q hq h7 h8 h9 => ((va_up_ne _ _ (by omega)).trans (fi_271 q hq h7 h8 h9)), q_eq, fun k1 k2 => by rw [eS]; rw [eU] at k1 k2 ⊢; exact rep k1 k2⟩ (by show 1 + (w1.2.2.2.2.2 - (u.2.2.2.2.2 + 1)) ≤ (p_act K Wd pN pn rN rc (p_blk K Wd pN pn rN rc d0) u).2.2.2.2.2 - u.2.2.2.2.2; omega) (by show 9 + (9 * (w1.2.2.2.2.2 - (u.2.2.2.2.2 + 1))) ≤ 9 * ((p_act K Wd pN pn rN rc (p_blk K Wd pN pn rN rc d0) u).2.2.2.2.2 - u.2.2.2.2.2); omega) dX8_readAct_324

set_option maxHeartbeats 4000000 in
set_option maxRecDepth 100000 in
theorem kX8_readAct_3 (l : Launch) (E : q_E) (f : q_H) (n : Nat) (px bk T pn rc : Nat) (u : p_S) (kk : Nat → Option Nat) (wo pN rN : Nat → Int64) (K : Nat → Nat) (Wd : Nat → Int64) (RS : Nat → q_S) (d d0 : Nat) (f2 : f (px + 2) = some (aQ E 5 401 kk)) (f4 : f (px + 4) = some (aJ E 401 wo)) (g1 : f (bk + 1) = some (aJ E 8 pN)) (g3 : f (bk + 3) = some (aJ E 6 rN)) (hp : PAR E f px bk T pn rc u) (hbk : px + 5 ≤ bk) (hn : bk + 5 ≤ n) (hT : T ≤ 400) (hkk : ∀ j, j ≤ T → kk j = some (E.2.2.2 (K j))) (hKT : 39 ≤ K T) (hK41 : ∀ j, K j < 41) (hWd : ∀ j, j ≤ T → wo j = Wd j) (hpn : pn ≤ 8) (hrc : rc ≤ 6) (hok : p_ok K T u) (hsn : n = u.2.2.2.2.2) (hkd : u.2.1 = 3) (hd1 : d = d0 + 1) (hd6 : d ≤ 6) (ihB : RBK l E RS d0) : Met l yX8_readAct wsX8_readAct ({ frames := 10 * d + 40, cells := (p_act K Wd pN pn rN rc (p_blk K Wd pN pn rN rc d0) u).2.2.2.2.2 - u.2.2.2.2.2, slots := 9 * ((p_act K Wd pN pn rN rc (p_blk K Wd pN pn rN rc d0) u).2.2.2.2.2 - u.2.2.2.2.2), locals := 100 * d + 1000 }) (q_P E [.ref px, .int (nI (6 - d))] f n) (q_Qq E (ACTq E f px bk T pn rc K Wd pN rN RS d d0 u)) ((p_act K Wd pN pn rN rc (p_blk K Wd pN pn rN rc d0) u).2.2.2.2.2 - u.2.2.2.2.2) (9 * ((p_act K Wd pN pn rN rc (p_blk K Wd pN pn rN rc d0) u).2.2.2.2.2 - u.2.2.2.2.2)) (q_ge E) := by
  refine Met.ofW (cc := cX8_readAct) (maxL := 3) (ret := (some (.object "HighRecipes$Act"))) (by decide) rfl ?_
  intro p e s m args below meth c s₁ B hml hv
  obtain ⟨rfl, hA, hW⟩ := hv
  have hx := B.exec
  have hb := B.bytes
  have hr := B.returns
  have hts := atoms_spec (ws := wsX8_readAct) B.pre
  have hown : s.vm.findClass RX8 = some m.cls := findClass_of_methodNamed B.named
  have hlocks := B.notSynchronized
  have hS : va_S (q_ge E) s.heap s.heap [] := va_S.rf
  have iX1 : ∀ w ∈ wsX10, w ∈ wsX8_readAct := by decide +kernel
  have iX10 : ∀ w ∈ wsX100, w ∈ wsX8_readAct := by decide +kernel
  have iX8 : ∀ w ∈ wsX80, w ∈ wsX8_readAct := by decide +kernel
  have hl := lv_entry ([.ref px, .int (nI (6 - d))]) (n := 3) (Nat.le_of_ble_eq_true rfl)
  rw [lg_entry_eq]
  generalize (lg_sl ([.ref px, .int (nI (6 - d))]) ++ List.replicate (3 - (lg_sl ([.ref px, .int (nI (6 - d))])).length) Slot.unset).toArray = ls at hl ⊢
  have hl : lv_has ls 3 [(0, .ref px), (1, .int (nI (6 - d)))] := hl
  subst hsn
  rw [hp.eq] at hW
  have hk41 : u.2.1 < 41 := by rcases hok.2.1 with h9 | h9 <;> rw [h9]; decide; exact hK41 _
  have hlt : u.2.1 < 39 := by rw [hkd]; decide
  have okb : p_ok K T (p_beg K u) := p_ok.act (s := p_new u) hok hKT hlt
  have hna : u.2.2.2.2.2 + 1 ≤ (p_act K Wd pN pn rN rc (p_blk K Wd pN pn rN rc d0) u).2.2.2.2.2 := act_n hKT (by rw [hkd]; rfl) hok
  have gob := (go_beg (s := u) hKT hlt hok).2
  have ea : nI (6 - d) + 1 = nI (6 - d0) := by rw [nI_1]; congr 1; omega
  refine q_new (ci := 2) hx hb hts hown hA hW hS iX1 tyX1 tyX1_ok (hts (.classLink RX8 135 RX1) (by decide +kernel)) (hts (.instantiable RX1 9) (by decide +kernel)) (hts (.initialized RX1) (by decide +kernel)) rfl (fs := [.null, .int 0, .int 0, .int 0, .null, .null, .null, .null, .null]) (by decide) (by show 0 + 1 ≤ (p_act K Wd pN pn rN rc (p_blk K Wd pN pn rN rc d0) u).2.2.2.2.2 - u.2.2.2.2.2; omega) (by show 0 + 9 ≤ 9 * ((p_act K Wd pN pn rN rc (p_blk K Wd pN pn rN rc d0) u).2.2.2.2.2 - u.2.2.2.2.2); omega) dX8_readAct_0 (fun H hW hS => ?_)
  have hW : q_W E (va_up (pS E f px bk T pn rc u) u.2.2.2.2.2 (some (rX1 none 0 0 0 none none none none none))) (u.2.2.2.2.2 + 1) H := hW
  rw [pS_iu (by omega) (by omega) (by omega)] at hW
  have hW : q_W E (pS E (va_up f u.2.2.2.2.2 (some (rX1 none 0 0 0 none none none none none))) px bk T pn rc (p_new u)) (u.2.2.2.2.2 + 1) H := hW
  refine lv_dup hx hb dX8_readAct_3 rfl ?_
  refine lv_aload_n hx hb dX8_readAct_4 rfl (lv_at hl 0 rfl) ?_
  refine q_get hx hb hts hown hA hW iX8 pS_p rfl 0 (by decide) (hts (.fieldLink RX8 10 "HighRecipes$Parser" "tokens" "LHighRecipes$Tokens;") (by decide +kernel)) (fun _ h9 => h9) (v := .ref (px + 1)) rfl dX8_readAct_5 ?_
  refine q_getN hx hb hts hown hA hW iX10 pS_t rfl 5 (by decide) (va_Nw.use rfl (hA.2.2.2.1 ("HighRecipes$Parser", 31, "HighRecipes$Tokens", "kind", "LHighRecipes$Kind;", "HighRecipes") (by decide +kernel))) (fun _ h9 => h9) (v := .ref (E.2.2.2 ((p_new u)).2.1)) rfl dX8_readAct_8 ?_
  refine q_cv (va_runI (As := [.ref (E.2.2.2 u.2.1)]) (rest := [.ref u.2.2.2.2.2]) ⟨hx, hb, hml, hown, hts⟩ (kX1_init l E (pS E (va_up f u.2.2.2.2.2 (some (rX1 none 0 0 0 none none none none none))) px bk T pn rc (p_new u)) (u.2.2.2.2.2 + 1) u.2.2.2.2.2 u.2.1 ((pS_out (by omega) (by omega) (by omega)).trans q_eq)) (cwI 1 hts gX8_readAct_X1_init rfl rfl rfl (hts (.initialized RX1) (by decide +kernel)) (hts (.methodLink RX8 146 yX1_init) (by decide +kernel)) (hts (.instanceMethod yX1_init) (by decide +kernel)) rfl (by decide +kernel) ⟨(by show 1 + 1 ≤ 10 * d + 40; omega), (by show 8 + (2 + 11) + 20 ≤ 100 * d + 1000; omega)⟩) (q_pS hA hW hS) rfl rfl hl.1 rfl (lv_room (Nat.le_of_ble_eq_true rfl)) dX8_readAct_11 ⟨(by show 1 + 0 ≤ (p_act K Wd pN pn rN rc (p_blk K Wd pN pn rN rc d0) u).2.2.2.2.2 - u.2.2.2.2.2; omega), (by show 9 + 0 ≤ 9 * ((p_act K Wd pN pn rN rc (p_blk K Wd pN pn rN rc d0) u).2.2.2.2.2 - u.2.2.2.2.2); omega)⟩) hS (fun f_11 n_11 H locs hp hW hS => ?_)
  obtain ⟨rfl, rfl⟩ := hp
  have hW : q_W E (va_up (pS E (va_up f u.2.2.2.2.2 (some (rX1 none 0 0 0 none none none none none))) px bk T pn rc (p_new u)) u.2.2.2.2.2 (some (rX1 (some (E.2.2.2 u.2.1)) (-1) (-1) 0 none none none none none))) (u.2.2.2.2.2 + 1) H := hW
  rw [pS_iu (by omega) (by omega) (by omega)] at hW
  rw [q_upup] at hW
  have hW : q_W E (pS E (va_up f u.2.2.2.2.2 (some (rX1 (some (E.2.2.2 u.2.1)) (-1) (-1) 0 none none none none none))) px bk T pn rc (p_new u)) (u.2.2.2.2.2 + 1) H := hW
  refine lv_astore_n (lv' := [(2, .ref u.2.2.2.2.2), (0, .ref px), (1, .int (nI (6 - d)))]) hx hb dX8_readAct_14 rfl hl (by decide) rfl (fun ls hl => ?_)
  refine lv_aload_n hx hb dX8_readAct_15 rfl (lv_at hl 1 rfl) ?_
  refine q_cv (va_runV (As := []) (rest := []) ⟨hx, hb, hml, hown, hts⟩ (kX8_countAct l E (pS E (va_up f u.2.2.2.2.2 (some (rX1 (some (E.2.2.2 u.2.1)) (-1) (-1) 0 none none none none none))) px bk T pn rc (p_new u)) (u.2.2.2.2.2 + 1) px bk T pn rc (p_new u) kk wo pN rN K Wd ((pS_out (by omega) (by omega) (by omega)).trans (q_ne (by omega) f2)) ((pS_out (by omega) (by omega) (by omega)).trans (q_ne (by omega) f4)) ((pS_out (by omega) (by omega) (by omega)).trans (q_ne (by omega) g1)) ((pS_out (by omega) (by omega) (by omega)).trans (q_ne (by omega) g3)) (pS_K hbk) (by assumption) (by omega) (by assumption) (by assumption) (by assumption) (by assumption) (by assumption) (by assumption) (by assumption) hok.new) (cwV 0 hts gX8_readAct_X8_countAct rfl rfl rfl (by decide +kernel) ⟨(by show 1 + 1 ≤ 10 * d + 40; omega), (by show 8 + (1 + 11) + 21 ≤ 100 * d + 1000; omega)⟩) (q_pV hA hW hS (ci := 8) rfl pS_p) rfl rfl hl.1 rfl (lv_room (Nat.le_of_ble_eq_true rfl)) dX8_readAct_16 ⟨(by show 1 + 0 ≤ (p_act K Wd pN pn rN rc (p_blk K Wd pN pn rN rc d0) u).2.2.2.2.2 - u.2.2.2.2.2; omega), (by show 9 + 0 ≤ 9 * ((p_act K Wd pN pn rN rc (p_blk K Wd pN pn rN rc d0) u).2.2.2.2.2 - u.2.2.2.2.2); omega)⟩) hS (fun f_16 n_16 H locs hp hW hS => ?_)
  obtain ⟨rfl, rfl⟩ := hp
  rw [pS_pS] at hW
  have hW : q_W E (pS E (va_up f u.2.2.2.2.2 (some (rX1 (some (E.2.2.2 u.2.1)) (-1) (-1) 0 none none none none none))) px bk T pn rc (p_cnt (p_new u))) (u.2.2.2.2.2 + 1) H := hW
  refine lv_aload_n hx hb dX8_readAct_19 rfl (lv_at hl 1 rfl) ?_
  refine q_get hx hb hts hown hA hW iX8 pS_p rfl 0 (by decide) (hts (.fieldLink RX8 10 "HighRecipes$Parser" "tokens" "LHighRecipes$Tokens;") (by decide +kernel)) (fun _ h9 => h9) (v := .ref (px + 1)) rfl dX8_readAct_20 ?_
  refine lv_iconst (v := 1) hx hb dX8_readAct_23 (by decide) ?_
  refine q_cv (va_runV (As := [.int 1]) (rest := []) ⟨hx, hb, hml, hown, hts⟩ (kX10_step l E (pS E (va_up f u.2.2.2.2.2 (some (rX1 (some (E.2.2.2 u.2.1)) (-1) (-1) 0 none none none none none))) px bk T pn rc (p_cnt (p_new u))) (u.2.2.2.2.2 + 1) (px + 1) T (p_cnt (p_new u)) kk K true pS_t ((pS_out (by omega) (by omega) (by omega)).trans (q_ne (by omega) f2)) (by assumption) (by assumption) (hok.step hKT (r := true) (fun _ => hlt)).2) (cwV 1 hts gX8_readAct_X10_step rfl rfl rfl (by decide +kernel) ⟨(by show 0 + 1 ≤ 10 * d + 40; omega), (by show 8 + (3 + 11) + 0 ≤ 100 * d + 1000; omega)⟩) (q_pV hA hW hS (ci := 10) rfl pS_t) rfl rfl hl.1 rfl (lv_room (Nat.le_of_ble_eq_true rfl)) dX8_readAct_24 ⟨(by show 1 + 0 ≤ (p_act K Wd pN pn rN rc (p_blk K Wd pN pn rN rc d0) u).2.2.2.2.2 - u.2.2.2.2.2; omega), (by show 9 + 0 ≤ 9 * ((p_act K Wd pN pn rN rc (p_blk K Wd pN pn rN rc d0) u).2.2.2.2.2 - u.2.2.2.2.2); omega)⟩) hS (fun f_24 n_24 H locs hp hW hS => ?_)
  obtain ⟨rfl, rfl⟩ := hp
  have hW : q_W E (va_up (pS E (va_up f u.2.2.2.2.2 (some (rX1 (some (E.2.2.2 u.2.1)) (-1) (-1) 0 none none none none none))) px bk T pn rc (p_cnt (p_new u))) (px + 1) (some (cTS E (px + 1) T (p_step K true (p_cnt (p_new u)))))) (u.2.2.2.2.2 + 1) H := hW
  have hW : q_W E (pS E (va_up f u.2.2.2.2.2 (some (rX1 (some (E.2.2.2 u.2.1)) (-1) (-1) 0 none none none none none))) px bk T pn rc (p_step K true (p_cnt (p_new u)))) (u.2.2.2.2.2 + 1) H := by rw [← pS_st (s := p_cnt (p_new u)) (s' := p_step K true (p_cnt (p_new u))) rfl rfl]; exact hW
  have hW : q_W E (pS E (va_up f u.2.2.2.2.2 (some (rX1 (some (E.2.2.2 u.2.1)) (-1) (-1) 0 none none none none none))) px bk T pn rc (p_step K true (p_cnt (p_new u)))) (u.2.2.2.2.2 + 1) H := hW
  refine va_gets hx hb hA.2.2.1.2.2.2.1.1 hS hown (hts (.fieldLink RX8 151 "HighRecipes$1" "$SwitchMap$HighRecipes$Kind" "[I") (by decide +kernel)) (fun _ h9 => h9) dX8_readAct_27 ?_
  refine lv_aload_n hx hb dX8_readAct_30 rfl (lv_at hl 0 rfl) ?_
  refine q_getN hx hb hts hown hA hW iX1 ((pS_out (by omega) (by omega) (by omega)).trans q_eq) rfl 0 (by decide) (va_Nw.use rfl (hA.2.2.2.1 ("HighRecipes$Parser", 157, "HighRecipes$Act", "kind", "LHighRecipes$Kind;", "HighRecipes") (by decide +kernel))) (fun _ h9 => h9) (v := .ref (E.2.2.2 u.2.1)) rfl dX8_readAct_31 ?_
  refine q_ci (va_runU (As := []) (rest := [.ref (E.2.2.2 101)]) ⟨hx, hb, hml, hown, hts⟩ (q_ordinal l E (pS E (va_up f u.2.2.2.2.2 (some (rX1 (some (E.2.2.2 u.2.1)) (-1) (-1) 0 none none none none none))) px bk T pn rc (p_beg K u)) (u.2.2.2.2.2 + 1) u.2.1 (by rw [hkd]; decide)) (va_cwU 0 hts gX8_readAct_Jx29ce0_ordinal_8abf5_u158X5 rfl rfl rfl rfl (by decide +kernel) ⟨(by show 0 + 1 ≤ 10 * d + 40; omega), (by show 8 + (1 + 11) + 0 ≤ 100 * d + 1000; omega)⟩) ⟨q_P.blind, va_recvE hA.2.2.1.1 (by rw [hkd]; decide) hS, fun U hU hWm => ⟨rfl, hA.go hS hU hWm, by rw [hU]; exact hW⟩⟩ rfl rfl hl.1 rfl (lv_room (Nat.le_of_ble_eq_true rfl)) dX8_readAct_34 ⟨(by show 1 + 0 ≤ (p_act K Wd pN pn rN rc (p_blk K Wd pN pn rN rc d0) u).2.2.2.2.2 - u.2.2.2.2.2; omega), (by show 9 + 0 ≤ 9 * ((p_act K Wd pN pn rN rc (p_blk K Wd pN pn rN rc d0) u).2.2.2.2.2 - u.2.2.2.2.2); omega)⟩) hS (fun r_34 f_34 n_34 H locs hp hW hS => ?_)
  obtain ⟨rfl, rfl, rfl⟩ := hp
  rw [hkd]
  refine va_ti hx hb hA.2.2.1.2.2.2.1.2 hS (vp_in_nI (by decide) (by decide)) (v := .int 3) (by rw [nI_clamp (by decide)]; rfl) dX8_readAct_37 ?_
  refine lv_tableIn (x := 3) (off := 119) (tgt := 157) hx hb dX8_readAct_38 (by decide) (by decide) (by decide) (by decide) ?_
  obtain ⟨w1, hu_w1⟩ : ∃ z, p_val K Wd pN pn 4 (p_beg K u) = z := ⟨_, rfl⟩
  have v_w1 := val_n (Wd := Wd) (pN := pN) (pn := pn) (d := 4) hKT okb
  rw [hu_w1] at v_w1
  have ok_w1 := v_w1.1
  have wn1 : u.2.2.2.2.2 + 1 + 1 ≤ w1.2.2.2.2.2 := v_w1.2.2
  have hk1 : w1.2.1 < 41 := by rcases ok_w1.2.1 with h9 | h9 <;> rw [h9]; decide; exact hK41 _
  have eN : (p_act K Wd pN pn rN rc (p_blk K Wd pN pn rN rc d0) u).2.2.2.2.2 = w1.2.2.2.2.2 := by unfold p_act; rw [if_neg (by rw [hkd]; decide), if_neg (by rw [hkd]; decide), if_pos hkd, hu_w1]; rfl
  refine lv_aload_n hx hb dX8_readAct_157 rfl (lv_at hl 0 rfl) ?_
  refine lv_aload_n hx hb dX8_readAct_158 rfl (lv_at hl 1 rfl) ?_
  refine lv_iconst (v := 0) hx hb dX8_readAct_159 (by decide) ?_
  refine q_cq (va_runV (As := [.int 0]) (rest := [.ref u.2.2.2.2.2]) ⟨hx, hb, hml, hown, hts⟩ (val_all l E 4 (pS E (va_up f u.2.2.2.2.2 (some (rX1 (some (E.2.2.2 u.2.1)) (-1) (-1) 0 none none none none none))) px bk T pn rc (p_beg K u)) px bk T pn rc (p_beg K u) kk wo pN rN K Wd  ((pS_out (by omega) (by omega) (by omega)).trans (q_ne (by omega) f2)) ((pS_out (by omega) (by omega) (by omega)).trans (q_ne (by omega) f4)) ((pS_out (by omega) (by omega) (by omega)).trans (q_ne (by omega) g1)) ((pS_out (by omega) (by omega) (by omega)).trans (q_ne (by omega) g3)) (pS_K hbk) hbk (by show bk + 5 ≤ u.2.2.2.2.2 + 1; omega) hT hkk hKT hK41 hWd hpn hrc okb (by decide)) (cwV 1 hts gX8_readAct_X8_readValue rfl rfl rfl (by decide +kernel) ⟨(by show 32 + 1 ≤ 10 * d + 40; omega), (by show 8 + (3 + 11) + 880 ≤ 100 * d + 1000; omega)⟩) (q_pV hA hW hS (ci := 8) rfl pS_p) rfl rfl hl.1 rfl (lv_room (Nat.le_of_ble_eq_true rfl)) dX8_readAct_160 ⟨(by rw [hu_w1]; show 1 + (w1.2.2.2.2.2 - (u.2.2.2.2.2 + 1)) ≤ (p_act K Wd pN pn rN rc (p_blk K Wd pN pn rN rc d0) u).2.2.2.2.2 - u.2.2.2.2.2; omega), (by rw [hu_w1]; show 9 + (9 * (w1.2.2.2.2.2 - (u.2.2.2.2.2 + 1))) ≤ 9 * ((p_act K Wd pN pn rN rc (p_blk K Wd pN pn rN rc d0) u).2.2.2.2.2 - u.2.2.2.2.2); omega)⟩) hS (fun r_160 f_160 n_160 H locs hp hW hS => ?_)
  obtain ⟨g_160, rfl, rfl, rfl, fr_160, rep_160⟩ := hp
  rw [hu_w1] at hW rep_160
  rw [hu_w1]
  have fr_160 : ∀ q, q < u.2.2.2.2.2 + 1 → q ≠ px → q ≠ px + 1 → q ≠ bk → g_160 q = (pS E (va_up f u.2.2.2.2.2 (some (rX1 (some (E.2.2.2 u.2.1)) (-1) (-1) 0 none none none none none))) px bk T pn rc (p_beg K u)) q := fr_160
  have fi_160 : ∀ q, q < u.2.2.2.2.2 → q ≠ px → q ≠ px + 1 → q ≠ bk → g_160 q = f q := fun q hq h7 h8 h9 => (fr_160 q (by omega) h7 h8 h9).trans ((pS_out h7 h8 h9).trans (((va_up_ne _ _ (by omega)).trans rfl)))
  have hW : q_W E (pS E g_160 px bk T pn rc w1) (w1.2.2.2.2.2) H := hW
  refine q_putN hx hb hts hown hA hW hS iX1 tyX1 tyX1_ok nmX1 ((pS_out (by omega) (by omega) (by omega)).trans ((fr_160 _ (by omega) (by omega) (by omega) (by omega)).trans ((pS_out (by omega) (by omega) (by omega)).trans q_eq))) rfl 4 (by decide) (va_Nw.use rfl (hA.2.2.2.1 ("HighRecipes$Parser", 166, "HighRecipes$Act", "value", "LHighRecipes$Value;", "HighRecipes") (by decide +kernel))) (fun _ h9 => h9) rfl rfl rfl (Nat.le_of_ble_eq_true rfl) dX8_readAct_163 (fun H locs hW hS => ?_)
  have hW : q_W E (va_up (pS E g_160 px bk T pn rc w1) u.2.2.2.2.2 (some (rX1 (some (E.2.2.2 u.2.1)) (-1) (-1) 0 (some (u.2.2.2.2.2 + 1)) none none none none))) w1.2.2.2.2.2 H := hW
  rw [pS_iu (by omega) (by omega) (by omega)] at hW
  refine lv_aload_n hx hb dX8_readAct_166 rfl (lv_at hl 0 rfl) ?_
  refine lv_aload_n hx hb dX8_readAct_167 rfl (lv_at hl 1 rfl) ?_
  refine q_get hx hb hts hown hA hW iX8 pS_p rfl 0 (by decide) (hts (.fieldLink RX8 10 "HighRecipes$Parser" "tokens" "LHighRecipes$Tokens;") (by decide +kernel)) (fun _ h9 => h9) (v := .ref (px + 1)) rfl dX8_readAct_168 ?_
  refine q_getN hx hb hts hown hA hW iX10 pS_t rfl 5 (by decide) (va_Nw.use rfl (hA.2.2.2.1 ("HighRecipes$Parser", 31, "HighRecipes$Tokens", "kind", "LHighRecipes$Kind;", "HighRecipes") (by decide +kernel))) (fun _ h9 => h9) (v := .ref (E.2.2.2 (w1).2.1)) rfl dX8_readAct_171 ?_
  refine va_gets (n := "MEAL") (v := .ref (E.2.2.2 5)) hx hb (hA.2.2.1.1.1 5 (by decide)).1 hS hown (hts (.fieldLink RX8 186 "HighRecipes$Kind" "MEAL" "LHighRecipes$Kind;") (by decide +kernel)) (fun _ h9 => h9) dX8_readAct_174 ?_
  refine lv_acmp_ne (rx := (some (E.2.2.2 (w1).2.1))) (ry := (some (E.2.2.2 5))) (tgt := 184) hx hb dX8_readAct_177 (by decide) (fun c_177 => ?_) (fun c_177 => ?_)
  · have e177 : ¬ w1.2.1 = 5 := fun h9 => c_177 (by rw [h9])
    refine lv_iconst (v := 0) hx hb dX8_readAct_184 (by decide) ?_
    refine q_putN hx hb hts hown hA hW hS iX1 tyX1 tyX1_ok nmX1 ((pS_out (by omega) (by omega) (by omega)).trans q_eq) rfl 3 (by decide) (va_Nw.use rfl (hA.2.2.2.1 ("HighRecipes$Parser", 189, "HighRecipes$Act", "poursMeal", "Z", "HighRecipes") (by decide +kernel))) (fun _ h9 => h9) rfl rfl rfl (Nat.le_of_ble_eq_true rfl) dX8_readAct_185 (fun H locs hW hS => ?_)
    have hW : q_W E (va_up (pS E (va_up g_160 u.2.2.2.2.2 (some (rX1 (some (E.2.2.2 u.2.1)) (-1) (-1) 0 (some (u.2.2.2.2.2 + 1)) none none none none))) px bk T pn rc w1) u.2.2.2.2.2 (some (rX1 (some (E.2.2.2 u.2.1)) (-1) (-1) 0 (some (u.2.2.2.2.2 + 1)) none none none none))) w1.2.2.2.2.2 H := hW
    rw [pS_iu (by omega) (by omega) (by omega)] at hW
    rw [q_upup] at hW
    refine lv_aload_n hx hb dX8_readAct_188 rfl (lv_at hl 1 rfl) ?_
    refine q_get hx hb hts hown hA hW iX8 pS_p rfl 0 (by decide) (hts (.fieldLink RX8 10 "HighRecipes$Parser" "tokens" "LHighRecipes$Tokens;") (by decide +kernel)) (fun _ h9 => h9) (v := .ref (px + 1)) rfl dX8_readAct_189 ?_
    refine lv_aload_n hx hb dX8_readAct_192 rfl (lv_at hl 0 rfl) ?_
    refine q_getN hx hb hts hown hA hW iX1 ((pS_out (by omega) (by omega) (by omega)).trans q_eq) rfl 3 (by decide) (va_Nw.use rfl (hA.2.2.2.1 ("HighRecipes$Parser", 189, "HighRecipes$Act", "poursMeal", "Z", "HighRecipes") (by decide +kernel))) (fun _ h9 => h9) (v := .int 0) rfl dX8_readAct_193 ?_
    refine lv_if_eq (tgt := 205) hx hb dX8_readAct_196 (by decide) (fun c_196 => ?_) (fun c_196 => False.elim ((fun h9 => h9 rfl) c_196))
    refine va_gets (n := "WATER") (v := .ref (E.2.2.2 4)) hx hb (hA.2.2.1.1.1 4 (by decide)).1 hS hown (hts (.fieldLink RX8 193 "HighRecipes$Kind" "WATER" "LHighRecipes$Kind;") (by decide +kernel)) (fun _ h9 => h9) dX8_readAct_205 ?_
    refine q_cv (va_runV (As := [.ref (E.2.2.2 4)]) (rest := []) ⟨hx, hb, hml, hown, hts⟩ (kX10_take l E (pS E (va_up g_160 u.2.2.2.2.2 (some (rX1 (some (E.2.2.2 u.2.1)) (-1) (-1) 0 (some (u.2.2.2.2.2 + 1)) none none none none))) px bk T pn rc w1) w1.2.2.2.2.2 (px + 1) T w1 kk K 4 pS_t ((pS_out (by omega) (by omega) (by omega)).trans (q_ne (by omega) ((fr_160 _ (by omega) (by omega) (by omega) (by omega)).trans ((pS_out (by omega) (by omega) (by omega)).trans (q_ne (by omega) f2))))) (by assumption) (by assumption) (by assumption) (by assumption) ok_w1 (by first | assumption | decide)) (cwV 1 hts gX8_readAct_X10_take rfl rfl rfl (by decide +kernel) ⟨(by show 1 + 1 ≤ 10 * d + 40; omega), (by show 8 + (2 + 11) + 22 ≤ 100 * d + 1000; omega)⟩) (q_pV hA hW hS (ci := 10) rfl pS_t) rfl rfl hl.1 rfl (lv_room (Nat.le_of_ble_eq_true rfl)) dX8_readAct_208 ⟨(by show 1 + (w1.2.2.2.2.2 - (u.2.2.2.2.2 + 1)) + 0 ≤ (p_act K Wd pN pn rN rc (p_blk K Wd pN pn rN rc d0) u).2.2.2.2.2 - u.2.2.2.2.2; omega), (by show 9 + (9 * (w1.2.2.2.2.2 - (u.2.2.2.2.2 + 1))) + 0 ≤ 9 * ((p_act K Wd pN pn rN rc (p_blk K Wd pN pn rN rc d0) u).2.2.2.2.2 - u.2.2.2.2.2); omega)⟩) hS (fun f_208 n_208 H locs hp hW hS => ?_)
    obtain ⟨rfl, rfl⟩ := hp
    have hW : q_W E (va_up (pS E (va_up g_160 u.2.2.2.2.2 (some (rX1 (some (E.2.2.2 u.2.1)) (-1) (-1) 0 (some (u.2.2.2.2.2 + 1)) none none none none))) px bk T pn rc w1) (px + 1) (some (cTS E (px + 1) T (p_take K 4 w1)))) w1.2.2.2.2.2 H := hW
    have hW : q_W E (pS E (va_up g_160 u.2.2.2.2.2 (some (rX1 (some (E.2.2.2 u.2.1)) (-1) (-1) 0 (some (u.2.2.2.2.2 + 1)) none none none none))) px bk T pn rc (p_take K 4 w1)) w1.2.2.2.2.2 H := by rw [← pS_st (s := w1) (s' := p_take K 4 w1) rfl rfl]; exact hW
    have hok_208 : p_ok K T (p_take K 4 w1) := ok_w1.take hKT (by first | assumption | decide)
    have hW : q_W E (pS E (va_up g_160 u.2.2.2.2.2 (some (rX1 (some (E.2.2.2 u.2.1)) (-1) (-1) 0 (some (u.2.2.2.2.2 + 1)) none none none none))) px bk T pn rc (p_take K 4 w1)) w1.2.2.2.2.2 H := hW
    refine lv_aload_n hx hb dX8_readAct_211 rfl (lv_at hl 1 rfl) ?_
    refine q_get hx hb hts hown hA hW iX8 pS_p rfl 0 (by decide) (hts (.fieldLink RX8 10 "HighRecipes$Parser" "tokens" "LHighRecipes$Tokens;") (by decide +kernel)) (fun _ h9 => h9) (v := .ref (px + 1)) rfl dX8_readAct_212 ?_
    refine va_gets (n := "INTO") (v := .ref (E.2.2.2 6)) hx hb (hA.2.2.1.1.1 6 (by decide)).1 hS hown (hts (.fieldLink RX8 196 "HighRecipes$Kind" "INTO" "LHighRecipes$Kind;") (by decide +kernel)) (fun _ h9 => h9) dX8_readAct_215 ?_
    refine q_cv (va_runV (As := [.ref (E.2.2.2 6)]) (rest := []) ⟨hx, hb, hml, hown, hts⟩ (kX10_take l E (pS E (va_up g_160 u.2.2.2.2.2 (some (rX1 (some (E.2.2.2 u.2.1)) (-1) (-1) 0 (some (u.2.2.2.2.2 + 1)) none none none none))) px bk T pn rc (p_take K 4 w1)) w1.2.2.2.2.2 (px + 1) T (p_take K 4 w1) kk K 6 pS_t ((pS_out (by omega) (by omega) (by omega)).trans (q_ne (by omega) ((fr_160 _ (by omega) (by omega) (by omega) (by omega)).trans ((pS_out (by omega) (by omega) (by omega)).trans (q_ne (by omega) f2))))) (by assumption) (by assumption) (by assumption) (by assumption) hok_208 (by first | assumption | decide)) (cwV 1 hts gX8_readAct_X10_take rfl rfl rfl (by decide +kernel) ⟨(by show 1 + 1 ≤ 10 * d + 40; omega), (by show 8 + (2 + 11) + 22 ≤ 100 * d + 1000; omega)⟩) (q_pV hA hW hS (ci := 10) rfl pS_t) rfl rfl hl.1 rfl (lv_room (Nat.le_of_ble_eq_true rfl)) dX8_readAct_218 ⟨(by show 1 + (w1.2.2.2.2.2 - (u.2.2.2.2.2 + 1)) + 0 ≤ (p_act K Wd pN pn rN rc (p_blk K Wd pN pn rN rc d0) u).2.2.2.2.2 - u.2.2.2.2.2; omega), (by show 9 + (9 * (w1.2.2.2.2.2 - (u.2.2.2.2.2 + 1))) + 0 ≤ 9 * ((p_act K Wd pN pn rN rc (p_blk K Wd pN pn rN rc d0) u).2.2.2.2.2 - u.2.2.2.2.2); omega)⟩) hS (fun f_218 n_218 H locs hp hW hS => ?_)
    obtain ⟨rfl, rfl⟩ := hp
    have hW : q_W E (va_up (pS E (va_up g_160 u.2.2.2.2.2 (some (rX1 (some (E.2.2.2 u.2.1)) (-1) (-1) 0 (some (u.2.2.2.2.2 + 1)) none none none none))) px bk T pn rc (p_take K 4 w1)) (px + 1) (some (cTS E (px + 1) T (p_take K 6 (p_take K 4 w1))))) w1.2.2.2.2.2 H := hW
    have hW : q_W E (pS E (va_up g_160 u.2.2.2.2.2 (some (rX1 (some (E.2.2.2 u.2.1)) (-1) (-1) 0 (some (u.2.2.2.2.2 + 1)) none none none none))) px bk T pn rc (p_take K 6 (p_take K 4 w1))) w1.2.2.2.2.2 H := by rw [← pS_st (s := p_take K 4 w1) (s' := p_take K 6 (p_take K 4 w1)) rfl rfl]; exact hW
    have hok_218 : p_ok K T (p_take K 6 (p_take K 4 w1)) := hok_208.take hKT (by first | assumption | decide)
    have hW : q_W E (pS E (va_up g_160 u.2.2.2.2.2 (some (rX1 (some (E.2.2.2 u.2.1)) (-1) (-1) 0 (some (u.2.2.2.2.2 + 1)) none none none none))) px bk T pn rc (p_take K 6 (p_take K 4 w1))) w1.2.2.2.2.2 H := hW
    refine lv_aload_n hx hb dX8_readAct_221 rfl (lv_at hl 0 rfl) ?_
    refine lv_aload_n hx hb dX8_readAct_222 rfl (lv_at hl 1 rfl) ?_
    refine lv_iconst (v := 0) hx hb dX8_readAct_223 (by decide) ?_
    refine q_ci (va_runV (As := [.int 0]) (rest := [.ref u.2.2.2.2.2]) ⟨hx, hb, hml, hown, hts⟩ (kX8_known0 l E (pS E (va_up g_160 u.2.2.2.2.2 (some (rX1 (some (E.2.2.2 u.2.1)) (-1) (-1) 0 (some (u.2.2.2.2.2 + 1)) none none none none))) px bk T pn rc (p_take K 6 (p_take K 4 w1))) w1.2.2.2.2.2 px bk T pn rc (p_take K 6 (p_take K 4 w1)) kk wo pN rN K Wd ((pS_out (by omega) (by omega) (by omega)).trans (q_ne (by omega) ((fr_160 _ (by omega) (by omega) (by omega) (by omega)).trans ((pS_out (by omega) (by omega) (by omega)).trans (q_ne (by omega) f2))))) ((pS_out (by omega) (by omega) (by omega)).trans (q_ne (by omega) ((fr_160 _ (by omega) (by omega) (by omega) (by omega)).trans ((pS_out (by omega) (by omega) (by omega)).trans (q_ne (by omega) f4))))) ((pS_out (by omega) (by omega) (by omega)).trans (q_ne (by omega) ((fr_160 _ (by omega) (by omega) (by omega) (by omega)).trans ((pS_out (by omega) (by omega) (by omega)).trans (q_ne (by omega) g1))))) ((pS_out (by omega) (by omega) (by omega)).trans (q_ne (by omega) ((fr_160 _ (by omega) (by omega) (by omega) (by omega)).trans ((pS_out (by omega) (by omega) (by omega)).trans (q_ne (by omega) g3))))) (pS_K hbk) (by assumption) (by omega) (by assumption) (by assumption) (by assumption) (by assumption) (by assumption) (by assumption) (by assumption) hok_218) (cwV 1 hts gX8_readAct_X8_readKnownName rfl rfl rfl (by decide +kernel) ⟨(by show 1 + 1 ≤ 10 * d + 40; omega), (by show 8 + (3 + 11) + 24 ≤ 100 * d + 1000; omega)⟩) (q_pV hA hW hS (ci := 8) rfl pS_p) rfl rfl hl.1 rfl (lv_room (Nat.le_of_ble_eq_true rfl)) dX8_readAct_224 ⟨(by show 1 + (w1.2.2.2.2.2 - (u.2.2.2.2.2 + 1)) + 0 ≤ (p_act K Wd pN pn rN rc (p_blk K Wd pN pn rN rc d0) u).2.2.2.2.2 - u.2.2.2.2.2; omega), (by show 9 + (9 * (w1.2.2.2.2.2 - (u.2.2.2.2.2 + 1))) + 0 ≤ 9 * ((p_act K Wd pN pn rN rc (p_blk K Wd pN pn rN rc d0) u).2.2.2.2.2 - u.2.2.2.2.2); omega)⟩) hS (fun r_224 f_224 n_224 H locs hp hW hS => ?_)
    obtain ⟨rfl, rfl, rfl⟩ := hp
    rw [pS_pS] at hW
    have hok_224 : p_ok K T (p_known K Wd pN pn (p_take K 6 (p_take K 4 w1))) := hok_218.known hKT
    have hW : q_W E (pS E (va_up g_160 u.2.2.2.2.2 (some (rX1 (some (E.2.2.2 u.2.1)) (-1) (-1) 0 (some (u.2.2.2.2.2 + 1)) none none none none))) px bk T pn rc (p_known K Wd pN pn (p_take K 6 (p_take K 4 w1)))) w1.2.2.2.2.2 H := hW
    refine q_putN hx hb hts hown hA hW hS iX1 tyX1 tyX1_ok nmX1 ((pS_out (by omega) (by omega) (by omega)).trans q_eq) rfl 1 (by decide) (va_Nw.use rfl (hA.2.2.2.1 ("HighRecipes$Parser", 203, "HighRecipes$Act", "pan", "I", "HighRecipes") (by decide +kernel))) (fun _ h9 => h9) rfl rfl rfl (Nat.le_of_ble_eq_true rfl) dX8_readAct_227 (fun H locs hW hS => ?_)
    have hW : q_W E (va_up (pS E (va_up g_160 u.2.2.2.2.2 (some (rX1 (some (E.2.2.2 u.2.1)) (-1) (-1) 0 (some (u.2.2.2.2.2 + 1)) none none none none))) px bk T pn rc (p_known K Wd pN pn (p_take K 6 (p_take K 4 w1)))) u.2.2.2.2.2 (some (rX1 (some (E.2.2.2 u.2.1)) (ix pN pn (Wd (p_take K 6 (p_take K 4 w1)).1)) (-1) 0 (some (u.2.2.2.2.2 + 1)) none none none none))) w1.2.2.2.2.2 H := hW
    rw [pS_iu (by omega) (by omega) (by omega)] at hW
    rw [q_upup] at hW
    refine lv_goto (tgt := 313) hx hb dX8_readAct_230 (by decide) ?_
    refine lv_aload_n hx hb dX8_readAct_313 rfl (lv_at hl 1 rfl) ?_
    refine q_get hx hb hts hown hA hW iX8 pS_p rfl 0 (by decide) (hts (.fieldLink RX8 10 "HighRecipes$Parser" "tokens" "LHighRecipes$Tokens;") (by decide +kernel)) (fun _ h9 => h9) (v := .ref (px + 1)) rfl dX8_readAct_314 ?_
    refine va_gets (n := "SEMICOLON") (v := .ref (E.2.2.2 29)) hx hb (hA.2.2.1.1.1 29 (by decide)).1 hS hown (hts (.fieldLink RX8 95 "HighRecipes$Kind" "SEMICOLON" "LHighRecipes$Kind;") (by decide +kernel)) (fun _ h9 => h9) dX8_readAct_317 ?_
    refine q_cv (va_runV (As := [.ref (E.2.2.2 29)]) (rest := []) ⟨hx, hb, hml, hown, hts⟩ (kX10_take l E (pS E (va_up g_160 u.2.2.2.2.2 (some (rX1 (some (E.2.2.2 u.2.1)) (ix pN pn (Wd (p_take K 6 (p_take K 4 w1)).1)) (-1) 0 (some (u.2.2.2.2.2 + 1)) none none none none))) px bk T pn rc (p_known K Wd pN pn (p_take K 6 (p_take K 4 w1)))) w1.2.2.2.2.2 (px + 1) T (p_known K Wd pN pn (p_take K 6 (p_take K 4 w1))) kk K 29 pS_t ((pS_out (by omega) (by omega) (by omega)).trans (q_ne (by omega) ((fr_160 _ (by omega) (by omega) (by omega) (by omega)).trans ((pS_out (by omega) (by omega) (by omega)).trans (q_ne (by omega) f2))))) (by assumption) (by assumption) (by assumption) (by assumption) hok_224 (by first | assumption | decide)) (cwV 1 hts gX8_readAct_X10_take rfl rfl rfl (by decide +kernel) ⟨(by show 1 + 1 ≤ 10 * d + 40; omega), (by show 8 + (2 + 11) + 22 ≤ 100 * d + 1000; omega)⟩) (q_pV hA hW hS (ci := 10) rfl pS_t) rfl rfl hl.1 rfl (lv_room (Nat.le_of_ble_eq_true rfl)) dX8_readAct_320 ⟨(by show 1 + (w1.2.2.2.2.2 - (u.2.2.2.2.2 + 1)) + 0 ≤ (p_act K Wd pN pn rN rc (p_blk K Wd pN pn rN rc d0) u).2.2.2.2.2 - u.2.2.2.2.2; omega), (by show 9 + (9 * (w1.2.2.2.2.2 - (u.2.2.2.2.2 + 1))) + 0 ≤ 9 * ((p_act K Wd pN pn rN rc (p_blk K Wd pN pn rN rc d0) u).2.2.2.2.2 - u.2.2.2.2.2); omega)⟩) hS (fun f_320 n_320 H locs hp hW hS => ?_)
    obtain ⟨rfl, rfl⟩ := hp
    have hW : q_W E (va_up (pS E (va_up g_160 u.2.2.2.2.2 (some (rX1 (some (E.2.2.2 u.2.1)) (ix pN pn (Wd (p_take K 6 (p_take K 4 w1)).1)) (-1) 0 (some (u.2.2.2.2.2 + 1)) none none none none))) px bk T pn rc (p_known K Wd pN pn (p_take K 6 (p_take K 4 w1)))) (px + 1) (some (cTS E (px + 1) T (p_take K 29 (p_known K Wd pN pn (p_take K 6 (p_take K 4 w1))))))) w1.2.2.2.2.2 H := hW
    have hW : q_W E (pS E (va_up g_160 u.2.2.2.2.2 (some (rX1 (some (E.2.2.2 u.2.1)) (ix pN pn (Wd (p_take K 6 (p_take K 4 w1)).1)) (-1) 0 (some (u.2.2.2.2.2 + 1)) none none none none))) px bk T pn rc (p_take K 29 (p_known K Wd pN pn (p_take K 6 (p_take K 4 w1))))) w1.2.2.2.2.2 H := by rw [← pS_st (s := p_known K Wd pN pn (p_take K 6 (p_take K 4 w1))) (s' := p_take K 29 (p_known K Wd pN pn (p_take K 6 (p_take K 4 w1)))) rfl rfl]; exact hW
    have hok_320 : p_ok K T (p_take K 29 (p_known K Wd pN pn (p_take K 6 (p_take K 4 w1)))) := hok_224.take hKT (by first | assumption | decide)
    have hW : q_W E (pS E (va_up g_160 u.2.2.2.2.2 (some (rX1 (some (E.2.2.2 u.2.1)) (ix pN pn (Wd (p_take K 6 (p_take K 4 w1)).1)) (-1) 0 (some (u.2.2.2.2.2 + 1)) none none none none))) px bk T pn rc (p_take K 29 (p_known K Wd pN pn (p_take K 6 (p_take K 4 w1))))) w1.2.2.2.2.2 H := hW
    refine lv_aload_n hx hb dX8_readAct_323 rfl (lv_at hl 0 rfl) ?_
    have eU : p_act K Wd pN pn rN rc (p_blk K Wd pN pn rN rc d0) u = p_take K 29 (p_known K Wd pN pn (p_take K 6 (p_take K 4 w1))) := by unfold p_act; rw [if_neg (by rw [hkd]; decide), if_neg (by rw [hkd]; decide), if_pos hkd, hu_w1]; unfold p_what; rw [if_neg e177]
    have eS : p_actS K Wd pN pn rN rc RS (p_blk K Wd pN pn rN rc d0) (p_blkS K Wd pN pn rN rc RS d0) u = k_pour pn (ix pN pn (Wd (p_take K 6 (p_take K 4 w1)).1)).toNatClampNeg 0 (p_valD K Wd pN pn 4 (p_beg K u)) := by unfold p_actS; rw [if_neg (by rw [hkd]; decide), if_neg (by rw [hkd]; decide), if_pos hkd, hu_w1]; unfold p_what; rw [if_neg e177, if_neg e177]
    have rep : (p_take K 29 (p_known K Wd pN pn (p_take K 6 (p_take K 4 w1)))).2.1 ≠ 40 → (p_take K 29 (p_known K Wd pN pn (p_take K 6 (p_take K 4 w1)))).2.2.1 = 0 → ∀ o9 : Option Nat, rA E pn u.2.2.2.2.2 (p_take K 29 (p_known K Wd pN pn (p_take K 6 (p_take K 4 w1)))).2.2.2.2.2 (va_up (va_up g_160 u.2.2.2.2.2 (some (rX1 (some (E.2.2.2 u.2.1)) (ix pN pn (Wd (p_take K 6 (p_take K 4 w1)).1)) (-1) 0 (some (u.2.2.2.2.2 + 1)) none none none none))) u.2.2.2.2.2 (some (cAct E u.2.1 (ix pN pn (Wd (p_take K 6 (p_take K 4 w1)).1)) (-1) 0 (some (u.2.2.2.2.2 + 1)) none none none o9))) RS rc d u.2.2.2.2.2 (k_pour pn (ix pN pn (Wd (p_take K 6 (p_take K 4 w1)).1)).toNatClampNeg 0 (p_valD K Wd pN pn 4 (p_beg K u))) := by
      intro k1 k2 o9
      have ok3 : p_ok K T (p_known K Wd pN pn (p_take K 6 (p_take K 4 w1))) := ((ok_w1.take hKT (by decide)).take hKT (by decide)).known hKT
      have L := (go_take (s := p_known K Wd pN pn (p_take K 6 (p_take K 4 w1))) (w := 29) hKT (by decide) ok3).2
      have Lw := (((go_take (s := w1) (w := 4) hKT (by decide)).trans (go_take (w := 6) hKT (by decide))).trans (go_known (Wd := Wd) (nm := pN) (cnt := pn) hKT) ok_w1).2
      have R1 := rep_160 (Lw.2.2.1 (L.2.2.1 k1)) (Lw.2.2.2 (L.2.2.2 k2))
      obtain ⟨-, i, hi, hix⟩ := known_ok hpn (L.2.2.1 k1) (L.2.2.2 k2)
      rw [hix, nI_clamp (by omega), hd1]
      refine ⟨u.2.1, _, _, _, _, _, _, _, o9, Nat.le_refl _, (by show u.2.2.2.2.2 < w1.2.2.2.2.2; omega), q_eq, Or.inl ⟨hkd, i, u.2.2.2.2.2 + 1, _, hi, rfl, Or.inl rfl, rfl, rV_frame ?_ (Nat.le_succ _) (Nat.le_refl _) _ _ _ R1, rfl⟩⟩
      intro q h1 h2
      have h1 : u.2.2.2.2.2 + 1 ≤ q := h1
      exact (va_up_ne _ _ (by omega)).trans (va_up_ne _ _ (by omega))
    exact q_aret (v := some u.2.2.2.2.2) hx hb hr (Or.inl ⟨_, rfl⟩) hlocks hW hS ⟨_, _, _, _, _, _, _, _, rfl, congrArg (fun z => pS E _ px bk T pn rc z) eU, (by rw [eU]; try rfl), fun q hq h7 h8 h9 => ((va_up_ne _ _ (by omega)).trans (fi_160 q hq h7 h8 h9)), q_eq, fun k1 k2 => by rw [eS]; rw [eU] at k1 k2 ⊢; exact rep k1 k2⟩ (by show 1 + (w1.2.2.2.2.2 - (u.2.2.2.2.2 + 1)) ≤ (p_act K Wd pN pn rN rc (p_blk K Wd pN pn rN rc d0) u).2.2.2.2.2 - u.2.2.2.2.2; omega) (by show 9 + (9 * (w1.2.2.2.2.2 - (u.2.2.2.2.2 + 1))) ≤ 9 * ((p_act K Wd pN pn rN rc (p_blk K Wd pN pn rN rc d0) u).2.2.2.2.2 - u.2.2.2.2.2); omega) dX8_readAct_324
  · have e177 : w1.2.1 = 5 := q_kinj hA hk1 (by decide) c_177
    refine lv_iconst (v := 1) hx hb dX8_readAct_180 (by decide) ?_
    refine lv_goto (tgt := 185) hx hb dX8_readAct_181 (by decide) ?_
    refine q_putN hx hb hts hown hA hW hS iX1 tyX1 tyX1_ok nmX1 ((pS_out (by omega) (by omega) (by omega)).trans q_eq) rfl 3 (by decide) (va_Nw.use rfl (hA.2.2.2.1 ("HighRecipes$Parser", 189, "HighRecipes$Act", "poursMeal", "Z", "HighRecipes") (by decide +kernel))) (fun _ h9 => h9) rfl rfl rfl (Nat.le_of_ble_eq_true rfl) dX8_readAct_185 (fun H locs hW hS => ?_)
    have hW : q_W E (va_up (pS E (va_up g_160 u.2.2.2.2.2 (some (rX1 (some (E.2.2.2 u.2.1)) (-1) (-1) 0 (some (u.2.2.2.2.2 + 1)) none none none none))) px bk T pn rc w1) u.2.2.2.2.2 (some (rX1 (some (E.2.2.2 u.2.1)) (-1) (-1) 1 (some (u.2.2.2.2.2 + 1)) none none none none))) w1.2.2.2.2.2 H := hW
    rw [pS_iu (by omega) (by omega) (by omega)] at hW
    rw [q_upup] at hW
    refine lv_aload_n hx hb dX8_readAct_188 rfl (lv_at hl 1 rfl) ?_
    refine q_get hx hb hts hown hA hW iX8 pS_p rfl 0 (by decide) (hts (.fieldLink RX8 10 "HighRecipes$Parser" "tokens" "LHighRecipes$Tokens;") (by decide +kernel)) (fun _ h9 => h9) (v := .ref (px + 1)) rfl dX8_readAct_189 ?_
    refine lv_aload_n hx hb dX8_readAct_192 rfl (lv_at hl 0 rfl) ?_
    refine q_getN hx hb hts hown hA hW iX1 ((pS_out (by omega) (by omega) (by omega)).trans q_eq) rfl 3 (by decide) (va_Nw.use rfl (hA.2.2.2.1 ("HighRecipes$Parser", 189, "HighRecipes$Act", "poursMeal", "Z", "HighRecipes") (by decide +kernel))) (fun _ h9 => h9) (v := .int 1) rfl dX8_readAct_193 ?_
    refine lv_if_eq (tgt := 205) hx hb dX8_readAct_196 (by decide) (fun c_196 => False.elim ((fun h9 => absurd h9 (by decide)) c_196)) (fun c_196 => ?_)
    refine va_gets (n := "MEAL") (v := .ref (E.2.2.2 5)) hx hb (hA.2.2.1.1.1 5 (by decide)).1 hS hown (hts (.fieldLink RX8 186 "HighRecipes$Kind" "MEAL" "LHighRecipes$Kind;") (by decide +kernel)) (fun _ h9 => h9) dX8_readAct_199 ?_
    refine lv_goto (tgt := 208) hx hb dX8_readAct_202 (by decide) ?_
    refine q_cv (va_runV (As := [.ref (E.2.2.2 5)]) (rest := []) ⟨hx, hb, hml, hown, hts⟩ (kX10_take l E (pS E (va_up g_160 u.2.2.2.2.2 (some (rX1 (some (E.2.2.2 u.2.1)) (-1) (-1) 1 (some (u.2.2.2.2.2 + 1)) none none none none))) px bk T pn rc w1) w1.2.2.2.2.2 (px + 1) T w1 kk K 5 pS_t ((pS_out (by omega) (by omega) (by omega)).trans (q_ne (by omega) ((fr_160 _ (by omega) (by omega) (by omega) (by omega)).trans ((pS_out (by omega) (by omega) (by omega)).trans (q_ne (by omega) f2))))) (by assumption) (by assumption) (by assumption) (by assumption) ok_w1 (by first | assumption | decide)) (cwV 1 hts gX8_readAct_X10_take rfl rfl rfl (by decide +kernel) ⟨(by show 1 + 1 ≤ 10 * d + 40; omega), (by show 8 + (2 + 11) + 22 ≤ 100 * d + 1000; omega)⟩) (q_pV hA hW hS (ci := 10) rfl pS_t) rfl rfl hl.1 rfl (lv_room (Nat.le_of_ble_eq_true rfl)) dX8_readAct_208 ⟨(by show 1 + (w1.2.2.2.2.2 - (u.2.2.2.2.2 + 1)) + 0 ≤ (p_act K Wd pN pn rN rc (p_blk K Wd pN pn rN rc d0) u).2.2.2.2.2 - u.2.2.2.2.2; omega), (by show 9 + (9 * (w1.2.2.2.2.2 - (u.2.2.2.2.2 + 1))) + 0 ≤ 9 * ((p_act K Wd pN pn rN rc (p_blk K Wd pN pn rN rc d0) u).2.2.2.2.2 - u.2.2.2.2.2); omega)⟩) hS (fun f_208 n_208 H locs hp hW hS => ?_)
    obtain ⟨rfl, rfl⟩ := hp
    have hW : q_W E (va_up (pS E (va_up g_160 u.2.2.2.2.2 (some (rX1 (some (E.2.2.2 u.2.1)) (-1) (-1) 1 (some (u.2.2.2.2.2 + 1)) none none none none))) px bk T pn rc w1) (px + 1) (some (cTS E (px + 1) T (p_take K 5 w1)))) w1.2.2.2.2.2 H := hW
    have hW : q_W E (pS E (va_up g_160 u.2.2.2.2.2 (some (rX1 (some (E.2.2.2 u.2.1)) (-1) (-1) 1 (some (u.2.2.2.2.2 + 1)) none none none none))) px bk T pn rc (p_take K 5 w1)) w1.2.2.2.2.2 H := by rw [← pS_st (s := w1) (s' := p_take K 5 w1) rfl rfl]; exact hW
    have hok_208 : p_ok K T (p_take K 5 w1) := ok_w1.take hKT (by first | assumption | decide)
    have hW : q_W E (pS E (va_up g_160 u.2.2.2.2.2 (some (rX1 (some (E.2.2.2 u.2.1)) (-1) (-1) 1 (some (u.2.2.2.2.2 + 1)) none none none none))) px bk T pn rc (p_take K 5 w1)) w1.2.2.2.2.2 H := hW
    refine lv_aload_n hx hb dX8_readAct_211 rfl (lv_at hl 1 rfl) ?_
    refine q_get hx hb hts hown hA hW iX8 pS_p rfl 0 (by decide) (hts (.fieldLink RX8 10 "HighRecipes$Parser" "tokens" "LHighRecipes$Tokens;") (by decide +kernel)) (fun _ h9 => h9) (v := .ref (px + 1)) rfl dX8_readAct_212 ?_
    refine va_gets (n := "INTO") (v := .ref (E.2.2.2 6)) hx hb (hA.2.2.1.1.1 6 (by decide)).1 hS hown (hts (.fieldLink RX8 196 "HighRecipes$Kind" "INTO" "LHighRecipes$Kind;") (by decide +kernel)) (fun _ h9 => h9) dX8_readAct_215 ?_
    refine q_cv (va_runV (As := [.ref (E.2.2.2 6)]) (rest := []) ⟨hx, hb, hml, hown, hts⟩ (kX10_take l E (pS E (va_up g_160 u.2.2.2.2.2 (some (rX1 (some (E.2.2.2 u.2.1)) (-1) (-1) 1 (some (u.2.2.2.2.2 + 1)) none none none none))) px bk T pn rc (p_take K 5 w1)) w1.2.2.2.2.2 (px + 1) T (p_take K 5 w1) kk K 6 pS_t ((pS_out (by omega) (by omega) (by omega)).trans (q_ne (by omega) ((fr_160 _ (by omega) (by omega) (by omega) (by omega)).trans ((pS_out (by omega) (by omega) (by omega)).trans (q_ne (by omega) f2))))) (by assumption) (by assumption) (by assumption) (by assumption) hok_208 (by first | assumption | decide)) (cwV 1 hts gX8_readAct_X10_take rfl rfl rfl (by decide +kernel) ⟨(by show 1 + 1 ≤ 10 * d + 40; omega), (by show 8 + (2 + 11) + 22 ≤ 100 * d + 1000; omega)⟩) (q_pV hA hW hS (ci := 10) rfl pS_t) rfl rfl hl.1 rfl (lv_room (Nat.le_of_ble_eq_true rfl)) dX8_readAct_218 ⟨(by show 1 + (w1.2.2.2.2.2 - (u.2.2.2.2.2 + 1)) + 0 ≤ (p_act K Wd pN pn rN rc (p_blk K Wd pN pn rN rc d0) u).2.2.2.2.2 - u.2.2.2.2.2; omega), (by show 9 + (9 * (w1.2.2.2.2.2 - (u.2.2.2.2.2 + 1))) + 0 ≤ 9 * ((p_act K Wd pN pn rN rc (p_blk K Wd pN pn rN rc d0) u).2.2.2.2.2 - u.2.2.2.2.2); omega)⟩) hS (fun f_218 n_218 H locs hp hW hS => ?_)
    obtain ⟨rfl, rfl⟩ := hp
    have hW : q_W E (va_up (pS E (va_up g_160 u.2.2.2.2.2 (some (rX1 (some (E.2.2.2 u.2.1)) (-1) (-1) 1 (some (u.2.2.2.2.2 + 1)) none none none none))) px bk T pn rc (p_take K 5 w1)) (px + 1) (some (cTS E (px + 1) T (p_take K 6 (p_take K 5 w1))))) w1.2.2.2.2.2 H := hW
    have hW : q_W E (pS E (va_up g_160 u.2.2.2.2.2 (some (rX1 (some (E.2.2.2 u.2.1)) (-1) (-1) 1 (some (u.2.2.2.2.2 + 1)) none none none none))) px bk T pn rc (p_take K 6 (p_take K 5 w1))) w1.2.2.2.2.2 H := by rw [← pS_st (s := p_take K 5 w1) (s' := p_take K 6 (p_take K 5 w1)) rfl rfl]; exact hW
    have hok_218 : p_ok K T (p_take K 6 (p_take K 5 w1)) := hok_208.take hKT (by first | assumption | decide)
    have hW : q_W E (pS E (va_up g_160 u.2.2.2.2.2 (some (rX1 (some (E.2.2.2 u.2.1)) (-1) (-1) 1 (some (u.2.2.2.2.2 + 1)) none none none none))) px bk T pn rc (p_take K 6 (p_take K 5 w1))) w1.2.2.2.2.2 H := hW
    refine lv_aload_n hx hb dX8_readAct_221 rfl (lv_at hl 0 rfl) ?_
    refine lv_aload_n hx hb dX8_readAct_222 rfl (lv_at hl 1 rfl) ?_
    refine lv_iconst (v := 0) hx hb dX8_readAct_223 (by decide) ?_
    refine q_ci (va_runV (As := [.int 0]) (rest := [.ref u.2.2.2.2.2]) ⟨hx, hb, hml, hown, hts⟩ (kX8_known0 l E (pS E (va_up g_160 u.2.2.2.2.2 (some (rX1 (some (E.2.2.2 u.2.1)) (-1) (-1) 1 (some (u.2.2.2.2.2 + 1)) none none none none))) px bk T pn rc (p_take K 6 (p_take K 5 w1))) w1.2.2.2.2.2 px bk T pn rc (p_take K 6 (p_take K 5 w1)) kk wo pN rN K Wd ((pS_out (by omega) (by omega) (by omega)).trans (q_ne (by omega) ((fr_160 _ (by omega) (by omega) (by omega) (by omega)).trans ((pS_out (by omega) (by omega) (by omega)).trans (q_ne (by omega) f2))))) ((pS_out (by omega) (by omega) (by omega)).trans (q_ne (by omega) ((fr_160 _ (by omega) (by omega) (by omega) (by omega)).trans ((pS_out (by omega) (by omega) (by omega)).trans (q_ne (by omega) f4))))) ((pS_out (by omega) (by omega) (by omega)).trans (q_ne (by omega) ((fr_160 _ (by omega) (by omega) (by omega) (by omega)).trans ((pS_out (by omega) (by omega) (by omega)).trans (q_ne (by omega) g1))))) ((pS_out (by omega) (by omega) (by omega)).trans (q_ne (by omega) ((fr_160 _ (by omega) (by omega) (by omega) (by omega)).trans ((pS_out (by omega) (by omega) (by omega)).trans (q_ne (by omega) g3))))) (pS_K hbk) (by assumption) (by omega) (by assumption) (by assumption) (by assumption) (by assumption) (by assumption) (by assumption) (by assumption) hok_218) (cwV 1 hts gX8_readAct_X8_readKnownName rfl rfl rfl (by decide +kernel) ⟨(by show 1 + 1 ≤ 10 * d + 40; omega), (by show 8 + (3 + 11) + 24 ≤ 100 * d + 1000; omega)⟩) (q_pV hA hW hS (ci := 8) rfl pS_p) rfl rfl hl.1 rfl (lv_room (Nat.le_of_ble_eq_true rfl)) dX8_readAct_224 ⟨(by show 1 + (w1.2.2.2.2.2 - (u.2.2.2.2.2 + 1)) + 0 ≤ (p_act K Wd pN pn rN rc (p_blk K Wd pN pn rN rc d0) u).2.2.2.2.2 - u.2.2.2.2.2; omega), (by show 9 + (9 * (w1.2.2.2.2.2 - (u.2.2.2.2.2 + 1))) + 0 ≤ 9 * ((p_act K Wd pN pn rN rc (p_blk K Wd pN pn rN rc d0) u).2.2.2.2.2 - u.2.2.2.2.2); omega)⟩) hS (fun r_224 f_224 n_224 H locs hp hW hS => ?_)
    obtain ⟨rfl, rfl, rfl⟩ := hp
    rw [pS_pS] at hW
    have hok_224 : p_ok K T (p_known K Wd pN pn (p_take K 6 (p_take K 5 w1))) := hok_218.known hKT
    have hW : q_W E (pS E (va_up g_160 u.2.2.2.2.2 (some (rX1 (some (E.2.2.2 u.2.1)) (-1) (-1) 1 (some (u.2.2.2.2.2 + 1)) none none none none))) px bk T pn rc (p_known K Wd pN pn (p_take K 6 (p_take K 5 w1)))) w1.2.2.2.2.2 H := hW
    refine q_putN hx hb hts hown hA hW hS iX1 tyX1 tyX1_ok nmX1 ((pS_out (by omega) (by omega) (by omega)).trans q_eq) rfl 1 (by decide) (va_Nw.use rfl (hA.2.2.2.1 ("HighRecipes$Parser", 203, "HighRecipes$Act", "pan", "I", "HighRecipes") (by decide +kernel))) (fun _ h9 => h9) rfl rfl rfl (Nat.le_of_ble_eq_true rfl) dX8_readAct_227 (fun H locs hW hS => ?_)
    have hW : q_W E (va_up (pS E (va_up g_160 u.2.2.2.2.2 (some (rX1 (some (E.2.2.2 u.2.1)) (-1) (-1) 1 (some (u.2.2.2.2.2 + 1)) none none none none))) px bk T pn rc (p_known K Wd pN pn (p_take K 6 (p_take K 5 w1)))) u.2.2.2.2.2 (some (rX1 (some (E.2.2.2 u.2.1)) (ix pN pn (Wd (p_take K 6 (p_take K 5 w1)).1)) (-1) 1 (some (u.2.2.2.2.2 + 1)) none none none none))) w1.2.2.2.2.2 H := hW
    rw [pS_iu (by omega) (by omega) (by omega)] at hW
    rw [q_upup] at hW
    refine lv_goto (tgt := 313) hx hb dX8_readAct_230 (by decide) ?_
    refine lv_aload_n hx hb dX8_readAct_313 rfl (lv_at hl 1 rfl) ?_
    refine q_get hx hb hts hown hA hW iX8 pS_p rfl 0 (by decide) (hts (.fieldLink RX8 10 "HighRecipes$Parser" "tokens" "LHighRecipes$Tokens;") (by decide +kernel)) (fun _ h9 => h9) (v := .ref (px + 1)) rfl dX8_readAct_314 ?_
    refine va_gets (n := "SEMICOLON") (v := .ref (E.2.2.2 29)) hx hb (hA.2.2.1.1.1 29 (by decide)).1 hS hown (hts (.fieldLink RX8 95 "HighRecipes$Kind" "SEMICOLON" "LHighRecipes$Kind;") (by decide +kernel)) (fun _ h9 => h9) dX8_readAct_317 ?_
    refine q_cv (va_runV (As := [.ref (E.2.2.2 29)]) (rest := []) ⟨hx, hb, hml, hown, hts⟩ (kX10_take l E (pS E (va_up g_160 u.2.2.2.2.2 (some (rX1 (some (E.2.2.2 u.2.1)) (ix pN pn (Wd (p_take K 6 (p_take K 5 w1)).1)) (-1) 1 (some (u.2.2.2.2.2 + 1)) none none none none))) px bk T pn rc (p_known K Wd pN pn (p_take K 6 (p_take K 5 w1)))) w1.2.2.2.2.2 (px + 1) T (p_known K Wd pN pn (p_take K 6 (p_take K 5 w1))) kk K 29 pS_t ((pS_out (by omega) (by omega) (by omega)).trans (q_ne (by omega) ((fr_160 _ (by omega) (by omega) (by omega) (by omega)).trans ((pS_out (by omega) (by omega) (by omega)).trans (q_ne (by omega) f2))))) (by assumption) (by assumption) (by assumption) (by assumption) hok_224 (by first | assumption | decide)) (cwV 1 hts gX8_readAct_X10_take rfl rfl rfl (by decide +kernel) ⟨(by show 1 + 1 ≤ 10 * d + 40; omega), (by show 8 + (2 + 11) + 22 ≤ 100 * d + 1000; omega)⟩) (q_pV hA hW hS (ci := 10) rfl pS_t) rfl rfl hl.1 rfl (lv_room (Nat.le_of_ble_eq_true rfl)) dX8_readAct_320 ⟨(by show 1 + (w1.2.2.2.2.2 - (u.2.2.2.2.2 + 1)) + 0 ≤ (p_act K Wd pN pn rN rc (p_blk K Wd pN pn rN rc d0) u).2.2.2.2.2 - u.2.2.2.2.2; omega), (by show 9 + (9 * (w1.2.2.2.2.2 - (u.2.2.2.2.2 + 1))) + 0 ≤ 9 * ((p_act K Wd pN pn rN rc (p_blk K Wd pN pn rN rc d0) u).2.2.2.2.2 - u.2.2.2.2.2); omega)⟩) hS (fun f_320 n_320 H locs hp hW hS => ?_)
    obtain ⟨rfl, rfl⟩ := hp
    have hW : q_W E (va_up (pS E (va_up g_160 u.2.2.2.2.2 (some (rX1 (some (E.2.2.2 u.2.1)) (ix pN pn (Wd (p_take K 6 (p_take K 5 w1)).1)) (-1) 1 (some (u.2.2.2.2.2 + 1)) none none none none))) px bk T pn rc (p_known K Wd pN pn (p_take K 6 (p_take K 5 w1)))) (px + 1) (some (cTS E (px + 1) T (p_take K 29 (p_known K Wd pN pn (p_take K 6 (p_take K 5 w1))))))) w1.2.2.2.2.2 H := hW
    have hW : q_W E (pS E (va_up g_160 u.2.2.2.2.2 (some (rX1 (some (E.2.2.2 u.2.1)) (ix pN pn (Wd (p_take K 6 (p_take K 5 w1)).1)) (-1) 1 (some (u.2.2.2.2.2 + 1)) none none none none))) px bk T pn rc (p_take K 29 (p_known K Wd pN pn (p_take K 6 (p_take K 5 w1))))) w1.2.2.2.2.2 H := by rw [← pS_st (s := p_known K Wd pN pn (p_take K 6 (p_take K 5 w1))) (s' := p_take K 29 (p_known K Wd pN pn (p_take K 6 (p_take K 5 w1)))) rfl rfl]; exact hW
    have hok_320 : p_ok K T (p_take K 29 (p_known K Wd pN pn (p_take K 6 (p_take K 5 w1)))) := hok_224.take hKT (by first | assumption | decide)
    have hW : q_W E (pS E (va_up g_160 u.2.2.2.2.2 (some (rX1 (some (E.2.2.2 u.2.1)) (ix pN pn (Wd (p_take K 6 (p_take K 5 w1)).1)) (-1) 1 (some (u.2.2.2.2.2 + 1)) none none none none))) px bk T pn rc (p_take K 29 (p_known K Wd pN pn (p_take K 6 (p_take K 5 w1))))) w1.2.2.2.2.2 H := hW
    refine lv_aload_n hx hb dX8_readAct_323 rfl (lv_at hl 0 rfl) ?_
    have eU : p_act K Wd pN pn rN rc (p_blk K Wd pN pn rN rc d0) u = p_take K 29 (p_known K Wd pN pn (p_take K 6 (p_take K 5 w1))) := by unfold p_act; rw [if_neg (by rw [hkd]; decide), if_neg (by rw [hkd]; decide), if_pos hkd, hu_w1]; unfold p_what; rw [if_pos e177]
    have eS : p_actS K Wd pN pn rN rc RS (p_blk K Wd pN pn rN rc d0) (p_blkS K Wd pN pn rN rc RS d0) u = k_pour pn (ix pN pn (Wd (p_take K 6 (p_take K 5 w1)).1)).toNatClampNeg 1 (p_valD K Wd pN pn 4 (p_beg K u)) := by unfold p_actS; rw [if_neg (by rw [hkd]; decide), if_neg (by rw [hkd]; decide), if_pos hkd, hu_w1]; unfold p_what; rw [if_pos e177, if_pos e177]
    have rep : (p_take K 29 (p_known K Wd pN pn (p_take K 6 (p_take K 5 w1)))).2.1 ≠ 40 → (p_take K 29 (p_known K Wd pN pn (p_take K 6 (p_take K 5 w1)))).2.2.1 = 0 → ∀ o9 : Option Nat, rA E pn u.2.2.2.2.2 (p_take K 29 (p_known K Wd pN pn (p_take K 6 (p_take K 5 w1)))).2.2.2.2.2 (va_up (va_up g_160 u.2.2.2.2.2 (some (rX1 (some (E.2.2.2 u.2.1)) (ix pN pn (Wd (p_take K 6 (p_take K 5 w1)).1)) (-1) 1 (some (u.2.2.2.2.2 + 1)) none none none none))) u.2.2.2.2.2 (some (cAct E u.2.1 (ix pN pn (Wd (p_take K 6 (p_take K 5 w1)).1)) (-1) 1 (some (u.2.2.2.2.2 + 1)) none none none o9))) RS rc d u.2.2.2.2.2 (k_pour pn (ix pN pn (Wd (p_take K 6 (p_take K 5 w1)).1)).toNatClampNeg 1 (p_valD K Wd pN pn 4 (p_beg K u))) := by
      intro k1 k2 o9
      have ok3 : p_ok K T (p_known K Wd pN pn (p_take K 6 (p_take K 5 w1))) := ((ok_w1.take hKT (by decide)).take hKT (by decide)).known hKT
      have L := (go_take (s := p_known K Wd pN pn (p_take K 6 (p_take K 5 w1))) (w := 29) hKT (by decide) ok3).2
      have Lw := (((go_take (s := w1) (w := 5) hKT (by decide)).trans (go_take (w := 6) hKT (by decide))).trans (go_known (Wd := Wd) (nm := pN) (cnt := pn) hKT) ok_w1).2
      have R1 := rep_160 (Lw.2.2.1 (L.2.2.1 k1)) (Lw.2.2.2 (L.2.2.2 k2))
      obtain ⟨-, i, hi, hix⟩ := known_ok hpn (L.2.2.1 k1) (L.2.2.2 k2)
      rw [hix, nI_clamp (by omega), hd1]
      refine ⟨u.2.1, _, _, _, _, _, _, _, o9, Nat.le_refl _, (by show u.2.2.2.2.2 < w1.2.2.2.2.2; omega), q_eq, Or.inl ⟨hkd, i, u.2.2.2.2.2 + 1, _, hi, rfl, Or.inr rfl, rfl, rV_frame ?_ (Nat.le_succ _) (Nat.le_refl _) _ _ _ R1, rfl⟩⟩
      intro q h1 h2
      have h1 : u.2.2.2.2.2 + 1 ≤ q := h1
      exact (va_up_ne _ _ (by omega)).trans (va_up_ne _ _ (by omega))
    exact q_aret (v := some u.2.2.2.2.2) hx hb hr (Or.inl ⟨_, rfl⟩) hlocks hW hS ⟨_, _, _, _, _, _, _, _, rfl, congrArg (fun z => pS E _ px bk T pn rc z) eU, (by rw [eU]; try rfl), fun q hq h7 h8 h9 => ((va_up_ne _ _ (by omega)).trans (fi_160 q hq h7 h8 h9)), q_eq, fun k1 k2 => by rw [eS]; rw [eU] at k1 k2 ⊢; exact rep k1 k2⟩ (by show 1 + (w1.2.2.2.2.2 - (u.2.2.2.2.2 + 1)) ≤ (p_act K Wd pN pn rN rc (p_blk K Wd pN pn rN rc d0) u).2.2.2.2.2 - u.2.2.2.2.2; omega) (by show 9 + (9 * (w1.2.2.2.2.2 - (u.2.2.2.2.2 + 1))) ≤ 9 * ((p_act K Wd pN pn rN rc (p_blk K Wd pN pn rN rc d0) u).2.2.2.2.2 - u.2.2.2.2.2); omega) dX8_readAct_324

set_option maxHeartbeats 4000000 in
set_option maxRecDepth 100000 in
theorem kX8_readAct_15 (l : Launch) (E : q_E) (f : q_H) (n : Nat) (px bk T pn rc : Nat) (u : p_S) (kk : Nat → Option Nat) (wo pN rN : Nat → Int64) (K : Nat → Nat) (Wd : Nat → Int64) (RS : Nat → q_S) (d d0 : Nat) (f2 : f (px + 2) = some (aQ E 5 401 kk)) (f4 : f (px + 4) = some (aJ E 401 wo)) (g1 : f (bk + 1) = some (aJ E 8 pN)) (g3 : f (bk + 3) = some (aJ E 6 rN)) (hp : PAR E f px bk T pn rc u) (hbk : px + 5 ≤ bk) (hn : bk + 5 ≤ n) (hT : T ≤ 400) (hkk : ∀ j, j ≤ T → kk j = some (E.2.2.2 (K j))) (hKT : 39 ≤ K T) (hK41 : ∀ j, K j < 41) (hWd : ∀ j, j ≤ T → wo j = Wd j) (hpn : pn ≤ 8) (hrc : rc ≤ 6) (hok : p_ok K T u) (hsn : n = u.2.2.2.2.2) (hkd : u.2.1 = 15) (hd1 : d = d0 + 1) (hd6 : d ≤ 6) (ihB : RBK l E RS d0) : Met l yX8_readAct wsX8_readAct ({ frames := 10 * d + 40, cells := (p_act K Wd pN pn rN rc (p_blk K Wd pN pn rN rc d0) u).2.2.2.2.2 - u.2.2.2.2.2, slots := 9 * ((p_act K Wd pN pn rN rc (p_blk K Wd pN pn rN rc d0) u).2.2.2.2.2 - u.2.2.2.2.2), locals := 100 * d + 1000 }) (q_P E [.ref px, .int (nI (6 - d))] f n) (q_Qq E (ACTq E f px bk T pn rc K Wd pN rN RS d d0 u)) ((p_act K Wd pN pn rN rc (p_blk K Wd pN pn rN rc d0) u).2.2.2.2.2 - u.2.2.2.2.2) (9 * ((p_act K Wd pN pn rN rc (p_blk K Wd pN pn rN rc d0) u).2.2.2.2.2 - u.2.2.2.2.2)) (q_ge E) := by
  refine Met.ofW (cc := cX8_readAct) (maxL := 3) (ret := (some (.object "HighRecipes$Act"))) (by decide) rfl ?_
  intro p e s m args below meth c s₁ B hml hv
  obtain ⟨rfl, hA, hW⟩ := hv
  have hx := B.exec
  have hb := B.bytes
  have hr := B.returns
  have hts := atoms_spec (ws := wsX8_readAct) B.pre
  have hown : s.vm.findClass RX8 = some m.cls := findClass_of_methodNamed B.named
  have hlocks := B.notSynchronized
  have hS : va_S (q_ge E) s.heap s.heap [] := va_S.rf
  have iX1 : ∀ w ∈ wsX10, w ∈ wsX8_readAct := by decide +kernel
  have iX10 : ∀ w ∈ wsX100, w ∈ wsX8_readAct := by decide +kernel
  have iX8 : ∀ w ∈ wsX80, w ∈ wsX8_readAct := by decide +kernel
  have hl := lv_entry ([.ref px, .int (nI (6 - d))]) (n := 3) (Nat.le_of_ble_eq_true rfl)
  rw [lg_entry_eq]
  generalize (lg_sl ([.ref px, .int (nI (6 - d))]) ++ List.replicate (3 - (lg_sl ([.ref px, .int (nI (6 - d))])).length) Slot.unset).toArray = ls at hl ⊢
  have hl : lv_has ls 3 [(0, .ref px), (1, .int (nI (6 - d)))] := hl
  subst hsn
  rw [hp.eq] at hW
  have hk41 : u.2.1 < 41 := by rcases hok.2.1 with h9 | h9 <;> rw [h9]; decide; exact hK41 _
  have hlt : u.2.1 < 39 := by rw [hkd]; decide
  have okb : p_ok K T (p_beg K u) := p_ok.act (s := p_new u) hok hKT hlt
  have hna : u.2.2.2.2.2 + 1 ≤ (p_act K Wd pN pn rN rc (p_blk K Wd pN pn rN rc d0) u).2.2.2.2.2 := act_n hKT (by rw [hkd]; rfl) hok
  have gob := (go_beg (s := u) hKT hlt hok).2
  have ea : nI (6 - d) + 1 = nI (6 - d0) := by rw [nI_1]; congr 1; omega
  refine q_new (ci := 2) hx hb hts hown hA hW hS iX1 tyX1 tyX1_ok (hts (.classLink RX8 135 RX1) (by decide +kernel)) (hts (.instantiable RX1 9) (by decide +kernel)) (hts (.initialized RX1) (by decide +kernel)) rfl (fs := [.null, .int 0, .int 0, .int 0, .null, .null, .null, .null, .null]) (by decide) (by show 0 + 1 ≤ (p_act K Wd pN pn rN rc (p_blk K Wd pN pn rN rc d0) u).2.2.2.2.2 - u.2.2.2.2.2; omega) (by show 0 + 9 ≤ 9 * ((p_act K Wd pN pn rN rc (p_blk K Wd pN pn rN rc d0) u).2.2.2.2.2 - u.2.2.2.2.2); omega) dX8_readAct_0 (fun H hW hS => ?_)
  have hW : q_W E (va_up (pS E f px bk T pn rc u) u.2.2.2.2.2 (some (rX1 none 0 0 0 none none none none none))) (u.2.2.2.2.2 + 1) H := hW
  rw [pS_iu (by omega) (by omega) (by omega)] at hW
  have hW : q_W E (pS E (va_up f u.2.2.2.2.2 (some (rX1 none 0 0 0 none none none none none))) px bk T pn rc (p_new u)) (u.2.2.2.2.2 + 1) H := hW
  refine lv_dup hx hb dX8_readAct_3 rfl ?_
  refine lv_aload_n hx hb dX8_readAct_4 rfl (lv_at hl 0 rfl) ?_
  refine q_get hx hb hts hown hA hW iX8 pS_p rfl 0 (by decide) (hts (.fieldLink RX8 10 "HighRecipes$Parser" "tokens" "LHighRecipes$Tokens;") (by decide +kernel)) (fun _ h9 => h9) (v := .ref (px + 1)) rfl dX8_readAct_5 ?_
  refine q_getN hx hb hts hown hA hW iX10 pS_t rfl 5 (by decide) (va_Nw.use rfl (hA.2.2.2.1 ("HighRecipes$Parser", 31, "HighRecipes$Tokens", "kind", "LHighRecipes$Kind;", "HighRecipes") (by decide +kernel))) (fun _ h9 => h9) (v := .ref (E.2.2.2 ((p_new u)).2.1)) rfl dX8_readAct_8 ?_
  refine q_cv (va_runI (As := [.ref (E.2.2.2 u.2.1)]) (rest := [.ref u.2.2.2.2.2]) ⟨hx, hb, hml, hown, hts⟩ (kX1_init l E (pS E (va_up f u.2.2.2.2.2 (some (rX1 none 0 0 0 none none none none none))) px bk T pn rc (p_new u)) (u.2.2.2.2.2 + 1) u.2.2.2.2.2 u.2.1 ((pS_out (by omega) (by omega) (by omega)).trans q_eq)) (cwI 1 hts gX8_readAct_X1_init rfl rfl rfl (hts (.initialized RX1) (by decide +kernel)) (hts (.methodLink RX8 146 yX1_init) (by decide +kernel)) (hts (.instanceMethod yX1_init) (by decide +kernel)) rfl (by decide +kernel) ⟨(by show 1 + 1 ≤ 10 * d + 40; omega), (by show 8 + (2 + 11) + 20 ≤ 100 * d + 1000; omega)⟩) (q_pS hA hW hS) rfl rfl hl.1 rfl (lv_room (Nat.le_of_ble_eq_true rfl)) dX8_readAct_11 ⟨(by show 1 + 0 ≤ (p_act K Wd pN pn rN rc (p_blk K Wd pN pn rN rc d0) u).2.2.2.2.2 - u.2.2.2.2.2; omega), (by show 9 + 0 ≤ 9 * ((p_act K Wd pN pn rN rc (p_blk K Wd pN pn rN rc d0) u).2.2.2.2.2 - u.2.2.2.2.2); omega)⟩) hS (fun f_11 n_11 H locs hp hW hS => ?_)
  obtain ⟨rfl, rfl⟩ := hp
  have hW : q_W E (va_up (pS E (va_up f u.2.2.2.2.2 (some (rX1 none 0 0 0 none none none none none))) px bk T pn rc (p_new u)) u.2.2.2.2.2 (some (rX1 (some (E.2.2.2 u.2.1)) (-1) (-1) 0 none none none none none))) (u.2.2.2.2.2 + 1) H := hW
  rw [pS_iu (by omega) (by omega) (by omega)] at hW
  rw [q_upup] at hW
  have hW : q_W E (pS E (va_up f u.2.2.2.2.2 (some (rX1 (some (E.2.2.2 u.2.1)) (-1) (-1) 0 none none none none none))) px bk T pn rc (p_new u)) (u.2.2.2.2.2 + 1) H := hW
  refine lv_astore_n (lv' := [(2, .ref u.2.2.2.2.2), (0, .ref px), (1, .int (nI (6 - d)))]) hx hb dX8_readAct_14 rfl hl (by decide) rfl (fun ls hl => ?_)
  refine lv_aload_n hx hb dX8_readAct_15 rfl (lv_at hl 1 rfl) ?_
  refine q_cv (va_runV (As := []) (rest := []) ⟨hx, hb, hml, hown, hts⟩ (kX8_countAct l E (pS E (va_up f u.2.2.2.2.2 (some (rX1 (some (E.2.2.2 u.2.1)) (-1) (-1) 0 none none none none none))) px bk T pn rc (p_new u)) (u.2.2.2.2.2 + 1) px bk T pn rc (p_new u) kk wo pN rN K Wd ((pS_out (by omega) (by omega) (by omega)).trans (q_ne (by omega) f2)) ((pS_out (by omega) (by omega) (by omega)).trans (q_ne (by omega) f4)) ((pS_out (by omega) (by omega) (by omega)).trans (q_ne (by omega) g1)) ((pS_out (by omega) (by omega) (by omega)).trans (q_ne (by omega) g3)) (pS_K hbk) (by assumption) (by omega) (by assumption) (by assumption) (by assumption) (by assumption) (by assumption) (by assumption) (by assumption) hok.new) (cwV 0 hts gX8_readAct_X8_countAct rfl rfl rfl (by decide +kernel) ⟨(by show 1 + 1 ≤ 10 * d + 40; omega), (by show 8 + (1 + 11) + 21 ≤ 100 * d + 1000; omega)⟩) (q_pV hA hW hS (ci := 8) rfl pS_p) rfl rfl hl.1 rfl (lv_room (Nat.le_of_ble_eq_true rfl)) dX8_readAct_16 ⟨(by show 1 + 0 ≤ (p_act K Wd pN pn rN rc (p_blk K Wd pN pn rN rc d0) u).2.2.2.2.2 - u.2.2.2.2.2; omega), (by show 9 + 0 ≤ 9 * ((p_act K Wd pN pn rN rc (p_blk K Wd pN pn rN rc d0) u).2.2.2.2.2 - u.2.2.2.2.2); omega)⟩) hS (fun f_16 n_16 H locs hp hW hS => ?_)
  obtain ⟨rfl, rfl⟩ := hp
  rw [pS_pS] at hW
  have hW : q_W E (pS E (va_up f u.2.2.2.2.2 (some (rX1 (some (E.2.2.2 u.2.1)) (-1) (-1) 0 none none none none none))) px bk T pn rc (p_cnt (p_new u))) (u.2.2.2.2.2 + 1) H := hW
  refine lv_aload_n hx hb dX8_readAct_19 rfl (lv_at hl 1 rfl) ?_
  refine q_get hx hb hts hown hA hW iX8 pS_p rfl 0 (by decide) (hts (.fieldLink RX8 10 "HighRecipes$Parser" "tokens" "LHighRecipes$Tokens;") (by decide +kernel)) (fun _ h9 => h9) (v := .ref (px + 1)) rfl dX8_readAct_20 ?_
  refine lv_iconst (v := 1) hx hb dX8_readAct_23 (by decide) ?_
  refine q_cv (va_runV (As := [.int 1]) (rest := []) ⟨hx, hb, hml, hown, hts⟩ (kX10_step l E (pS E (va_up f u.2.2.2.2.2 (some (rX1 (some (E.2.2.2 u.2.1)) (-1) (-1) 0 none none none none none))) px bk T pn rc (p_cnt (p_new u))) (u.2.2.2.2.2 + 1) (px + 1) T (p_cnt (p_new u)) kk K true pS_t ((pS_out (by omega) (by omega) (by omega)).trans (q_ne (by omega) f2)) (by assumption) (by assumption) (hok.step hKT (r := true) (fun _ => hlt)).2) (cwV 1 hts gX8_readAct_X10_step rfl rfl rfl (by decide +kernel) ⟨(by show 0 + 1 ≤ 10 * d + 40; omega), (by show 8 + (3 + 11) + 0 ≤ 100 * d + 1000; omega)⟩) (q_pV hA hW hS (ci := 10) rfl pS_t) rfl rfl hl.1 rfl (lv_room (Nat.le_of_ble_eq_true rfl)) dX8_readAct_24 ⟨(by show 1 + 0 ≤ (p_act K Wd pN pn rN rc (p_blk K Wd pN pn rN rc d0) u).2.2.2.2.2 - u.2.2.2.2.2; omega), (by show 9 + 0 ≤ 9 * ((p_act K Wd pN pn rN rc (p_blk K Wd pN pn rN rc d0) u).2.2.2.2.2 - u.2.2.2.2.2); omega)⟩) hS (fun f_24 n_24 H locs hp hW hS => ?_)
  obtain ⟨rfl, rfl⟩ := hp
  have hW : q_W E (va_up (pS E (va_up f u.2.2.2.2.2 (some (rX1 (some (E.2.2.2 u.2.1)) (-1) (-1) 0 none none none none none))) px bk T pn rc (p_cnt (p_new u))) (px + 1) (some (cTS E (px + 1) T (p_step K true (p_cnt (p_new u)))))) (u.2.2.2.2.2 + 1) H := hW
  have hW : q_W E (pS E (va_up f u.2.2.2.2.2 (some (rX1 (some (E.2.2.2 u.2.1)) (-1) (-1) 0 none none none none none))) px bk T pn rc (p_step K true (p_cnt (p_new u)))) (u.2.2.2.2.2 + 1) H := by rw [← pS_st (s := p_cnt (p_new u)) (s' := p_step K true (p_cnt (p_new u))) rfl rfl]; exact hW
  have hW : q_W E (pS E (va_up f u.2.2.2.2.2 (some (rX1 (some (E.2.2.2 u.2.1)) (-1) (-1) 0 none none none none none))) px bk T pn rc (p_step K true (p_cnt (p_new u)))) (u.2.2.2.2.2 + 1) H := hW
  refine va_gets hx hb hA.2.2.1.2.2.2.1.1 hS hown (hts (.fieldLink RX8 151 "HighRecipes$1" "$SwitchMap$HighRecipes$Kind" "[I") (by decide +kernel)) (fun _ h9 => h9) dX8_readAct_27 ?_
  refine lv_aload_n hx hb dX8_readAct_30 rfl (lv_at hl 0 rfl) ?_
  refine q_getN hx hb hts hown hA hW iX1 ((pS_out (by omega) (by omega) (by omega)).trans q_eq) rfl 0 (by decide) (va_Nw.use rfl (hA.2.2.2.1 ("HighRecipes$Parser", 157, "HighRecipes$Act", "kind", "LHighRecipes$Kind;", "HighRecipes") (by decide +kernel))) (fun _ h9 => h9) (v := .ref (E.2.2.2 u.2.1)) rfl dX8_readAct_31 ?_
  refine q_ci (va_runU (As := []) (rest := [.ref (E.2.2.2 101)]) ⟨hx, hb, hml, hown, hts⟩ (q_ordinal l E (pS E (va_up f u.2.2.2.2.2 (some (rX1 (some (E.2.2.2 u.2.1)) (-1) (-1) 0 none none none none none))) px bk T pn rc (p_beg K u)) (u.2.2.2.2.2 + 1) u.2.1 (by rw [hkd]; decide)) (va_cwU 0 hts gX8_readAct_Jx29ce0_ordinal_8abf5_u158X5 rfl rfl rfl rfl (by decide +kernel) ⟨(by show 0 + 1 ≤ 10 * d + 40; omega), (by show 8 + (1 + 11) + 0 ≤ 100 * d + 1000; omega)⟩) ⟨q_P.blind, va_recvE hA.2.2.1.1 (by rw [hkd]; decide) hS, fun U hU hWm => ⟨rfl, hA.go hS hU hWm, by rw [hU]; exact hW⟩⟩ rfl rfl hl.1 rfl (lv_room (Nat.le_of_ble_eq_true rfl)) dX8_readAct_34 ⟨(by show 1 + 0 ≤ (p_act K Wd pN pn rN rc (p_blk K Wd pN pn rN rc d0) u).2.2.2.2.2 - u.2.2.2.2.2; omega), (by show 9 + 0 ≤ 9 * ((p_act K Wd pN pn rN rc (p_blk K Wd pN pn rN rc d0) u).2.2.2.2.2 - u.2.2.2.2.2); omega)⟩) hS (fun r_34 f_34 n_34 H locs hp hW hS => ?_)
  obtain ⟨rfl, rfl, rfl⟩ := hp
  rw [hkd]
  refine va_ti hx hb hA.2.2.1.2.2.2.1.2 hS (vp_in_nI (by decide) (by decide)) (v := .int 1) (by rw [nI_clamp (by decide)]; rfl) dX8_readAct_37 ?_
  refine lv_tableIn (x := 1) (off := 42) (tgt := 80) hx hb dX8_readAct_38 (by decide) (by decide) (by decide) (by decide) ?_
  obtain ⟨w1, hu_w1⟩ : ∃ z, p_val K Wd pN pn 4 (p_beg K u) = z := ⟨_, rfl⟩
  have v_w1 := val_n (Wd := Wd) (pN := pN) (pn := pn) (d := 4) hKT okb
  rw [hu_w1] at v_w1
  have ok_w1 := v_w1.1
  obtain ⟨w2, hu_w2⟩ : ∃ z, p_blk K Wd pN pn rN rc d0 (w1) = z := ⟨_, rfl⟩
  have b_w2 := go_blk (Wd := Wd) (pN := pN) (pn := pn) (rN := rN) (rc := rc) hKT d0 _ ok_w1
  rw [hu_w2] at b_w2
  have ok_w2 := b_w2.1
  have wn1 : u.2.2.2.2.2 + 1 + 1 ≤ w1.2.2.2.2.2 := v_w1.2.2
  have wn2 : w1.2.2.2.2.2 ≤ w2.2.2.2.2.2 := b_w2.2.2.1
  have eU : p_act K Wd pN pn rN rc (p_blk K Wd pN pn rN rc d0) u = w2 := by unfold p_act; rw [if_pos hkd, hu_w1, hu_w2]
  have eN : (p_act K Wd pN pn rN rc (p_blk K Wd pN pn rN rc d0) u).2.2.2.2.2 = w2.2.2.2.2.2 := by rw [eU]
  refine lv_aload_n hx hb dX8_readAct_80 rfl (lv_at hl 0 rfl) ?_
  refine lv_aload_n hx hb dX8_readAct_81 rfl (lv_at hl 1 rfl) ?_
  refine lv_iconst (v := 0) hx hb dX8_readAct_82 (by decide) ?_
  refine q_cq (va_runV (As := [.int 0]) (rest := [.ref u.2.2.2.2.2]) ⟨hx, hb, hml, hown, hts⟩ (val_all l E 4 (pS E (va_up f u.2.2.2.2.2 (some (rX1 (some (E.2.2.2 u.2.1)) (-1) (-1) 0 none none none none none))) px bk T pn rc (p_beg K u)) px bk T pn rc (p_beg K u) kk wo pN rN K Wd  ((pS_out (by omega) (by omega) (by omega)).trans (q_ne (by omega) f2)) ((pS_out (by omega) (by omega) (by omega)).trans (q_ne (by omega) f4)) ((pS_out (by omega) (by omega) (by omega)).trans (q_ne (by omega) g1)) ((pS_out (by omega) (by omega) (by omega)).trans (q_ne (by omega) g3)) (pS_K hbk) hbk (by show bk + 5 ≤ u.2.2.2.2.2 + 1; omega) hT hkk hKT hK41 hWd hpn hrc okb (by decide)) (cwV 1 hts gX8_readAct_X8_readValue rfl rfl rfl (by decide +kernel) ⟨(by show 32 + 1 ≤ 10 * d + 40; omega), (by show 8 + (3 + 11) + 880 ≤ 100 * d + 1000; omega)⟩) (q_pV hA hW hS (ci := 8) rfl pS_p) rfl rfl hl.1 rfl (lv_room (Nat.le_of_ble_eq_true rfl)) dX8_readAct_83 ⟨(by rw [hu_w1]; show 1 + (w1.2.2.2.2.2 - (u.2.2.2.2.2 + 1)) ≤ (p_act K Wd pN pn rN rc (p_blk K Wd pN pn rN rc d0) u).2.2.2.2.2 - u.2.2.2.2.2; omega), (by rw [hu_w1]; show 9 + (9 * (w1.2.2.2.2.2 - (u.2.2.2.2.2 + 1))) ≤ 9 * ((p_act K Wd pN pn rN rc (p_blk K Wd pN pn rN rc d0) u).2.2.2.2.2 - u.2.2.2.2.2); omega)⟩) hS (fun r_83 f_83 n_83 H locs hp hW hS => ?_)
  obtain ⟨g_83, rfl, rfl, rfl, fr_83, rep_83⟩ := hp
  rw [hu_w1] at hW rep_83
  rw [hu_w1]
  have fr_83 : ∀ q, q < u.2.2.2.2.2 + 1 → q ≠ px → q ≠ px + 1 → q ≠ bk → g_83 q = (pS E (va_up f u.2.2.2.2.2 (some (rX1 (some (E.2.2.2 u.2.1)) (-1) (-1) 0 none none none none none))) px bk T pn rc (p_beg K u)) q := fr_83
  have fi_83 : ∀ q, q < u.2.2.2.2.2 → q ≠ px → q ≠ px + 1 → q ≠ bk → g_83 q = f q := fun q hq h7 h8 h9 => (fr_83 q (by omega) h7 h8 h9).trans ((pS_out h7 h8 h9).trans (((va_up_ne _ _ (by omega)).trans rfl)))
  have hW : q_W E (pS E g_83 px bk T pn rc w1) (w1.2.2.2.2.2) H := hW
  refine q_putN hx hb hts hown hA hW hS iX1 tyX1 tyX1_ok nmX1 ((pS_out (by omega) (by omega) (by omega)).trans ((fr_83 _ (by omega) (by omega) (by omega) (by omega)).trans ((pS_out (by omega) (by omega) (by omega)).trans q_eq))) rfl 4 (by decide) (va_Nw.use rfl (hA.2.2.2.1 ("HighRecipes$Parser", 166, "HighRecipes$Act", "value", "LHighRecipes$Value;", "HighRecipes") (by decide +kernel))) (fun _ h9 => h9) rfl rfl rfl (Nat.le_of_ble_eq_true rfl) dX8_readAct_86 (fun H locs hW hS => ?_)
  have hW : q_W E (va_up (pS E g_83 px bk T pn rc w1) u.2.2.2.2.2 (some (rX1 (some (E.2.2.2 u.2.1)) (-1) (-1) 0 (some (u.2.2.2.2.2 + 1)) none none none none))) w1.2.2.2.2.2 H := hW
  rw [pS_iu (by omega) (by omega) (by omega)] at hW
  refine lv_aload_n hx hb dX8_readAct_89 rfl (lv_at hl 0 rfl) ?_
  refine lv_aload_n hx hb dX8_readAct_90 rfl (lv_at hl 1 rfl) ?_
  refine lv_iload_n hx hb dX8_readAct_91 rfl (lv_at hl 2 rfl) ?_
  refine lv_iconst (v := 1) hx hb dX8_readAct_92 (by decide) ?_
  refine lv_iadd hx hb dX8_readAct_93 ?_
  rw [ea]
  refine q_cq (va_runV (As := [.int (nI (6 - d0))]) (rest := [.ref u.2.2.2.2.2]) ⟨hx, hb, hml, hown, hts⟩ (ihB (pS E (va_up g_83 u.2.2.2.2.2 (some (rX1 (some (E.2.2.2 u.2.1)) (-1) (-1) 0 (some (u.2.2.2.2.2 + 1)) none none none none))) px bk T pn rc w1) px bk T pn rc w1 kk wo pN rN K Wd  ((pS_out (by omega) (by omega) (by omega)).trans (q_ne (by omega) ((fr_83 _ (by omega) (by omega) (by omega) (by omega)).trans ((pS_out (by omega) (by omega) (by omega)).trans (q_ne (by omega) f2))))) ((pS_out (by omega) (by omega) (by omega)).trans (q_ne (by omega) ((fr_83 _ (by omega) (by omega) (by omega) (by omega)).trans ((pS_out (by omega) (by omega) (by omega)).trans (q_ne (by omega) f4))))) ((pS_out (by omega) (by omega) (by omega)).trans (q_ne (by omega) ((fr_83 _ (by omega) (by omega) (by omega) (by omega)).trans ((pS_out (by omega) (by omega) (by omega)).trans (q_ne (by omega) g1))))) ((pS_out (by omega) (by omega) (by omega)).trans (q_ne (by omega) ((fr_83 _ (by omega) (by omega) (by omega) (by omega)).trans ((pS_out (by omega) (by omega) (by omega)).trans (q_ne (by omega) g3))))) (pS_K hbk) hbk (by show bk + 5 ≤ w1.2.2.2.2.2; omega) hT hkk hKT hK41 hWd hpn hrc ok_w1) (cwV 1 hts gX8_readAct_X8_readBlock rfl rfl rfl (by decide +kernel) ⟨(by show (10 * d0 + 45) + 1 ≤ 10 * d + 40; omega), (by show 8 + (6 + 11) + (100 * d0 + 1050) ≤ 100 * d + 1000; omega)⟩) (q_pV hA hW hS (ci := 8) rfl pS_p) rfl rfl hl.1 rfl (lv_room (Nat.le_of_ble_eq_true rfl)) dX8_readAct_94 ⟨(by rw [hu_w2]; show 1 + (w1.2.2.2.2.2 - (u.2.2.2.2.2 + 1)) + (w2.2.2.2.2.2 - (w1.2.2.2.2.2)) ≤ (p_act K Wd pN pn rN rc (p_blk K Wd pN pn rN rc d0) u).2.2.2.2.2 - u.2.2.2.2.2; omega), (by rw [hu_w2]; show 9 + (9 * (w1.2.2.2.2.2 - (u.2.2.2.2.2 + 1))) + (9 * (w2.2.2.2.2.2 - (w1.2.2.2.2.2))) ≤ 9 * ((p_act K Wd pN pn rN rc (p_blk K Wd pN pn rN rc d0) u).2.2.2.2.2 - u.2.2.2.2.2); omega)⟩) hS (fun r_94 f_94 n_94 H locs hp hW hS => ?_)
  obtain ⟨g_94, rfl, rfl, fr_94, obj_94, rep_94⟩ := hp
  rw [hu_w2] at hW rep_94
  rw [hu_w2]
  have fr_94 : ∀ q, q < w1.2.2.2.2.2 → q ≠ px → q ≠ px + 1 → q ≠ bk → g_94 q = (pS E (va_up g_83 u.2.2.2.2.2 (some (rX1 (some (E.2.2.2 u.2.1)) (-1) (-1) 0 (some (u.2.2.2.2.2 + 1)) none none none none))) px bk T pn rc w1) q := fr_94
  have fi_94 : ∀ q, q < u.2.2.2.2.2 → q ≠ px → q ≠ px + 1 → q ≠ bk → g_94 q = f q := fun q hq h7 h8 h9 => (fr_94 q (by omega) h7 h8 h9).trans ((pS_out h7 h8 h9).trans (((va_up_ne _ _ (by omega)).trans (fi_83 q hq h7 h8 h9))))
  have hW : q_W E (pS E g_94 px bk T pn rc w2) (w2.2.2.2.2.2) H := hW
  refine q_putN hx hb hts hown hA hW hS iX1 tyX1 tyX1_ok nmX1 ((pS_out (by omega) (by omega) (by omega)).trans ((fr_94 _ (by omega) (by omega) (by omega) (by omega)).trans ((pS_out (by omega) (by omega) (by omega)).trans q_eq))) rfl 6 (by decide) (va_Nw.use rfl (hA.2.2.2.1 ("HighRecipes$Parser", 170, "HighRecipes$Act", "block", "LHighRecipes$Act;", "HighRecipes") (by decide +kernel))) (fun _ h9 => h9) rfl (by cases r_94 <;> rfl) (by cases r_94 <;> rfl) (Nat.le_of_ble_eq_true rfl) dX8_readAct_97 (fun H locs hW hS => ?_)
  have hW : q_W E (va_up (pS E g_94 px bk T pn rc w2) u.2.2.2.2.2 (some (rX1 (some (E.2.2.2 u.2.1)) (-1) (-1) 0 (some (u.2.2.2.2.2 + 1)) none r_94 none none))) w2.2.2.2.2.2 H := hW
  rw [pS_iu (by omega) (by omega) (by omega)] at hW
  refine lv_aload_n hx hb dX8_readAct_100 rfl (lv_at hl 0 rfl) ?_
  have eS : p_actS K Wd pN pn rN rc RS (p_blk K Wd pN pn rN rc d0) (p_blkS K Wd pN pn rN rc RS d0) u = k_again (p_valD K Wd pN pn 4 (p_beg K u)) (p_blkS K Wd pN pn rN rc RS d0 w1) := by unfold p_actS; rw [if_pos hkd, hu_w1]
  have rep : (w2).2.1 ≠ 40 → (w2).2.2.1 = 0 → ∀ o9 : Option Nat, rA E pn u.2.2.2.2.2 (w2).2.2.2.2.2 (va_up (va_up g_94 u.2.2.2.2.2 (some (rX1 (some (E.2.2.2 u.2.1)) (-1) (-1) 0 (some (u.2.2.2.2.2 + 1)) none r_94 none none))) u.2.2.2.2.2 (some (cAct E u.2.1 (-1) (-1) 0 (some (u.2.2.2.2.2 + 1)) none r_94 none o9))) RS rc d u.2.2.2.2.2 (k_again (p_valD K Wd pN pn 4 (p_beg K u)) (p_blkS K Wd pN pn rN rc RS d0 w1)) := by
    intro k1 k2 o9
    have R1 := rep_83 (b_w2.2.2.2.1 k1) (b_w2.2.2.2.2 k2)
    obtain ⟨m, R2⟩ := rep_94 k1 k2
    have hd0 : 1 ≤ d0 := blk_0 (by rw [hu_w2]; exact k1)
    rw [hd1]
    refine ⟨u.2.1, _, _, _, _, _, _, _, o9, Nat.le_refl _, (by omega), q_eq, Or.inr (Or.inr (Or.inr (Or.inr (Or.inr (Or.inr (Or.inr (Or.inl ⟨hkd, hd0, u.2.2.2.2.2 + 1, _, m, _, rfl, rV_frame ?_ (Nat.le_succ _) (by omega) _ _ _ R1, rL_frame ?_ (by omega) (Nat.le_refl _) (fun a S h => rA_frame ?_ (by omega) (Nat.le_refl _) (Nat.le_refl _) (fun _ _ => rfl) d0 a S h) m _ _ R2, rfl⟩)))))))⟩
    · intro q h1 h2
      have h1 : u.2.2.2.2.2 + 1 ≤ q := h1
      exact (va_up_ne _ _ (by omega)).trans ((va_up_ne _ _ (by omega)).trans ((fr_94 q (by omega) (by omega) (by omega) (by omega)).trans ((pS_out (by omega) (by omega) (by omega)).trans (va_up_ne _ _ (by omega)))))
    · exact fun q h1 h2 => (va_up_ne _ _ (by omega)).trans (va_up_ne _ _ (by omega))
    · exact fun q h1 h2 => (va_up_ne _ _ (by omega)).trans (va_up_ne _ _ (by omega))
  exact q_aret (v := some u.2.2.2.2.2) hx hb hr (Or.inl ⟨_, rfl⟩) hlocks hW hS ⟨_, _, _, _, _, _, _, _, rfl, congrArg (fun z => pS E _ px bk T pn rc z) eU, (by rw [eU]; try rfl), fun q hq h7 h8 h9 => ((va_up_ne _ _ (by omega)).trans (fi_94 q hq h7 h8 h9)), q_eq, fun k1 k2 => by rw [eS]; rw [eU] at k1 k2 ⊢; exact rep k1 k2⟩ (by show 1 + (w1.2.2.2.2.2 - (u.2.2.2.2.2 + 1)) + (w2.2.2.2.2.2 - (w1.2.2.2.2.2)) ≤ (p_act K Wd pN pn rN rc (p_blk K Wd pN pn rN rc d0) u).2.2.2.2.2 - u.2.2.2.2.2; omega) (by show 9 + (9 * (w1.2.2.2.2.2 - (u.2.2.2.2.2 + 1))) + (9 * (w2.2.2.2.2.2 - (w1.2.2.2.2.2))) ≤ 9 * ((p_act K Wd pN pn rN rc (p_blk K Wd pN pn rN rc d0) u).2.2.2.2.2 - u.2.2.2.2.2); omega) dX8_readAct_101

set_option maxHeartbeats 4000000 in
set_option maxRecDepth 100000 in
theorem kX8_readAct_16 (l : Launch) (E : q_E) (f : q_H) (n : Nat) (px bk T pn rc : Nat) (u : p_S) (kk : Nat → Option Nat) (wo pN rN : Nat → Int64) (K : Nat → Nat) (Wd : Nat → Int64) (RS : Nat → q_S) (d d0 : Nat) (f2 : f (px + 2) = some (aQ E 5 401 kk)) (f4 : f (px + 4) = some (aJ E 401 wo)) (g1 : f (bk + 1) = some (aJ E 8 pN)) (g3 : f (bk + 3) = some (aJ E 6 rN)) (hp : PAR E f px bk T pn rc u) (hbk : px + 5 ≤ bk) (hn : bk + 5 ≤ n) (hT : T ≤ 400) (hkk : ∀ j, j ≤ T → kk j = some (E.2.2.2 (K j))) (hKT : 39 ≤ K T) (hK41 : ∀ j, K j < 41) (hWd : ∀ j, j ≤ T → wo j = Wd j) (hpn : pn ≤ 8) (hrc : rc ≤ 6) (hok : p_ok K T u) (hsn : n = u.2.2.2.2.2) (hkd : u.2.1 = 16) (hd1 : d = d0 + 1) (hd6 : d ≤ 6) (ihB : RBK l E RS d0) : Met l yX8_readAct wsX8_readAct ({ frames := 10 * d + 40, cells := (p_act K Wd pN pn rN rc (p_blk K Wd pN pn rN rc d0) u).2.2.2.2.2 - u.2.2.2.2.2, slots := 9 * ((p_act K Wd pN pn rN rc (p_blk K Wd pN pn rN rc d0) u).2.2.2.2.2 - u.2.2.2.2.2), locals := 100 * d + 1000 }) (q_P E [.ref px, .int (nI (6 - d))] f n) (q_Qq E (ACTq E f px bk T pn rc K Wd pN rN RS d d0 u)) ((p_act K Wd pN pn rN rc (p_blk K Wd pN pn rN rc d0) u).2.2.2.2.2 - u.2.2.2.2.2) (9 * ((p_act K Wd pN pn rN rc (p_blk K Wd pN pn rN rc d0) u).2.2.2.2.2 - u.2.2.2.2.2)) (q_ge E) := by
  refine Met.ofW (cc := cX8_readAct) (maxL := 3) (ret := (some (.object "HighRecipes$Act"))) (by decide) rfl ?_
  intro p e s m args below meth c s₁ B hml hv
  obtain ⟨rfl, hA, hW⟩ := hv
  have hx := B.exec
  have hb := B.bytes
  have hr := B.returns
  have hts := atoms_spec (ws := wsX8_readAct) B.pre
  have hown : s.vm.findClass RX8 = some m.cls := findClass_of_methodNamed B.named
  have hlocks := B.notSynchronized
  have hS : va_S (q_ge E) s.heap s.heap [] := va_S.rf
  have iX1 : ∀ w ∈ wsX10, w ∈ wsX8_readAct := by decide +kernel
  have iX10 : ∀ w ∈ wsX100, w ∈ wsX8_readAct := by decide +kernel
  have iX8 : ∀ w ∈ wsX80, w ∈ wsX8_readAct := by decide +kernel
  have hl := lv_entry ([.ref px, .int (nI (6 - d))]) (n := 3) (Nat.le_of_ble_eq_true rfl)
  rw [lg_entry_eq]
  generalize (lg_sl ([.ref px, .int (nI (6 - d))]) ++ List.replicate (3 - (lg_sl ([.ref px, .int (nI (6 - d))])).length) Slot.unset).toArray = ls at hl ⊢
  have hl : lv_has ls 3 [(0, .ref px), (1, .int (nI (6 - d)))] := hl
  subst hsn
  rw [hp.eq] at hW
  have hk41 : u.2.1 < 41 := by rcases hok.2.1 with h9 | h9 <;> rw [h9]; decide; exact hK41 _
  have hlt : u.2.1 < 39 := by rw [hkd]; decide
  have okb : p_ok K T (p_beg K u) := p_ok.act (s := p_new u) hok hKT hlt
  have hna : u.2.2.2.2.2 + 1 ≤ (p_act K Wd pN pn rN rc (p_blk K Wd pN pn rN rc d0) u).2.2.2.2.2 := act_n hKT (by rw [hkd]; rfl) hok
  have gob := (go_beg (s := u) hKT hlt hok).2
  have ea : nI (6 - d) + 1 = nI (6 - d0) := by rw [nI_1]; congr 1; omega
  refine q_new (ci := 2) hx hb hts hown hA hW hS iX1 tyX1 tyX1_ok (hts (.classLink RX8 135 RX1) (by decide +kernel)) (hts (.instantiable RX1 9) (by decide +kernel)) (hts (.initialized RX1) (by decide +kernel)) rfl (fs := [.null, .int 0, .int 0, .int 0, .null, .null, .null, .null, .null]) (by decide) (by show 0 + 1 ≤ (p_act K Wd pN pn rN rc (p_blk K Wd pN pn rN rc d0) u).2.2.2.2.2 - u.2.2.2.2.2; omega) (by show 0 + 9 ≤ 9 * ((p_act K Wd pN pn rN rc (p_blk K Wd pN pn rN rc d0) u).2.2.2.2.2 - u.2.2.2.2.2); omega) dX8_readAct_0 (fun H hW hS => ?_)
  have hW : q_W E (va_up (pS E f px bk T pn rc u) u.2.2.2.2.2 (some (rX1 none 0 0 0 none none none none none))) (u.2.2.2.2.2 + 1) H := hW
  rw [pS_iu (by omega) (by omega) (by omega)] at hW
  have hW : q_W E (pS E (va_up f u.2.2.2.2.2 (some (rX1 none 0 0 0 none none none none none))) px bk T pn rc (p_new u)) (u.2.2.2.2.2 + 1) H := hW
  refine lv_dup hx hb dX8_readAct_3 rfl ?_
  refine lv_aload_n hx hb dX8_readAct_4 rfl (lv_at hl 0 rfl) ?_
  refine q_get hx hb hts hown hA hW iX8 pS_p rfl 0 (by decide) (hts (.fieldLink RX8 10 "HighRecipes$Parser" "tokens" "LHighRecipes$Tokens;") (by decide +kernel)) (fun _ h9 => h9) (v := .ref (px + 1)) rfl dX8_readAct_5 ?_
  refine q_getN hx hb hts hown hA hW iX10 pS_t rfl 5 (by decide) (va_Nw.use rfl (hA.2.2.2.1 ("HighRecipes$Parser", 31, "HighRecipes$Tokens", "kind", "LHighRecipes$Kind;", "HighRecipes") (by decide +kernel))) (fun _ h9 => h9) (v := .ref (E.2.2.2 ((p_new u)).2.1)) rfl dX8_readAct_8 ?_
  refine q_cv (va_runI (As := [.ref (E.2.2.2 u.2.1)]) (rest := [.ref u.2.2.2.2.2]) ⟨hx, hb, hml, hown, hts⟩ (kX1_init l E (pS E (va_up f u.2.2.2.2.2 (some (rX1 none 0 0 0 none none none none none))) px bk T pn rc (p_new u)) (u.2.2.2.2.2 + 1) u.2.2.2.2.2 u.2.1 ((pS_out (by omega) (by omega) (by omega)).trans q_eq)) (cwI 1 hts gX8_readAct_X1_init rfl rfl rfl (hts (.initialized RX1) (by decide +kernel)) (hts (.methodLink RX8 146 yX1_init) (by decide +kernel)) (hts (.instanceMethod yX1_init) (by decide +kernel)) rfl (by decide +kernel) ⟨(by show 1 + 1 ≤ 10 * d + 40; omega), (by show 8 + (2 + 11) + 20 ≤ 100 * d + 1000; omega)⟩) (q_pS hA hW hS) rfl rfl hl.1 rfl (lv_room (Nat.le_of_ble_eq_true rfl)) dX8_readAct_11 ⟨(by show 1 + 0 ≤ (p_act K Wd pN pn rN rc (p_blk K Wd pN pn rN rc d0) u).2.2.2.2.2 - u.2.2.2.2.2; omega), (by show 9 + 0 ≤ 9 * ((p_act K Wd pN pn rN rc (p_blk K Wd pN pn rN rc d0) u).2.2.2.2.2 - u.2.2.2.2.2); omega)⟩) hS (fun f_11 n_11 H locs hp hW hS => ?_)
  obtain ⟨rfl, rfl⟩ := hp
  have hW : q_W E (va_up (pS E (va_up f u.2.2.2.2.2 (some (rX1 none 0 0 0 none none none none none))) px bk T pn rc (p_new u)) u.2.2.2.2.2 (some (rX1 (some (E.2.2.2 u.2.1)) (-1) (-1) 0 none none none none none))) (u.2.2.2.2.2 + 1) H := hW
  rw [pS_iu (by omega) (by omega) (by omega)] at hW
  rw [q_upup] at hW
  have hW : q_W E (pS E (va_up f u.2.2.2.2.2 (some (rX1 (some (E.2.2.2 u.2.1)) (-1) (-1) 0 none none none none none))) px bk T pn rc (p_new u)) (u.2.2.2.2.2 + 1) H := hW
  refine lv_astore_n (lv' := [(2, .ref u.2.2.2.2.2), (0, .ref px), (1, .int (nI (6 - d)))]) hx hb dX8_readAct_14 rfl hl (by decide) rfl (fun ls hl => ?_)
  refine lv_aload_n hx hb dX8_readAct_15 rfl (lv_at hl 1 rfl) ?_
  refine q_cv (va_runV (As := []) (rest := []) ⟨hx, hb, hml, hown, hts⟩ (kX8_countAct l E (pS E (va_up f u.2.2.2.2.2 (some (rX1 (some (E.2.2.2 u.2.1)) (-1) (-1) 0 none none none none none))) px bk T pn rc (p_new u)) (u.2.2.2.2.2 + 1) px bk T pn rc (p_new u) kk wo pN rN K Wd ((pS_out (by omega) (by omega) (by omega)).trans (q_ne (by omega) f2)) ((pS_out (by omega) (by omega) (by omega)).trans (q_ne (by omega) f4)) ((pS_out (by omega) (by omega) (by omega)).trans (q_ne (by omega) g1)) ((pS_out (by omega) (by omega) (by omega)).trans (q_ne (by omega) g3)) (pS_K hbk) (by assumption) (by omega) (by assumption) (by assumption) (by assumption) (by assumption) (by assumption) (by assumption) (by assumption) hok.new) (cwV 0 hts gX8_readAct_X8_countAct rfl rfl rfl (by decide +kernel) ⟨(by show 1 + 1 ≤ 10 * d + 40; omega), (by show 8 + (1 + 11) + 21 ≤ 100 * d + 1000; omega)⟩) (q_pV hA hW hS (ci := 8) rfl pS_p) rfl rfl hl.1 rfl (lv_room (Nat.le_of_ble_eq_true rfl)) dX8_readAct_16 ⟨(by show 1 + 0 ≤ (p_act K Wd pN pn rN rc (p_blk K Wd pN pn rN rc d0) u).2.2.2.2.2 - u.2.2.2.2.2; omega), (by show 9 + 0 ≤ 9 * ((p_act K Wd pN pn rN rc (p_blk K Wd pN pn rN rc d0) u).2.2.2.2.2 - u.2.2.2.2.2); omega)⟩) hS (fun f_16 n_16 H locs hp hW hS => ?_)
  obtain ⟨rfl, rfl⟩ := hp
  rw [pS_pS] at hW
  have hW : q_W E (pS E (va_up f u.2.2.2.2.2 (some (rX1 (some (E.2.2.2 u.2.1)) (-1) (-1) 0 none none none none none))) px bk T pn rc (p_cnt (p_new u))) (u.2.2.2.2.2 + 1) H := hW
  refine lv_aload_n hx hb dX8_readAct_19 rfl (lv_at hl 1 rfl) ?_
  refine q_get hx hb hts hown hA hW iX8 pS_p rfl 0 (by decide) (hts (.fieldLink RX8 10 "HighRecipes$Parser" "tokens" "LHighRecipes$Tokens;") (by decide +kernel)) (fun _ h9 => h9) (v := .ref (px + 1)) rfl dX8_readAct_20 ?_
  refine lv_iconst (v := 1) hx hb dX8_readAct_23 (by decide) ?_
  refine q_cv (va_runV (As := [.int 1]) (rest := []) ⟨hx, hb, hml, hown, hts⟩ (kX10_step l E (pS E (va_up f u.2.2.2.2.2 (some (rX1 (some (E.2.2.2 u.2.1)) (-1) (-1) 0 none none none none none))) px bk T pn rc (p_cnt (p_new u))) (u.2.2.2.2.2 + 1) (px + 1) T (p_cnt (p_new u)) kk K true pS_t ((pS_out (by omega) (by omega) (by omega)).trans (q_ne (by omega) f2)) (by assumption) (by assumption) (hok.step hKT (r := true) (fun _ => hlt)).2) (cwV 1 hts gX8_readAct_X10_step rfl rfl rfl (by decide +kernel) ⟨(by show 0 + 1 ≤ 10 * d + 40; omega), (by show 8 + (3 + 11) + 0 ≤ 100 * d + 1000; omega)⟩) (q_pV hA hW hS (ci := 10) rfl pS_t) rfl rfl hl.1 rfl (lv_room (Nat.le_of_ble_eq_true rfl)) dX8_readAct_24 ⟨(by show 1 + 0 ≤ (p_act K Wd pN pn rN rc (p_blk K Wd pN pn rN rc d0) u).2.2.2.2.2 - u.2.2.2.2.2; omega), (by show 9 + 0 ≤ 9 * ((p_act K Wd pN pn rN rc (p_blk K Wd pN pn rN rc d0) u).2.2.2.2.2 - u.2.2.2.2.2); omega)⟩) hS (fun f_24 n_24 H locs hp hW hS => ?_)
  obtain ⟨rfl, rfl⟩ := hp
  have hW : q_W E (va_up (pS E (va_up f u.2.2.2.2.2 (some (rX1 (some (E.2.2.2 u.2.1)) (-1) (-1) 0 none none none none none))) px bk T pn rc (p_cnt (p_new u))) (px + 1) (some (cTS E (px + 1) T (p_step K true (p_cnt (p_new u)))))) (u.2.2.2.2.2 + 1) H := hW
  have hW : q_W E (pS E (va_up f u.2.2.2.2.2 (some (rX1 (some (E.2.2.2 u.2.1)) (-1) (-1) 0 none none none none none))) px bk T pn rc (p_step K true (p_cnt (p_new u)))) (u.2.2.2.2.2 + 1) H := by rw [← pS_st (s := p_cnt (p_new u)) (s' := p_step K true (p_cnt (p_new u))) rfl rfl]; exact hW
  have hW : q_W E (pS E (va_up f u.2.2.2.2.2 (some (rX1 (some (E.2.2.2 u.2.1)) (-1) (-1) 0 none none none none none))) px bk T pn rc (p_step K true (p_cnt (p_new u)))) (u.2.2.2.2.2 + 1) H := hW
  refine va_gets hx hb hA.2.2.1.2.2.2.1.1 hS hown (hts (.fieldLink RX8 151 "HighRecipes$1" "$SwitchMap$HighRecipes$Kind" "[I") (by decide +kernel)) (fun _ h9 => h9) dX8_readAct_27 ?_
  refine lv_aload_n hx hb dX8_readAct_30 rfl (lv_at hl 0 rfl) ?_
  refine q_getN hx hb hts hown hA hW iX1 ((pS_out (by omega) (by omega) (by omega)).trans q_eq) rfl 0 (by decide) (va_Nw.use rfl (hA.2.2.2.1 ("HighRecipes$Parser", 157, "HighRecipes$Act", "kind", "LHighRecipes$Kind;", "HighRecipes") (by decide +kernel))) (fun _ h9 => h9) (v := .ref (E.2.2.2 u.2.1)) rfl dX8_readAct_31 ?_
  refine q_ci (va_runU (As := []) (rest := [.ref (E.2.2.2 101)]) ⟨hx, hb, hml, hown, hts⟩ (q_ordinal l E (pS E (va_up f u.2.2.2.2.2 (some (rX1 (some (E.2.2.2 u.2.1)) (-1) (-1) 0 none none none none none))) px bk T pn rc (p_beg K u)) (u.2.2.2.2.2 + 1) u.2.1 (by rw [hkd]; decide)) (va_cwU 0 hts gX8_readAct_Jx29ce0_ordinal_8abf5_u158X5 rfl rfl rfl rfl (by decide +kernel) ⟨(by show 0 + 1 ≤ 10 * d + 40; omega), (by show 8 + (1 + 11) + 0 ≤ 100 * d + 1000; omega)⟩) ⟨q_P.blind, va_recvE hA.2.2.1.1 (by rw [hkd]; decide) hS, fun U hU hWm => ⟨rfl, hA.go hS hU hWm, by rw [hU]; exact hW⟩⟩ rfl rfl hl.1 rfl (lv_room (Nat.le_of_ble_eq_true rfl)) dX8_readAct_34 ⟨(by show 1 + 0 ≤ (p_act K Wd pN pn rN rc (p_blk K Wd pN pn rN rc d0) u).2.2.2.2.2 - u.2.2.2.2.2; omega), (by show 9 + 0 ≤ 9 * ((p_act K Wd pN pn rN rc (p_blk K Wd pN pn rN rc d0) u).2.2.2.2.2 - u.2.2.2.2.2); omega)⟩) hS (fun r_34 f_34 n_34 H locs hp hW hS => ?_)
  obtain ⟨rfl, rfl, rfl⟩ := hp
  rw [hkd]
  refine va_ti hx hb hA.2.2.1.2.2.2.1.2 hS (vp_in_nI (by decide) (by decide)) (v := .int 2) (by rw [nI_clamp (by decide)]; rfl) dX8_readAct_37 ?_
  refine lv_tableIn (x := 2) (off := 64) (tgt := 102) hx hb dX8_readAct_38 (by decide) (by decide) (by decide) (by decide) ?_
  obtain ⟨w1, hu_w1⟩ : ∃ z, p_cmps K Wd pN pn 400 (p_beg K u) = z := ⟨_, rfl⟩
  have b_w1 := go_cmps (Wd := Wd) (pN := pN) (pn := pn) hKT 400 _ okb
  rw [hu_w1] at b_w1
  have ok_w1 := b_w1.1
  obtain ⟨w2, hu_w2⟩ : ∃ z, p_blk K Wd pN pn rN rc d0 (w1) = z := ⟨_, rfl⟩
  have b_w2 := go_blk (Wd := Wd) (pN := pN) (pn := pn) (rN := rN) (rc := rc) hKT d0 _ ok_w1
  rw [hu_w2] at b_w2
  have ok_w2 := b_w2.1
  have wn1 : u.2.2.2.2.2 + 1 ≤ w1.2.2.2.2.2 := b_w1.2.2.1
  have wn2 : w1.2.2.2.2.2 ≤ w2.2.2.2.2.2 := b_w2.2.2.1
  have hk2 : w2.2.1 < 41 := by rcases ok_w2.2.1 with h9 | h9 <;> rw [h9]; decide; exact hK41 _
  have eU1 : p_act K Wd pN pn rN rc (p_blk K Wd pN pn rN rc d0) u = p_else K (p_blk K Wd pN pn rN rc d0) w2 := by unfold p_act; rw [if_neg (by rw [hkd]; decide), if_pos hkd, hu_w1, hu_w2]
  have eM : w2.2.2.2.2.2 ≤ (p_act K Wd pN pn rN rc (p_blk K Wd pN pn rN rc d0) u).2.2.2.2.2 := by rw [eU1]; exact (go_else hKT (go_blk hKT d0) ok_w2).2.2.1
  refine lv_aload_n hx hb dX8_readAct_102 rfl (lv_at hl 0 rfl) ?_
  refine lv_aload_n hx hb dX8_readAct_103 rfl (lv_at hl 1 rfl) ?_
  refine q_cq (va_runV (As := []) (rest := [.ref u.2.2.2.2.2]) ⟨hx, hb, hml, hown, hts⟩ (cmp_all l E (pS E (va_up f u.2.2.2.2.2 (some (rX1 (some (E.2.2.2 u.2.1)) (-1) (-1) 0 none none none none none))) px bk T pn rc (p_beg K u)) px bk T pn rc (p_beg K u) kk wo pN rN K Wd  ((pS_out (by omega) (by omega) (by omega)).trans (q_ne (by omega) f2)) ((pS_out (by omega) (by omega) (by omega)).trans (q_ne (by omega) f4)) ((pS_out (by omega) (by omega) (by omega)).trans (q_ne (by omega) g1)) ((pS_out (by omega) (by omega) (by omega)).trans (q_ne (by omega) g3)) (pS_K hbk) hbk (by show bk + 5 ≤ u.2.2.2.2.2 + 1; omega) hT hkk hKT hK41 hWd hpn hrc okb) (cwV 0 hts gX8_readAct_X8_readCompares rfl rfl rfl (by decide +kernel) ⟨(by show 34 + 1 ≤ 10 * d + 40; omega), (by show 8 + (6 + 11) + 950 ≤ 100 * d + 1000; omega)⟩) (q_pV hA hW hS (ci := 8) rfl pS_p) rfl rfl hl.1 rfl (lv_room (Nat.le_of_ble_eq_true rfl)) dX8_readAct_104 ⟨(by rw [hu_w1]; show 1 + (w1.2.2.2.2.2 - (u.2.2.2.2.2 + 1)) ≤ (p_act K Wd pN pn rN rc (p_blk K Wd pN pn rN rc d0) u).2.2.2.2.2 - u.2.2.2.2.2; omega), (by rw [hu_w1]; show 9 + (9 * (w1.2.2.2.2.2 - (u.2.2.2.2.2 + 1))) ≤ 9 * ((p_act K Wd pN pn rN rc (p_blk K Wd pN pn rN rc d0) u).2.2.2.2.2 - u.2.2.2.2.2); omega)⟩) hS (fun r_104 f_104 n_104 H locs hp hW hS => ?_)
  obtain ⟨g_104, rfl, rfl, fr_104, rep_104⟩ := hp
  rw [hu_w1] at hW rep_104
  rw [hu_w1]
  have fr_104 : ∀ q, q < u.2.2.2.2.2 + 1 → q ≠ px → q ≠ px + 1 → q ≠ bk → g_104 q = (pS E (va_up f u.2.2.2.2.2 (some (rX1 (some (E.2.2.2 u.2.1)) (-1) (-1) 0 none none none none none))) px bk T pn rc (p_beg K u)) q := fr_104
  have fi_104 : ∀ q, q < u.2.2.2.2.2 → q ≠ px → q ≠ px + 1 → q ≠ bk → g_104 q = f q := fun q hq h7 h8 h9 => (fr_104 q (by omega) h7 h8 h9).trans ((pS_out h7 h8 h9).trans (((va_up_ne _ _ (by omega)).trans rfl)))
  have hW : q_W E (pS E g_104 px bk T pn rc w1) (w1.2.2.2.2.2) H := hW
  refine q_putN hx hb hts hown hA hW hS iX1 tyX1 tyX1_ok nmX1 ((pS_out (by omega) (by omega) (by omega)).trans ((fr_104 _ (by omega) (by omega) (by omega) (by omega)).trans ((pS_out (by omega) (by omega) (by omega)).trans q_eq))) rfl 5 (by decide) (va_Nw.use rfl (hA.2.2.2.1 ("HighRecipes$Parser", 177, "HighRecipes$Act", "lastCompare", "LHighRecipes$Value;", "HighRecipes") (by decide +kernel))) (fun _ h9 => h9) rfl (by cases r_104 <;> rfl) (by cases r_104 <;> rfl) (Nat.le_of_ble_eq_true rfl) dX8_readAct_107 (fun H locs hW hS => ?_)
  have hW : q_W E (va_up (pS E g_104 px bk T pn rc w1) u.2.2.2.2.2 (some (rX1 (some (E.2.2.2 u.2.1)) (-1) (-1) 0 none r_104 none none none))) w1.2.2.2.2.2 H := hW
  rw [pS_iu (by omega) (by omega) (by omega)] at hW
  refine lv_aload_n hx hb dX8_readAct_110 rfl (lv_at hl 0 rfl) ?_
  refine lv_aload_n hx hb dX8_readAct_111 rfl (lv_at hl 1 rfl) ?_
  refine lv_iload_n hx hb dX8_readAct_112 rfl (lv_at hl 2 rfl) ?_
  refine lv_iconst (v := 1) hx hb dX8_readAct_113 (by decide) ?_
  refine lv_iadd hx hb dX8_readAct_114 ?_
  rw [ea]
  refine q_cq (va_runV (As := [.int (nI (6 - d0))]) (rest := [.ref u.2.2.2.2.2]) ⟨hx, hb, hml, hown, hts⟩ (ihB (pS E (va_up g_104 u.2.2.2.2.2 (some (rX1 (some (E.2.2.2 u.2.1)) (-1) (-1) 0 none r_104 none none none))) px bk T pn rc w1) px bk T pn rc w1 kk wo pN rN K Wd  ((pS_out (by omega) (by omega) (by omega)).trans (q_ne (by omega) ((fr_104 _ (by omega) (by omega) (by omega) (by omega)).trans ((pS_out (by omega) (by omega) (by omega)).trans (q_ne (by omega) f2))))) ((pS_out (by omega) (by omega) (by omega)).trans (q_ne (by omega) ((fr_104 _ (by omega) (by omega) (by omega) (by omega)).trans ((pS_out (by omega) (by omega) (by omega)).trans (q_ne (by omega) f4))))) ((pS_out (by omega) (by omega) (by omega)).trans (q_ne (by omega) ((fr_104 _ (by omega) (by omega) (by omega) (by omega)).trans ((pS_out (by omega) (by omega) (by omega)).trans (q_ne (by omega) g1))))) ((pS_out (by omega) (by omega) (by omega)).trans (q_ne (by omega) ((fr_104 _ (by omega) (by omega) (by omega) (by omega)).trans ((pS_out (by omega) (by omega) (by omega)).trans (q_ne (by omega) g3))))) (pS_K hbk) hbk (by show bk + 5 ≤ w1.2.2.2.2.2; omega) hT hkk hKT hK41 hWd hpn hrc ok_w1) (cwV 1 hts gX8_readAct_X8_readBlock rfl rfl rfl (by decide +kernel) ⟨(by show (10 * d0 + 45) + 1 ≤ 10 * d + 40; omega), (by show 8 + (6 + 11) + (100 * d0 + 1050) ≤ 100 * d + 1000; omega)⟩) (q_pV hA hW hS (ci := 8) rfl pS_p) rfl rfl hl.1 rfl (lv_room (Nat.le_of_ble_eq_true rfl)) dX8_readAct_115 ⟨(by rw [hu_w2]; show 1 + (w1.2.2.2.2.2 - (u.2.2.2.2.2 + 1)) + (w2.2.2.2.2.2 - (w1.2.2.2.2.2)) ≤ (p_act K Wd pN pn rN rc (p_blk K Wd pN pn rN rc d0) u).2.2.2.2.2 - u.2.2.2.2.2; omega), (by rw [hu_w2]; show 9 + (9 * (w1.2.2.2.2.2 - (u.2.2.2.2.2 + 1))) + (9 * (w2.2.2.2.2.2 - (w1.2.2.2.2.2))) ≤ 9 * ((p_act K Wd pN pn rN rc (p_blk K Wd pN pn rN rc d0) u).2.2.2.2.2 - u.2.2.2.2.2); omega)⟩) hS (fun r_115 f_115 n_115 H locs hp hW hS => ?_)
  obtain ⟨g_115, rfl, rfl, fr_115, obj_115, rep_115⟩ := hp
  rw [hu_w2] at hW rep_115
  rw [hu_w2]
  have fr_115 : ∀ q, q < w1.2.2.2.2.2 → q ≠ px → q ≠ px + 1 → q ≠ bk → g_115 q = (pS E (va_up g_104 u.2.2.2.2.2 (some (rX1 (some (E.2.2.2 u.2.1)) (-1) (-1) 0 none r_104 none none none))) px bk T pn rc w1) q := fr_115
  have fi_115 : ∀ q, q < u.2.2.2.2.2 → q ≠ px → q ≠ px + 1 → q ≠ bk → g_115 q = f q := fun q hq h7 h8 h9 => (fr_115 q (by omega) h7 h8 h9).trans ((pS_out h7 h8 h9).trans (((va_up_ne _ _ (by omega)).trans (fi_104 q hq h7 h8 h9))))
  have hW : q_W E (pS E g_115 px bk T pn rc w2) (w2.2.2.2.2.2) H := hW
  refine q_putN hx hb hts hown hA hW hS iX1 tyX1 tyX1_ok nmX1 ((pS_out (by omega) (by omega) (by omega)).trans ((fr_115 _ (by omega) (by omega) (by omega) (by omega)).trans ((pS_out (by omega) (by omega) (by omega)).trans q_eq))) rfl 6 (by decide) (va_Nw.use rfl (hA.2.2.2.1 ("HighRecipes$Parser", 170, "HighRecipes$Act", "block", "LHighRecipes$Act;", "HighRecipes") (by decide +kernel))) (fun _ h9 => h9) rfl (by cases r_115 <;> rfl) (by cases r_115 <;> rfl) (Nat.le_of_ble_eq_true rfl) dX8_readAct_118 (fun H locs hW hS => ?_)
  have hW : q_W E (va_up (pS E g_115 px bk T pn rc w2) u.2.2.2.2.2 (some (rX1 (some (E.2.2.2 u.2.1)) (-1) (-1) 0 none r_104 r_115 none none))) w2.2.2.2.2.2 H := hW
  rw [pS_iu (by omega) (by omega) (by omega)] at hW
  refine lv_aload_n hx hb dX8_readAct_121 rfl (lv_at hl 1 rfl) ?_
  refine q_get hx hb hts hown hA hW iX8 pS_p rfl 0 (by decide) (hts (.fieldLink RX8 10 "HighRecipes$Parser" "tokens" "LHighRecipes$Tokens;") (by decide +kernel)) (fun _ h9 => h9) (v := .ref (px + 1)) rfl dX8_readAct_122 ?_
  refine q_getN hx hb hts hown hA hW iX10 pS_t rfl 5 (by decide) (va_Nw.use rfl (hA.2.2.2.1 ("HighRecipes$Parser", 31, "HighRecipes$Tokens", "kind", "LHighRecipes$Kind;", "HighRecipes") (by decide +kernel))) (fun _ h9 => h9) (v := .ref (E.2.2.2 (w2).2.1)) rfl dX8_readAct_125 ?_
  refine va_gets (n := "ELSE") (v := .ref (E.2.2.2 18)) hx hb (hA.2.2.1.1.1 18 (by decide)).1 hS hown (hts (.fieldLink RX8 180 "HighRecipes$Kind" "ELSE" "LHighRecipes$Kind;") (by decide +kernel)) (fun _ h9 => h9) dX8_readAct_128 ?_
  refine lv_acmp_ne (rx := (some (E.2.2.2 (w2).2.1))) (ry := (some (E.2.2.2 18))) (tgt := 155) hx hb dX8_readAct_131 (by decide) (fun c_131 => ?_) (fun c_131 => ?_)
  · have e131 : ¬ w2.2.1 = 18 := fun h9 => c_131 (by rw [h9])
    have eU : p_act K Wd pN pn rN rc (p_blk K Wd pN pn rN rc d0) u = w2 := by rw [eU1]; unfold p_else; rw [if_neg e131]
    refine lv_aload_n hx hb dX8_readAct_155 rfl (lv_at hl 0 rfl) ?_
    have eS : p_actS K Wd pN pn rN rc RS (p_blk K Wd pN pn rN rc d0) (p_blkS K Wd pN pn rN rc RS d0) u = k_if (p_cmpsC K Wd pN pn 400 (p_beg K u) (fun _ _ => true)) (p_blkS K Wd pN pn rN rc RS d0 w1) k_nil := by unfold p_actS; rw [if_neg (by rw [hkd]; decide), if_pos hkd, hu_w1, hu_w2, if_neg e131]
    have rep : (w2).2.1 ≠ 40 → (w2).2.2.1 = 0 → ∀ o9 : Option Nat, rA E pn u.2.2.2.2.2 (w2).2.2.2.2.2 (va_up (va_up g_115 u.2.2.2.2.2 (some (rX1 (some (E.2.2.2 u.2.1)) (-1) (-1) 0 none r_104 r_115 none none))) u.2.2.2.2.2 (some (cAct E u.2.1 (-1) (-1) 0 none r_104 r_115 none o9))) RS rc d u.2.2.2.2.2 (k_if (p_cmpsC K Wd pN pn 400 (p_beg K u) (fun _ _ => true)) (p_blkS K Wd pN pn rN rc RS d0 w1) k_nil) := by
      intro k1 k2 o9
      have k1b := k1
      have k2b := k2
      obtain ⟨m2, R2⟩ := rep_115 k1b k2b
      obtain ⟨m1, R1⟩ := rep_104 (b_w2.2.2.2.1 k1b) (b_w2.2.2.2.2 k2b)
      have hd0 : 1 ≤ d0 := blk_0 (by rw [hu_w2]; exact k1b)
      rw [hd1]
      refine ⟨u.2.1, _, _, _, _, _, _, _, o9, Nat.le_refl _, (by omega), q_eq, Or.inr (Or.inr (Or.inr (Or.inr (Or.inr (Or.inr (Or.inr (Or.inr ⟨hkd, hd0, m1, _, m2, _, 0, _, rC_frame ?_ (Nat.le_succ _) (by omega) _ _ _ R1, rL_frame ?_ (by omega) (by omega) (fun a S h => rA_frame ?_ (by omega) (by omega) (Nat.le_refl _) (fun _ _ => rfl) d0 a S h) m2 _ _ R2, ⟨rfl, rfl⟩, rfl⟩)))))))⟩
      · intro q h1 h2
        have h1 : u.2.2.2.2.2 + 1 ≤ q := h1
        exact (((va_up_ne _ _ (by omega)).trans (va_up_ne _ _ (by omega))).trans ((fr_115 q (by omega) (by omega) (by omega) (by omega)).trans ((pS_out (by omega) (by omega) (by omega)).trans (va_up_ne _ _ (by omega)))))
      · exact fun q h1 h2 => ((va_up_ne _ _ (by omega)).trans (va_up_ne _ _ (by omega)))
      · exact fun q h1 h2 => ((va_up_ne _ _ (by omega)).trans (va_up_ne _ _ (by omega)))
    exact q_aret (v := some u.2.2.2.2.2) hx hb hr (Or.inl ⟨_, rfl⟩) hlocks hW hS ⟨_, _, _, _, _, _, _, _, rfl, congrArg (fun z => pS E _ px bk T pn rc z) eU, (by rw [eU]; try rfl), fun q hq h7 h8 h9 => ((va_up_ne _ _ (by omega)).trans (fi_115 q hq h7 h8 h9)), q_eq, fun k1 k2 => by rw [eS]; rw [eU] at k1 k2 ⊢; exact rep k1 k2⟩ (by show 1 + (w1.2.2.2.2.2 - (u.2.2.2.2.2 + 1)) + (w2.2.2.2.2.2 - (w1.2.2.2.2.2)) ≤ (p_act K Wd pN pn rN rc (p_blk K Wd pN pn rN rc d0) u).2.2.2.2.2 - u.2.2.2.2.2; omega) (by show 9 + (9 * (w1.2.2.2.2.2 - (u.2.2.2.2.2 + 1))) + (9 * (w2.2.2.2.2.2 - (w1.2.2.2.2.2))) ≤ 9 * ((p_act K Wd pN pn rN rc (p_blk K Wd pN pn rN rc d0) u).2.2.2.2.2 - u.2.2.2.2.2); omega) dX8_readAct_156
  · have e131 : w2.2.1 = 18 := q_kinj hA hk2 (by decide) c_131
    have ok_e : p_ok K T (p_take K 18 w2) := ok_w2.take hKT (by decide)
    obtain ⟨w3, hu_w3⟩ : ∃ z, p_blk K Wd pN pn rN rc d0 (p_take K 18 w2) = z := ⟨_, rfl⟩
    have b_w3 := go_blk (Wd := Wd) (pN := pN) (pn := pn) (rN := rN) (rc := rc) hKT d0 _ ok_e
    rw [hu_w3] at b_w3
    have ok_w3 := b_w3.1
    have wn3 : w2.2.2.2.2.2 ≤ w3.2.2.2.2.2 := b_w3.2.2.1
    have eU : p_act K Wd pN pn rN rc (p_blk K Wd pN pn rN rc d0) u = w3 := by rw [eU1]; unfold p_else; rw [if_pos e131, hu_w3]
    have eN : (p_act K Wd pN pn rN rc (p_blk K Wd pN pn rN rc d0) u).2.2.2.2.2 = w3.2.2.2.2.2 := by rw [eU]
    refine lv_aload_n hx hb dX8_readAct_134 rfl (lv_at hl 1 rfl) ?_
    refine q_get hx hb hts hown hA hW iX8 pS_p rfl 0 (by decide) (hts (.fieldLink RX8 10 "HighRecipes$Parser" "tokens" "LHighRecipes$Tokens;") (by decide +kernel)) (fun _ h9 => h9) (v := .ref (px + 1)) rfl dX8_readAct_135 ?_
    refine va_gets (n := "ELSE") (v := .ref (E.2.2.2 18)) hx hb (hA.2.2.1.1.1 18 (by decide)).1 hS hown (hts (.fieldLink RX8 180 "HighRecipes$Kind" "ELSE" "LHighRecipes$Kind;") (by decide +kernel)) (fun _ h9 => h9) dX8_readAct_138 ?_
    refine q_cv (va_runV (As := [.ref (E.2.2.2 18)]) (rest := []) ⟨hx, hb, hml, hown, hts⟩ (kX10_take l E (pS E (va_up g_115 u.2.2.2.2.2 (some (rX1 (some (E.2.2.2 u.2.1)) (-1) (-1) 0 none r_104 r_115 none none))) px bk T pn rc w2) w2.2.2.2.2.2 (px + 1) T w2 kk K 18 pS_t ((pS_out (by omega) (by omega) (by omega)).trans (q_ne (by omega) ((fr_115 _ (by omega) (by omega) (by omega) (by omega)).trans ((pS_out (by omega) (by omega) (by omega)).trans (q_ne (by omega) ((fr_104 _ (by omega) (by omega) (by omega) (by omega)).trans ((pS_out (by omega) (by omega) (by omega)).trans (q_ne (by omega) f2)))))))) (by assumption) (by assumption) (by assumption) (by assumption) ok_w2 (by first | assumption | decide)) (cwV 1 hts gX8_readAct_X10_take rfl rfl rfl (by decide +kernel) ⟨(by show 1 + 1 ≤ 10 * d + 40; omega), (by show 8 + (2 + 11) + 22 ≤ 100 * d + 1000; omega)⟩) (q_pV hA hW hS (ci := 10) rfl pS_t) rfl rfl hl.1 rfl (lv_room (Nat.le_of_ble_eq_true rfl)) dX8_readAct_141 ⟨(by show 1 + (w1.2.2.2.2.2 - (u.2.2.2.2.2 + 1)) + (w2.2.2.2.2.2 - (w1.2.2.2.2.2)) + 0 ≤ (p_act K Wd pN pn rN rc (p_blk K Wd pN pn rN rc d0) u).2.2.2.2.2 - u.2.2.2.2.2; omega), (by show 9 + (9 * (w1.2.2.2.2.2 - (u.2.2.2.2.2 + 1))) + (9 * (w2.2.2.2.2.2 - (w1.2.2.2.2.2))) + 0 ≤ 9 * ((p_act K Wd pN pn rN rc (p_blk K Wd pN pn rN rc d0) u).2.2.2.2.2 - u.2.2.2.2.2); omega)⟩) hS (fun f_141 n_141 H locs hp hW hS => ?_)
    obtain ⟨rfl, rfl⟩ := hp
    have hW : q_W E (va_up (pS E (va_up g_115 u.2.2.2.2.2 (some (rX1 (some (E.2.2.2 u.2.1)) (-1) (-1) 0 none r_104 r_115 none none))) px bk T pn rc w2) (px + 1) (some (cTS E (px + 1) T (p_take K 18 w2)))) w2.2.2.2.2.2 H := hW
    have hW : q_W E (pS E (va_up g_115 u.2.2.2.2.2 (some (rX1 (some (E.2.2.2 u.2.1)) (-1) (-1) 0 none r_104 r_115 none none))) px bk T pn rc (p_take K 18 w2)) w2.2.2.2.2.2 H := by rw [← pS_st (s := w2) (s' := p_take K 18 w2) rfl rfl]; exact hW
    have hok_141 : p_ok K T (p_take K 18 w2) := ok_w2.take hKT (by first | assumption | decide)
    have hW : q_W E (pS E (va_up g_115 u.2.2.2.2.2 (some (rX1 (some (E.2.2.2 u.2.1)) (-1) (-1) 0 none r_104 r_115 none none))) px bk T pn rc (p_take K 18 w2)) w2.2.2.2.2.2 H := hW
    refine lv_aload_n hx hb dX8_readAct_144 rfl (lv_at hl 0 rfl) ?_
    refine lv_aload_n hx hb dX8_readAct_145 rfl (lv_at hl 1 rfl) ?_
    refine lv_iload_n hx hb dX8_readAct_146 rfl (lv_at hl 2 rfl) ?_
    refine lv_iconst (v := 1) hx hb dX8_readAct_147 (by decide) ?_
    refine lv_iadd hx hb dX8_readAct_148 ?_
    rw [ea]
    refine q_cq (va_runV (As := [.int (nI (6 - d0))]) (rest := [.ref u.2.2.2.2.2]) ⟨hx, hb, hml, hown, hts⟩ (ihB (pS E (va_up g_115 u.2.2.2.2.2 (some (rX1 (some (E.2.2.2 u.2.1)) (-1) (-1) 0 none r_104 r_115 none none))) px bk T pn rc (p_take K 18 w2)) px bk T pn rc (p_take K 18 w2) kk wo pN rN K Wd  ((pS_out (by omega) (by omega) (by omega)).trans (q_ne (by omega) ((fr_115 _ (by omega) (by omega) (by omega) (by omega)).trans ((pS_out (by omega) (by omega) (by omega)).trans (q_ne (by omega) ((fr_104 _ (by omega) (by omega) (by omega) (by omega)).trans ((pS_out (by omega) (by omega) (by omega)).trans (q_ne (by omega) f2)))))))) ((pS_out (by omega) (by omega) (by omega)).trans (q_ne (by omega) ((fr_115 _ (by omega) (by omega) (by omega) (by omega)).trans ((pS_out (by omega) (by omega) (by omega)).trans (q_ne (by omega) ((fr_104 _ (by omega) (by omega) (by omega) (by omega)).trans ((pS_out (by omega) (by omega) (by omega)).trans (q_ne (by omega) f4)))))))) ((pS_out (by omega) (by omega) (by omega)).trans (q_ne (by omega) ((fr_115 _ (by omega) (by omega) (by omega) (by omega)).trans ((pS_out (by omega) (by omega) (by omega)).trans (q_ne (by omega) ((fr_104 _ (by omega) (by omega) (by omega) (by omega)).trans ((pS_out (by omega) (by omega) (by omega)).trans (q_ne (by omega) g1)))))))) ((pS_out (by omega) (by omega) (by omega)).trans (q_ne (by omega) ((fr_115 _ (by omega) (by omega) (by omega) (by omega)).trans ((pS_out (by omega) (by omega) (by omega)).trans (q_ne (by omega) ((fr_104 _ (by omega) (by omega) (by omega) (by omega)).trans ((pS_out (by omega) (by omega) (by omega)).trans (q_ne (by omega) g3)))))))) (pS_K hbk) hbk (by show bk + 5 ≤ w2.2.2.2.2.2; omega) hT hkk hKT hK41 hWd hpn hrc hok_141) (cwV 1 hts gX8_readAct_X8_readBlock rfl rfl rfl (by decide +kernel) ⟨(by show (10 * d0 + 45) + 1 ≤ 10 * d + 40; omega), (by show 8 + (6 + 11) + (100 * d0 + 1050) ≤ 100 * d + 1000; omega)⟩) (q_pV hA hW hS (ci := 8) rfl pS_p) rfl rfl hl.1 rfl (lv_room (Nat.le_of_ble_eq_true rfl)) dX8_readAct_149 ⟨(by rw [hu_w3]; show 1 + (w1.2.2.2.2.2 - (u.2.2.2.2.2 + 1)) + (w2.2.2.2.2.2 - (w1.2.2.2.2.2)) + (w3.2.2.2.2.2 - (w2.2.2.2.2.2)) ≤ (p_act K Wd pN pn rN rc (p_blk K Wd pN pn rN rc d0) u).2.2.2.2.2 - u.2.2.2.2.2; omega), (by rw [hu_w3]; show 9 + (9 * (w1.2.2.2.2.2 - (u.2.2.2.2.2 + 1))) + (9 * (w2.2.2.2.2.2 - (w1.2.2.2.2.2))) + (9 * (w3.2.2.2.2.2 - (w2.2.2.2.2.2))) ≤ 9 * ((p_act K Wd pN pn rN rc (p_blk K Wd pN pn rN rc d0) u).2.2.2.2.2 - u.2.2.2.2.2); omega)⟩) hS (fun r_149 f_149 n_149 H locs hp hW hS => ?_)
    obtain ⟨g_149, rfl, rfl, fr_149, obj_149, rep_149⟩ := hp
    rw [hu_w3] at hW rep_149
    rw [hu_w3]
    have fr_149 : ∀ q, q < w2.2.2.2.2.2 → q ≠ px → q ≠ px + 1 → q ≠ bk → g_149 q = (pS E (va_up g_115 u.2.2.2.2.2 (some (rX1 (some (E.2.2.2 u.2.1)) (-1) (-1) 0 none r_104 r_115 none none))) px bk T pn rc (p_take K 18 w2)) q := fr_149
    have fi_149 : ∀ q, q < u.2.2.2.2.2 → q ≠ px → q ≠ px + 1 → q ≠ bk → g_149 q = f q := fun q hq h7 h8 h9 => (fr_149 q (by omega) h7 h8 h9).trans ((pS_out h7 h8 h9).trans (((va_up_ne _ _ (by omega)).trans (fi_115 q hq h7 h8 h9))))
    have hW : q_W E (pS E g_149 px bk T pn rc w3) (w3.2.2.2.2.2) H := hW
    refine q_putN hx hb hts hown hA hW hS iX1 tyX1 tyX1_ok nmX1 ((pS_out (by omega) (by omega) (by omega)).trans ((fr_149 _ (by omega) (by omega) (by omega) (by omega)).trans ((pS_out (by omega) (by omega) (by omega)).trans q_eq))) rfl 7 (by decide) (va_Nw.use rfl (hA.2.2.2.1 ("HighRecipes$Parser", 183, "HighRecipes$Act", "otherwise", "LHighRecipes$Act;", "HighRecipes") (by decide +kernel))) (fun _ h9 => h9) rfl (by cases r_149 <;> rfl) (by cases r_149 <;> rfl) (Nat.le_of_ble_eq_true rfl) dX8_readAct_152 (fun H locs hW hS => ?_)
    have hW : q_W E (va_up (pS E g_149 px bk T pn rc w3) u.2.2.2.2.2 (some (rX1 (some (E.2.2.2 u.2.1)) (-1) (-1) 0 none r_104 r_115 r_149 none))) w3.2.2.2.2.2 H := hW
    rw [pS_iu (by omega) (by omega) (by omega)] at hW
    refine lv_aload_n hx hb dX8_readAct_155 rfl (lv_at hl 0 rfl) ?_
    have eS : p_actS K Wd pN pn rN rc RS (p_blk K Wd pN pn rN rc d0) (p_blkS K Wd pN pn rN rc RS d0) u = k_if (p_cmpsC K Wd pN pn 400 (p_beg K u) (fun _ _ => true)) (p_blkS K Wd pN pn rN rc RS d0 w1) (p_blkS K Wd pN pn rN rc RS d0 (p_take K 18 w2)) := by unfold p_actS; rw [if_neg (by rw [hkd]; decide), if_pos hkd, hu_w1, hu_w2, if_pos e131]
    have rep : (w3).2.1 ≠ 40 → (w3).2.2.1 = 0 → ∀ o9 : Option Nat, rA E pn u.2.2.2.2.2 (w3).2.2.2.2.2 (va_up (va_up g_149 u.2.2.2.2.2 (some (rX1 (some (E.2.2.2 u.2.1)) (-1) (-1) 0 none r_104 r_115 r_149 none))) u.2.2.2.2.2 (some (cAct E u.2.1 (-1) (-1) 0 none r_104 r_115 r_149 o9))) RS rc d u.2.2.2.2.2 (k_if (p_cmpsC K Wd pN pn 400 (p_beg K u) (fun _ _ => true)) (p_blkS K Wd pN pn rN rc RS d0 w1) (p_blkS K Wd pN pn rN rc RS d0 (p_take K 18 w2))) := by
      intro k1 k2 o9
      have Le := (go_take (s := w2) (w := 18) hKT (by decide) ok_w2).2
      have k1b := Le.2.2.1 (b_w3.2.2.2.1 k1)
      have k2b := Le.2.2.2 (b_w3.2.2.2.2 k2)
      obtain ⟨m3, R3⟩ := rep_149 k1 k2
      obtain ⟨m2, R2⟩ := rep_115 k1b k2b
      obtain ⟨m1, R1⟩ := rep_104 (b_w2.2.2.2.1 k1b) (b_w2.2.2.2.2 k2b)
      have hd0 : 1 ≤ d0 := blk_0 (by rw [hu_w2]; exact k1b)
      rw [hd1]
      refine ⟨u.2.1, _, _, _, _, _, _, _, o9, Nat.le_refl _, (by omega), q_eq, Or.inr (Or.inr (Or.inr (Or.inr (Or.inr (Or.inr (Or.inr (Or.inr ⟨hkd, hd0, m1, _, m2, _, m3, _, rC_frame ?_ (Nat.le_succ _) (by omega) _ _ _ R1, rL_frame ?_ (by omega) (by omega) (fun a S h => rA_frame ?_ (by omega) (by omega) (Nat.le_refl _) (fun _ _ => rfl) d0 a S h) m2 _ _ R2, rL_frame ?_ (by show u.2.2.2.2.2 ≤ w2.2.2.2.2.2; omega) (Nat.le_refl _) (fun a S h => rA_frame ?_ (by show u.2.2.2.2.2 ≤ w2.2.2.2.2.2; omega) (Nat.le_refl _) (Nat.le_refl _) (fun _ _ => rfl) d0 a S h) m3 _ _ R3, rfl⟩)))))))⟩
      · intro q h1 h2
        have h1 : u.2.2.2.2.2 + 1 ≤ q := h1
        exact (((va_up_ne _ _ (by omega)).trans ((va_up_ne _ _ (by omega)).trans ((fr_149 q (by omega) (by omega) (by omega) (by omega)).trans ((pS_out (by omega) (by omega) (by omega)).trans (va_up_ne _ _ (by omega)))))).trans ((fr_115 q (by omega) (by omega) (by omega) (by omega)).trans ((pS_out (by omega) (by omega) (by omega)).trans (va_up_ne _ _ (by omega)))))
      · exact fun q h1 h2 => ((va_up_ne _ _ (by omega)).trans ((va_up_ne _ _ (by omega)).trans ((fr_149 q (by omega) (by omega) (by omega) (by omega)).trans ((pS_out (by omega) (by omega) (by omega)).trans (va_up_ne _ _ (by omega))))))
      · exact fun q h1 h2 => ((va_up_ne _ _ (by omega)).trans ((va_up_ne _ _ (by omega)).trans ((fr_149 q (by omega) (by omega) (by omega) (by omega)).trans ((pS_out (by omega) (by omega) (by omega)).trans (va_up_ne _ _ (by omega))))))
      · intro q h1 h2
        have h1 : w2.2.2.2.2.2 ≤ q := h1
        exact (va_up_ne _ _ (by omega)).trans (va_up_ne _ _ (by omega))
      · intro q h1 h2
        have h1 : w2.2.2.2.2.2 ≤ q := h1
        exact (va_up_ne _ _ (by omega)).trans (va_up_ne _ _ (by omega))
    exact q_aret (v := some u.2.2.2.2.2) hx hb hr (Or.inl ⟨_, rfl⟩) hlocks hW hS ⟨_, _, _, _, _, _, _, _, rfl, congrArg (fun z => pS E _ px bk T pn rc z) eU, (by rw [eU]; try rfl), fun q hq h7 h8 h9 => ((va_up_ne _ _ (by omega)).trans (fi_149 q hq h7 h8 h9)), q_eq, fun k1 k2 => by rw [eS]; rw [eU] at k1 k2 ⊢; exact rep k1 k2⟩ (by show 1 + (w1.2.2.2.2.2 - (u.2.2.2.2.2 + 1)) + (w2.2.2.2.2.2 - (w1.2.2.2.2.2)) + (w3.2.2.2.2.2 - (w2.2.2.2.2.2)) ≤ (p_act K Wd pN pn rN rc (p_blk K Wd pN pn rN rc d0) u).2.2.2.2.2 - u.2.2.2.2.2; omega) (by show 9 + (9 * (w1.2.2.2.2.2 - (u.2.2.2.2.2 + 1))) + (9 * (w2.2.2.2.2.2 - (w1.2.2.2.2.2))) + (9 * (w3.2.2.2.2.2 - (w2.2.2.2.2.2))) ≤ 9 * ((p_act K Wd pN pn rN rc (p_blk K Wd pN pn rN rc d0) u).2.2.2.2.2 - u.2.2.2.2.2); omega) dX8_readAct_156

def RAC (l : Launch) (E : q_E) (RS : Nat → q_S) (d d0 : Nat) : Prop := ∀ (f : q_H) (px bk T pn rc : Nat) (u : p_S) (kk : Nat → Option Nat) (wo pN rN : Nat → Int64) (K : Nat → Nat) (Wd : Nat → Int64), f (px + 2) = some (aQ E 5 401 kk) → f (px + 4) = some (aJ E 401 wo) → f (bk + 1) = some (aJ E 8 pN) → f (bk + 3) = some (aJ E 6 rN) → PAR E f px bk T pn rc u → px + 5 ≤ bk → bk + 5 ≤ u.2.2.2.2.2 → T ≤ 400 → (∀ j, j ≤ T → kk j = some (E.2.2.2 (K j))) → 39 ≤ K T → (∀ j, K j < 41) → (∀ j, j ≤ T → wo j = Wd j) → pn ≤ 8 → rc ≤ 6 → p_ok K T u → b_act u.2.1 = true →
  Met l yX8_readAct wsX8_readAct ({ frames := 10 * d + 40, cells := (p_act K Wd pN pn rN rc (p_blk K Wd pN pn rN rc d0) u).2.2.2.2.2 - u.2.2.2.2.2, slots := 9 * ((p_act K Wd pN pn rN rc (p_blk K Wd pN pn rN rc d0) u).2.2.2.2.2 - u.2.2.2.2.2), locals := 100 * d + 1000 }) (q_P E [.ref px, .int (nI (6 - d))] f u.2.2.2.2.2) (q_Qq E (ACTq E f px bk T pn rc K Wd pN rN RS d d0 u)) ((p_act K Wd pN pn rN rc (p_blk K Wd pN pn rN rc d0) u).2.2.2.2.2 - u.2.2.2.2.2) (9 * ((p_act K Wd pN pn rN rc (p_blk K Wd pN pn rN rc d0) u).2.2.2.2.2 - u.2.2.2.2.2)) (q_ge E)
theorem act_all (l : Launch) (E : q_E) (RS : Nat → q_S) (d d0 : Nat) (hd1 : d = d0 + 1) (hd6 : d ≤ 6) (ihB : RBK l E RS d0) : RAC l E RS d d0 := by
  intro f px bk T pn rc u kk wo pN rN K Wd f2 f4 g1 g3 hp hbk hn hT hkk hKT hK41 hWd hpn hrc hok hb
  have h2 : u.2.1 = 3 ∨ u.2.1 = 7 ∨ u.2.1 = 9 ∨ u.2.1 = 11 ∨ u.2.1 = 12 ∨ u.2.1 = 13 ∨ u.2.1 = 14 ∨ u.2.1 = 15 ∨ u.2.1 = 16 := by simpa [b_act, or_assoc] using hb
  rcases h2 with h | h | h | h | h | h | h | h | h
  · exact kX8_readAct_3 l E f _ px bk T pn rc u kk wo pN rN K Wd RS d d0 f2 f4 g1 g3 hp hbk hn hT hkk hKT hK41 hWd hpn hrc hok rfl h hd1 hd6 ihB
  · exact kX8_readAct_7 l E f _ px bk T pn rc u kk wo pN rN K Wd RS d d0 f2 f4 g1 g3 hp hbk hn hT hkk hKT hK41 hWd hpn hrc hok rfl h hd1 hd6 ihB
  · exact kX8_readAct_9 l E f _ px bk T pn rc u kk wo pN rN K Wd RS d d0 f2 f4 g1 g3 hp hbk hn hT hkk hKT hK41 hWd hpn hrc hok rfl h hd1 hd6 ihB
  · exact kX8_readAct_11 l E f _ px bk T pn rc u kk wo pN rN K Wd RS d d0 f2 f4 g1 g3 hp hbk hn hT hkk hKT hK41 hWd hpn hrc hok rfl h hd1 hd6 ihB
  · exact kX8_readAct_12 l E f _ px bk T pn rc u kk wo pN rN K Wd RS d d0 f2 f4 g1 g3 hp hbk hn hT hkk hKT hK41 hWd hpn hrc hok rfl h hd1 hd6 ihB
  · exact kX8_readAct_13 l E f _ px bk T pn rc u kk wo pN rN K Wd RS d d0 f2 f4 g1 g3 hp hbk hn hT hkk hKT hK41 hWd hpn hrc hok rfl h hd1 hd6 ihB
  · exact kX8_readAct_14 l E f _ px bk T pn rc u kk wo pN rN K Wd RS d d0 f2 f4 g1 g3 hp hbk hn hT hkk hKT hK41 hWd hpn hrc hok rfl h hd1 hd6 ihB
  · exact kX8_readAct_15 l E f _ px bk T pn rc u kk wo pN rN K Wd RS d d0 f2 f4 g1 g3 hp hbk hn hT hkk hKT hK41 hWd hpn hrc hok rfl h hd1 hd6 ihB
  · exact kX8_readAct_16 l E f _ px bk T pn rc u kk wo pN rN K Wd RS d d0 f2 f4 g1 g3 hp hbk hn hT hkk hKT hK41 hWd hpn hrc hok rfl h hd1 hd6 ihB

