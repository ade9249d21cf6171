/-! pans and recipes -/
theorem pS_sn {E : q_E} {f : q_H} {px bk T pn rc pn' rc' : Nat} {s : p_S} (h : px + 5 ≤ bk) : va_up (pS E f px bk T pn rc s) bk (some (cBook bk (nI pn') (nI rc') (nI s.2.2.2.2.1))) = pS E f px bk T pn' rc' s := by
  funext z
  simp only [pS, va_up]
  have hb1 : ¬ bk = px := by omega
  have hb2 : ¬ bk = px + 1 := by omega
  by_cases e : z = bk <;> simp [e, hb1, hb2]
section PB
variable (K : Nat → Nat) (Wd : Nat → Int64)
def p_hold (pn : Nat) (pN : Nat → Int64) (s : p_S) : p_S := p_take K 1 (p_newn K Wd pN pn (fun _ => 0) 0 (decide (8 ≤ pn)) (p_take K 0 s))
def p_panX (pn : Nat) (pN : Nat → Int64) (s : p_S) : Int32 := (Wd (p_hold K Wd pn pN s).1).toInt32
def p_panS (pn : Nat) (pN : Nat → Int64) (s : p_S) : p_S := p_take K 29 (p_take K 38 (p_ci (decide ((p_hold K Wd pn pN s).2.1 = 38) && (decide (p_panX K Wd pn pN s < 1) || decide (200 < p_panX K Wd pn pN s))) 5 (p_hold K Wd pn pN s)))
def b_pans : Nat → p_S → Nat → (Nat → Int64) → (Nat → Int32) → p_S × Nat × (Nat → Int64) × (Nat → Int32)
  | 0, s, pn, pN, hd => (s, pn, pN, hd)
  | m + 1, s, pn, pN, hd => if s.2.1 = 0 then (if pn < 8 then b_pans m (p_panS K Wd pn pN s) (pn + 1) (vp_updL pN pn (Wd (p_take K 0 s).1)) (upd hd pn (p_panX K Wd pn pN s)) else b_pans m (p_panS K Wd pn pN s) pn pN hd) else (s, pn, pN, hd)
def p_recS (pn : Nat) (pN : Nat → Int64) (rc : Nat) (rN : Nat → Int64) (s : p_S) : p_S := p_newn K Wd pN pn rN rc (decide (6 ≤ rc)) (p_take K 2 s)
def b_recs (pn : Nat) (pN : Nat → Int64) : Nat → p_S → Nat → (Nat → Int64) → (Nat → q_S) → p_S × Nat × (Nat → Int64) × (Nat → q_S)
  | 0, s, rc, rN, RS => (s, rc, rN, RS)
  | m + 1, s, rc, rN, RS => if s.2.1 = 2 then (if rc < 6 then b_recs pn pN m (p_blk K Wd pN pn rN rc 6 (p_recS K Wd pn pN rc rN s)) (rc + 1) (vp_updL rN rc (Wd (p_take K 2 s).1)) (fun r => if r = rc then p_blkS K Wd pN pn rN rc RS 6 (p_recS K Wd pn pN rc rN s) else RS r) else b_recs pn pN m (p_blk K Wd pN pn rN rc 6 (p_recS K Wd pn pN rc rN s)) rc rN RS) else (s, rc, rN, RS)
def p_fin (s : p_S) : p_S := if s.2.1 = 39 then s else p_seter s 1 s.1
def b_P (et n : Nat) := b_pans K Wd 400 (0, K 0, 0, et, 0, n) 0 (fun _ => 0) (fun _ => 0)
def b_R (et n : Nat) := b_recs K Wd (b_P K Wd et n).2.1 (b_P K Wd et n).2.2.1 400 (b_P K Wd et n).1 0 (fun _ => 0) (fun _ => k_nil)
end PB
section PG
variable {K : Nat → Nat} {T : Nat} {Wd : Nat → Int64}
theorem go_hold {pn : Nat} {pN : Nat → Int64} {s : p_S} (hKT : 39 ≤ K T) : p_go K T s (p_hold K Wd pn pN s) := ((go_take hKT (by decide)).trans (go_newn hKT)).trans (go_take hKT (by decide))
theorem go_panS {pn : Nat} {pN : Nat → Int64} {s : p_S} (hKT : 39 ≤ K T) : p_go K T s (p_panS K Wd pn pN s) := (((go_hold hKT).trans (go_ci (by decide) (by decide))).trans (go_take hKT (by decide))).trans (go_take hKT (by decide))
theorem go_recS {pn rc : Nat} {pN rN : Nat → Int64} {s : p_S} (hKT : 39 ≤ K T) : p_go K T s (p_recS K Wd pn pN rc rN s) := (go_take hKT (by decide)).trans (go_newn hKT)
theorem go_recs {pn : Nat} {pN : Nat → Int64} (hKT : 39 ≤ K T) : ∀ (m : Nat) (s : p_S) (rc : Nat) (rN : Nat → Int64) (RS : Nat → q_S), p_go K T s (b_recs K Wd pn pN m s rc rN RS).1
  | 0, _, _, _, _ => go_rf
  | m + 1, s, rc, rN, RS => by
    unfold b_recs
    split
    · split
      · exact ((go_recS hKT).trans (go_blk hKT 6 _)).trans (go_recs hKT m _ _ _ _)
      · exact ((go_recS hKT).trans (go_blk hKT 6 _)).trans (go_recs hKT m _ _ _ _)
    · exact go_rf
theorem go_pans (hKT : 39 ≤ K T) : ∀ (m : Nat) (s : p_S) (pn : Nat) (pN : Nat → Int64) (hd : Nat → Int32), p_go K T s (b_pans K Wd m s pn pN hd).1
  | 0, _, _, _, _ => go_rf
  | m + 1, s, pn, pN, hd => by
    unfold b_pans
    split
    · split
      · exact (go_panS hKT).trans (go_pans hKT m _ _ _ _)
      · exact (go_panS hKT).trans (go_pans hKT m _ _ _ _)
    · exact go_rf
end PG

set_option maxHeartbeats 4000000 in
set_option maxRecDepth 100000 in
theorem kX8_readPanT (l : Launch) (E : q_E) (f : q_H) (n : Nat) (px bk T pn rc : Nat) (u : p_S) (kk : Nat → Option Nat) (wo pN rN : Nat → Int64) (K : Nat → Nat) (Wd : Nat → Int64) (hd : Nat → Int32) (f2 : f (px + 2) = some (aQ E 5 401 kk)) (f4 : f (px + 4) = some (aJ E 401 wo)) (g1 : f (bk + 1) = some (aJ E 8 pN)) (g3 : f (bk + 3) = some (aJ E 6 rN)) (g2 : f (bk + 2) = some (aI E 8 hd)) (hp : PAR E f px bk T pn rc u) (hbk : px + 5 ≤ bk) (hn : bk + 5 ≤ n) (hT : T ≤ 400) (hkk : ∀ j, j ≤ T → kk j = some (E.2.2.2 (K j))) (hKT : 39 ≤ K T) (hK41 : ∀ j, K j < 41) (hWd : ∀ j, j ≤ T → wo j = Wd j) (hpn : pn ≤ 8) (hrc : rc ≤ 6) (hok : p_ok K T u) (h0 : rc = 0) (hr0 : rN = fun _ => 0) (hp8 : pn < 8) : Met l yX8_readPan wsX8_readPan ({ frames := 3, cells := 0, slots := 0, locals := 69 }) (q_P E [.ref px] f n) (q_Qv E (fun f1 n1 => pS E (va_up (va_up f (bk + 1) (some (aJ E 8 (vp_updL pN pn (Wd (p_take K 0 u).1))))) (bk + 2) (some (aI E 8 (upd hd pn (p_panX K Wd pn pN u))))) px bk T (pn + 1) rc (p_panS K Wd pn pN u) = f1 ∧ n = n1)) 0 0 (q_ge E) := by
  refine Met.ofW (cc := cX8_readPan) (maxL := 4) (ret := none) (by decide) rfl ?_
  intro p e s m args below meth c s₁ B hml hv
  obtain ⟨rfl, hA, hW⟩ := hv
  have hx := B.exec
  have hb := B.bytes
  have hr := B.returns
  have hts := atoms_spec (ws := wsX8_readPan) B.pre
  have hown : s.vm.findClass RX8 = some m.cls := findClass_of_methodNamed B.named
  have hlocks := B.notSynchronized
  have hS : va_S (q_ge E) s.heap s.heap [] := va_S.rf
  have iX10 : ∀ w ∈ wsX100, w ∈ wsX8_readPan := by decide +kernel
  have iX2 : ∀ w ∈ wsX20, w ∈ wsX8_readPan := by decide +kernel
  have iX8 : ∀ w ∈ wsX80, w ∈ wsX8_readPan := by decide +kernel
  have hl := lv_entry ([.ref px]) (n := 4) (Nat.le_of_ble_eq_true rfl)
  rw [lg_entry_eq]
  generalize (lg_sl ([.ref px]) ++ List.replicate (4 - (lg_sl ([.ref px])).length) Slot.unset).toArray = ls at hl ⊢
  have hl : lv_has ls 4 [(0, .ref px)] := hl
  rw [hp.eq] at hW
  refine lv_aload_n hx hb dX8_readPan_0 rfl (lv_at hl 0 rfl) ?_
  refine q_get hx hb hts hown hA hW iX8 pS_p rfl 0 (by decide) (hts (.fieldLink RX8 10 "HighRecipes$Parser" "tokens" "LHighRecipes$Tokens;") (by decide +kernel)) (fun _ h9 => h9) (v := .ref (px + 1)) rfl dX8_readPan_1 ?_
  refine va_gets (n := "PAN") (v := .ref (E.2.2.2 0)) hx hb (hA.2.2.1.1.1 0 (by decide)).1 hS hown (hts (.fieldLink RX8 35 "HighRecipes$Kind" "PAN" "LHighRecipes$Kind;") (by decide +kernel)) (fun _ h9 => h9) dX8_readPan_4 ?_
  refine q_cv (va_runV (As := [.ref (E.2.2.2 0)]) (rest := []) ⟨hx, hb, hml, hown, hts⟩ (kX10_take l E (pS E f px bk T pn rc u) n (px + 1) T u kk K 0 pS_t ((pS_out (by omega) (by omega) (by omega)).trans f2) (by assumption) (by assumption) (by assumption) (by assumption) hok (by first | assumption | decide)) (cwV 1 hts gX8_readPan_X10_take rfl rfl rfl (by decide +kernel) ⟨(Nat.le_of_ble_eq_true rfl), (Nat.le_of_ble_eq_true rfl)⟩) (q_pV hA hW hS (ci := 10) rfl pS_t) rfl rfl hl.1 rfl (lv_room (Nat.le_of_ble_eq_true rfl)) dX8_readPan_7 ⟨Nat.le_of_ble_eq_true rfl, Nat.le_of_ble_eq_true rfl⟩) hS (fun f_7 n_7 H locs hp hW hS => ?_)
  obtain ⟨rfl, rfl⟩ := hp
  have hW : q_W E (va_up (pS E f px bk T pn rc u) (px + 1) (some (cTS E (px + 1) T (p_take K 0 u)))) n H := hW
  have hW : q_W E (pS E f px bk T pn rc (p_take K 0 u)) n H := by rw [← pS_st (s := u) (s' := p_take K 0 u) rfl rfl]; exact hW
  have hok_7 : p_ok K T (p_take K 0 u) := hok.take hKT (by first | assumption | decide)
  have hW : q_W E (pS E f px bk T pn rc (p_take K 0 u)) n H := hW
  have ok7 : p_ok K T (p_take K 0 u) := hok.take hKT (by decide)
  refine lv_aload_n hx hb dX8_readPan_10 rfl (lv_at hl 0 rfl) ?_
  refine lv_aload_n hx hb dX8_readPan_11 rfl (lv_at hl 0 rfl) ?_
  refine q_get hx hb hts hown hA hW iX8 pS_p rfl 1 (by decide) (hts (.fieldLink RX8 19 "HighRecipes$Parser" "book" "LHighRecipes$Book;") (by decide +kernel)) (fun _ h9 => h9) (v := .ref bk) rfl dX8_readPan_12 ?_
  refine q_getN hx hb hts hown hA hW iX2 (pS_b hbk) rfl 4 (by decide) (va_Nw.use rfl (hA.2.2.2.1 ("HighRecipes$Parser", 78, "HighRecipes$Book", "panCount", "I", "HighRecipes") (by decide +kernel))) (fun _ h9 => h9) (v := .int (nI pn)) rfl dX8_readPan_15 ?_
  refine lv_bipush (v := 8) hx hb dX8_readPan_18 (by decide) ?_
  refine lv_icmp_lt (tgt := 27) hx hb dX8_readPan_20 (by decide) (fun c_20 => ?_) (fun c_20 => absurd (show nI pn < nI 8 from nI_lt hp8 (by decide)) c_20)
  refine lv_iconst (v := 0) hx hb dX8_readPan_27 (by decide) ?_
  refine q_cl (va_runV (As := [.int 0]) (rest := []) ⟨hx, hb, hml, hown, hts⟩ (kX8_readNewName l E (pS E f px bk T pn rc (p_take K 0 u)) n px bk T pn rc (p_take K 0 u) kk wo pN rN K Wd false ((pS_out (by omega) (by omega) (by omega)).trans f2) ((pS_out (by omega) (by omega) (by omega)).trans f4) ((pS_out (by omega) (by omega) (by omega)).trans g1) ((pS_out (by omega) (by omega) (by omega)).trans g3) (pS_K hbk) (by assumption) (by omega) (by assumption) (by assumption) (by assumption) (by assumption) (by assumption) (by assumption) (by assumption) ok7) (cwV 1 hts gX8_readPan_X8_readNewName rfl rfl rfl (by decide +kernel) ⟨(Nat.le_of_ble_eq_true rfl), (Nat.le_of_ble_eq_true rfl)⟩) (q_pV hA hW hS (ci := 8) rfl pS_p) rfl rfl hl.1 rfl (lv_room (Nat.le_of_ble_eq_true rfl)) dX8_readPan_28 ⟨Nat.le_of_ble_eq_true rfl, Nat.le_of_ble_eq_true rfl⟩) hS (fun r_28 f_28 n_28 H locs hp hW hS => ?_)
  obtain ⟨rfl, rfl, rfl⟩ := hp
  rw [pS_pS] at hW
  have hok_28 : p_ok K T (p_newn K Wd pN pn rN rc false (p_take K 0 u)) := ok7.newn hKT
  have hW : q_W E (pS E f px bk T pn rc (p_newn K Wd pN pn rN rc false (p_take K 0 u))) n H := hW
  refine lv_lstore_n (lv' := [(1, .long (Wd (p_take K 0 u).1)), (0, .ref px)]) hx hb dX8_readPan_31 rfl hl (by decide) rfl (fun ls hl => ?_)
  refine lv_aload_n hx hb dX8_readPan_32 rfl (lv_at hl 1 rfl) ?_
  refine q_get hx hb hts hown hA hW iX8 pS_p rfl 0 (by decide) (hts (.fieldLink RX8 10 "HighRecipes$Parser" "tokens" "LHighRecipes$Tokens;") (by decide +kernel)) (fun _ h9 => h9) (v := .ref (px + 1)) rfl dX8_readPan_33 ?_
  refine va_gets (n := "HOLDS") (v := .ref (E.2.2.2 1)) hx hb (hA.2.2.1.1.1 1 (by decide)).1 hS hown (hts (.fieldLink RX8 81 "HighRecipes$Kind" "HOLDS" "LHighRecipes$Kind;") (by decide +kernel)) (fun _ h9 => h9) dX8_readPan_36 ?_
  refine q_cv (va_runV (As := [.ref (E.2.2.2 1)]) (rest := []) ⟨hx, hb, hml, hown, hts⟩ (kX10_take l E (pS E f px bk T pn rc (p_newn K Wd pN pn rN rc false (p_take K 0 u))) n (px + 1) T (p_newn K Wd pN pn rN rc false (p_take K 0 u)) kk K 1 pS_t ((pS_out (by omega) (by omega) (by omega)).trans f2) (by assumption) (by assumption) (by assumption) (by assumption) hok_28 (by first | assumption | decide)) (cwV 1 hts gX8_readPan_X10_take rfl rfl rfl (by decide +kernel) ⟨(Nat.le_of_ble_eq_true rfl), (Nat.le_of_ble_eq_true rfl)⟩) (q_pV hA hW hS (ci := 10) rfl pS_t) rfl rfl hl.1 rfl (lv_room (Nat.le_of_ble_eq_true rfl)) dX8_readPan_39 ⟨Nat.le_of_ble_eq_true rfl, Nat.le_of_ble_eq_true rfl⟩) hS (fun f_39 n_39 H locs hp hW hS => ?_)
  obtain ⟨rfl, rfl⟩ := hp
  have hW : q_W E (va_up (pS E f px bk T pn rc (p_newn K Wd pN pn rN rc false (p_take K 0 u))) (px + 1) (some (cTS E (px + 1) T (p_take K 1 (p_newn K Wd pN pn rN rc false (p_take K 0 u)))))) n H := hW
  have hW : q_W E (pS E f px bk T pn rc (p_take K 1 (p_newn K Wd pN pn rN rc false (p_take K 0 u)))) n H := by rw [← pS_st (s := p_newn K Wd pN pn rN rc false (p_take K 0 u)) (s' := p_take K 1 (p_newn K Wd pN pn rN rc false (p_take K 0 u))) rfl rfl]; exact hW
  have hok_39 : p_ok K T (p_take K 1 (p_newn K Wd pN pn rN rc false (p_take K 0 u))) := hok_28.take hKT (by first | assumption | decide)
  have hW : q_W E (pS E f px bk T pn rc (p_take K 1 (p_newn K Wd pN pn rN rc false (p_take K 0 u)))) n H := hW
  have ok39 : p_ok K T (p_hold K Wd pn pN u) := (go_hold hKT hok).1
  have e39 : p_take K 1 (p_newn K Wd pN pn rN rc false (p_take K 0 u)) = p_hold K Wd pn pN u := by unfold p_hold; rw [h0, hr0, decide_eq_false (show ¬ 8 ≤ pn by omega)]
  rw [e39] at hW
  have hk39 : (p_hold K Wd pn pN u).2.1 < 41 := by rcases ok39.2.1 with h9 | h9 <;> rw [h9]; decide; exact hK41 _
  refine lv_aload_n hx hb dX8_readPan_42 rfl (lv_at hl 1 rfl) ?_
  refine q_get hx hb hts hown hA hW iX8 pS_p rfl 0 (by decide) (hts (.fieldLink RX8 10 "HighRecipes$Parser" "tokens" "LHighRecipes$Tokens;") (by decide +kernel)) (fun _ h9 => h9) (v := .ref (px + 1)) rfl dX8_readPan_43 ?_
  refine q_cl (va_runV (As := []) (rest := []) ⟨hx, hb, hml, hown, hts⟩ (kX10_worth l E (pS E f px bk T pn rc (p_hold K Wd pn pN u)) n (px + 1) wo (nI (T + 1)) ((p_hold K Wd pn pN u).1) ((p_hold K Wd pn pN u).2.1) pS_t ((pS_out (by omega) (by omega) (by omega)).trans f4) (by have := ok39.1; omega)) (cwV 0 hts gX8_readPan_X10_worth rfl rfl rfl (by decide +kernel) ⟨(Nat.le_of_ble_eq_true rfl), (Nat.le_of_ble_eq_true rfl)⟩) (q_pV hA hW hS (ci := 10) rfl pS_t) rfl rfl hl.1 rfl (lv_room (Nat.le_of_ble_eq_true rfl)) dX8_readPan_46 ⟨Nat.le_of_ble_eq_true rfl, Nat.le_of_ble_eq_true rfl⟩) hS (fun r_46 f_46 n_46 H locs hp hW hS => ?_)
  obtain ⟨rfl, rfl, rfl⟩ := hp
  have hW : q_W E (pS E f px bk T pn rc (p_hold K Wd pn pN u)) n H := hW
  rw [hWd _ ok39.1]
  refine lv_l2i hx hb dX8_readPan_49 rfl ?_
  refine lv_istore_n (lv' := [(3, .int (p_panX K Wd pn pN u)), (1, .long (Wd (p_take K 0 u).1)), (0, .ref px)]) hx hb dX8_readPan_50 rfl hl (by decide) rfl (fun ls hl => ?_)
  refine lv_aload_n hx hb dX8_readPan_51 rfl (lv_at hl 2 rfl) ?_
  refine q_get hx hb hts hown hA hW iX8 pS_p rfl 0 (by decide) (hts (.fieldLink RX8 10 "HighRecipes$Parser" "tokens" "LHighRecipes$Tokens;") (by decide +kernel)) (fun _ h9 => h9) (v := .ref (px + 1)) rfl dX8_readPan_52 ?_
  refine q_getN hx hb hts hown hA hW iX10 pS_t rfl 5 (by decide) (va_Nw.use rfl (hA.2.2.2.1 ("HighRecipes$Parser", 31, "HighRecipes$Tokens", "kind", "LHighRecipes$Kind;", "HighRecipes") (by decide +kernel))) (fun _ h9 => h9) (v := .ref (E.2.2.2 ((p_hold K Wd pn pN u)).2.1)) rfl dX8_readPan_55 ?_
  refine va_gets (n := "NUMBER") (v := .ref (E.2.2.2 38)) hx hb (hA.2.2.1.1.1 38 (by decide)).1 hS hown (hts (.fieldLink RX8 88 "HighRecipes$Kind" "NUMBER" "LHighRecipes$Kind;") (by decide +kernel)) (fun _ h9 => h9) dX8_readPan_58 ?_
  refine lv_acmp_ne (rx := (some (E.2.2.2 ((p_hold K Wd pn pN u)).2.1))) (ry := (some (E.2.2.2 38))) (tgt := 81) hx hb dX8_readPan_61 (by decide) (fun c_61 => ?_) (fun c_61 => ?_)
  · have e61 : ¬ (p_hold K Wd pn pN u).2.1 = 38 := fun h9 => c_61 (by rw [h9])
    have eC : (decide ((p_hold K Wd pn pN u).2.1 = 38) && (decide (p_panX K Wd pn pN u < 1) || decide (200 < p_panX K Wd pn pN u))) = false := by rw [decide_eq_false e61]; rfl
    refine lv_aload_n hx hb dX8_readPan_81 rfl (lv_at hl 2 rfl) ?_
    refine q_get hx hb hts hown hA hW iX8 pS_p rfl 0 (by decide) (hts (.fieldLink RX8 10 "HighRecipes$Parser" "tokens" "LHighRecipes$Tokens;") (by decide +kernel)) (fun _ h9 => h9) (v := .ref (px + 1)) rfl dX8_readPan_82 ?_
    refine va_gets (n := "NUMBER") (v := .ref (E.2.2.2 38)) hx hb (hA.2.2.1.1.1 38 (by decide)).1 hS hown (hts (.fieldLink RX8 88 "HighRecipes$Kind" "NUMBER" "LHighRecipes$Kind;") (by decide +kernel)) (fun _ h9 => h9) dX8_readPan_85 ?_
    refine q_cv (va_runV (As := [.ref (E.2.2.2 38)]) (rest := []) ⟨hx, hb, hml, hown, hts⟩ (kX10_take l E (pS E f px bk T pn rc (p_hold K Wd pn pN u)) n (px + 1) T (p_hold K Wd pn pN u) kk K 38 pS_t ((pS_out (by omega) (by omega) (by omega)).trans f2) (by assumption) (by assumption) (by assumption) (by assumption) ok39 (by first | assumption | decide)) (cwV 1 hts gX8_readPan_X10_take rfl rfl rfl (by decide +kernel) ⟨(Nat.le_of_ble_eq_true rfl), (Nat.le_of_ble_eq_true rfl)⟩) (q_pV hA hW hS (ci := 10) rfl pS_t) rfl rfl hl.1 rfl (lv_room (Nat.le_of_ble_eq_true rfl)) dX8_readPan_88 ⟨Nat.le_of_ble_eq_true rfl, Nat.le_of_ble_eq_true rfl⟩) hS (fun f_88 n_88 H locs hp hW hS => ?_)
    obtain ⟨rfl, rfl⟩ := hp
    have hW : q_W E (va_up (pS E f px bk T pn rc (p_hold K Wd pn pN u)) (px + 1) (some (cTS E (px + 1) T (p_take K 38 (p_hold K Wd pn pN u))))) n H := hW
    have hW : q_W E (pS E f px bk T pn rc (p_take K 38 (p_hold K Wd pn pN u))) n H := by rw [← pS_st (s := p_hold K Wd pn pN u) (s' := p_take K 38 (p_hold K Wd pn pN u)) rfl rfl]; exact hW
    have hok_88 : p_ok K T (p_take K 38 (p_hold K Wd pn pN u)) := ok39.take hKT (by first | assumption | decide)
    have hW : q_W E (pS E f px bk T pn rc (p_take K 38 (p_hold K Wd pn pN u))) n H := hW
    refine lv_aload_n hx hb dX8_readPan_91 rfl (lv_at hl 2 rfl) ?_
    refine q_get hx hb hts hown hA hW iX8 pS_p rfl 0 (by decide) (hts (.fieldLink RX8 10 "HighRecipes$Parser" "tokens" "LHighRecipes$Tokens;") (by decide +kernel)) (fun _ h9 => h9) (v := .ref (px + 1)) rfl dX8_readPan_92 ?_
    refine va_gets (n := "SEMICOLON") (v := .ref (E.2.2.2 29)) hx hb (hA.2.2.1.1.1 29 (by decide)).1 hS hown (hts (.fieldLink RX8 95 "HighRecipes$Kind" "SEMICOLON" "LHighRecipes$Kind;") (by decide +kernel)) (fun _ h9 => h9) dX8_readPan_95 ?_
    refine q_cv (va_runV (As := [.ref (E.2.2.2 29)]) (rest := []) ⟨hx, hb, hml, hown, hts⟩ (kX10_take l E (pS E f px bk T pn rc (p_take K 38 (p_hold K Wd pn pN u))) n (px + 1) T (p_take K 38 (p_hold K Wd pn pN u)) kk K 29 pS_t ((pS_out (by omega) (by omega) (by omega)).trans f2) (by assumption) (by assumption) (by assumption) (by assumption) hok_88 (by first | assumption | decide)) (cwV 1 hts gX8_readPan_X10_take rfl rfl rfl (by decide +kernel) ⟨(Nat.le_of_ble_eq_true rfl), (Nat.le_of_ble_eq_true rfl)⟩) (q_pV hA hW hS (ci := 10) rfl pS_t) rfl rfl hl.1 rfl (lv_room (Nat.le_of_ble_eq_true rfl)) dX8_readPan_98 ⟨Nat.le_of_ble_eq_true rfl, Nat.le_of_ble_eq_true rfl⟩) hS (fun f_98 n_98 H locs hp hW hS => ?_)
    obtain ⟨rfl, rfl⟩ := hp
    have hW : q_W E (va_up (pS E f px bk T pn rc (p_take K 38 (p_hold K Wd pn pN u))) (px + 1) (some (cTS E (px + 1) T (p_take K 29 (p_take K 38 (p_hold K Wd pn pN u)))))) n H := hW
    have hW : q_W E (pS E f px bk T pn rc (p_take K 29 (p_take K 38 (p_hold K Wd pn pN u)))) n H := by rw [← pS_st (s := p_take K 38 (p_hold K Wd pn pN u)) (s' := p_take K 29 (p_take K 38 (p_hold K Wd pn pN u))) rfl rfl]; exact hW
    have hok_98 : p_ok K T (p_take K 29 (p_take K 38 (p_hold K Wd pn pN u))) := hok_88.take hKT (by first | assumption | decide)
    have hW : q_W E (pS E f px bk T pn rc (p_take K 29 (p_take K 38 (p_hold K Wd pn pN u)))) n H := hW
    refine lv_aload_n hx hb dX8_readPan_101 rfl (lv_at hl 2 rfl) ?_
    refine q_get hx hb hts hown hA hW iX8 pS_p rfl 1 (by decide) (hts (.fieldLink RX8 19 "HighRecipes$Parser" "book" "LHighRecipes$Book;") (by decide +kernel)) (fun _ h9 => h9) (v := .ref bk) rfl dX8_readPan_102 ?_
    refine lv_lload_n hx hb dX8_readPan_105 rfl (lv_at hl 1 rfl) ?_
    refine lv_iload_n hx hb dX8_readPan_106 rfl (lv_at hl 0 rfl) ?_
    refine q_cv (va_runV (As := [.long (Wd (p_take K 0 u).1), .int (p_panX K Wd pn pN u)]) (rest := []) ⟨hx, hb, hml, hown, hts⟩ (kX2_addPanT l E (pS E f px bk T pn rc (p_take K 29 (p_take K 38 (p_hold K Wd pn pN u)))) n bk pn (nI rc) (nI (p_take K 29 (p_take K 38 (p_hold K Wd pn pN u))).2.2.2.2.1) pN hd (Wd (p_take K 0 u).1) (p_panX K Wd pn pN u) (pS_b hbk) ((pS_out (by omega) (by omega) (by omega)).trans g1) ((pS_out (by omega) (by omega) (by omega)).trans g2) hp8) (cwV 2 hts gX8_readPan_X2_addPan rfl rfl rfl (by decide +kernel) ⟨(Nat.le_of_ble_eq_true rfl), (Nat.le_of_ble_eq_true rfl)⟩) (q_pV hA hW hS (ci := 3) rfl (pS_b hbk)) rfl rfl hl.1 rfl (lv_room (Nat.le_of_ble_eq_true rfl)) dX8_readPan_107 ⟨Nat.le_of_ble_eq_true rfl, Nat.le_of_ble_eq_true rfl⟩) hS (fun f_107 n_107 H locs hp hW hS => ?_)
    obtain ⟨rfl, rfl⟩ := hp
    have eS : p_take K 29 (p_take K 38 (p_hold K Wd pn pN u)) = p_panS K Wd pn pN u := by unfold p_panS; rw [eC]; try rfl
    have hW : q_W E (va_up (va_up (va_up (pS E f px bk T pn rc (p_take K 29 (p_take K 38 (p_hold K Wd pn pN u)))) (bk + 1) (some (aJ E 8 (vp_updL pN pn (Wd (p_take K 0 u).1))))) (bk + 2) (some (aI E 8 (upd hd pn (p_panX K Wd pn pN u))))) bk (some (cBook bk (nI (pn + 1)) (nI rc) (nI (p_take K 29 (p_take K 38 (p_hold K Wd pn pN u))).2.2.2.2.1)))) n H := hW
    rw [pS_iu (by omega) (by omega) (by omega), pS_iu (by omega) (by omega) (by omega), pS_sn hbk, eS] at hW
    exact q_vret hx hb hr hlocks hW hS ⟨rfl, rfl⟩ (Nat.le_of_ble_eq_true rfl) (Nat.le_of_ble_eq_true rfl) dX8_readPan_110
  · have e61 : (p_hold K Wd pn pN u).2.1 = 38 := q_kinj hA hk39 (by decide) c_61
    refine lv_iload_n hx hb dX8_readPan_64 rfl (lv_at hl 0 rfl) ?_
    refine lv_iconst (v := 1) hx hb dX8_readPan_65 (by decide) ?_
    refine lv_icmp_lt (tgt := 76) hx hb dX8_readPan_66 (by decide) (fun c_66 => ?_) (fun c_66 => ?_)
    · have eC : (decide ((p_hold K Wd pn pN u).2.1 = 38) && (decide (p_panX K Wd pn pN u < 1) || decide (200 < p_panX K Wd pn pN u))) = true := by rw [decide_eq_true e61, decide_eq_true (show p_panX K Wd pn pN u < 1 from c_66)]; rfl
      refine lv_aload_n hx hb dX8_readPan_76 rfl (lv_at hl 2 rfl) ?_
      refine lv_iconst (v := 5) hx hb dX8_readPan_77 (by decide) ?_
      refine q_cv (va_runV (As := [.int 5]) (rest := []) ⟨hx, hb, hml, hown, hts⟩ (kX8_complain l E (pS E f px bk T pn rc (p_hold K Wd pn pN u)) n px bk T pn rc (p_hold K Wd pn pN u) kk wo pN rN K Wd 5 ((pS_out (by omega) (by omega) (by omega)).trans f2) ((pS_out (by omega) (by omega) (by omega)).trans f4) ((pS_out (by omega) (by omega) (by omega)).trans g1) ((pS_out (by omega) (by omega) (by omega)).trans g3) (pS_K hbk) (by assumption) (by omega) (by assumption) (by assumption) (by assumption) (by assumption) (by assumption) (by assumption) (by assumption) ok39.2.2.1) (cwV 1 hts gX8_readPan_X8_complain rfl rfl rfl (by decide +kernel) ⟨(Nat.le_of_ble_eq_true rfl), (Nat.le_of_ble_eq_true rfl)⟩) (q_pV hA hW hS (ci := 8) rfl pS_p) rfl rfl hl.1 rfl (lv_room (Nat.le_of_ble_eq_true rfl)) dX8_readPan_78 ⟨Nat.le_of_ble_eq_true rfl, Nat.le_of_ble_eq_true rfl⟩) hS (fun f_78 n_78 H locs hp hW hS => ?_)
      obtain ⟨rfl, rfl⟩ := hp
      rw [pS_pS] at hW
      have hW : q_W E (pS E f px bk T pn rc (p_ci true 5 (p_hold K Wd pn pN u))) n H := hW
      have ok78 : p_ok K T (p_ci true 5 (p_hold K Wd pn pN u)) := ok39.ci (by decide)
      refine lv_aload_n hx hb dX8_readPan_81 rfl (lv_at hl 2 rfl) ?_
      refine q_get hx hb hts hown hA hW iX8 pS_p rfl 0 (by decide) (hts (.fieldLink RX8 10 "HighRecipes$Parser" "tokens" "LHighRecipes$Tokens;") (by decide +kernel)) (fun _ h9 => h9) (v := .ref (px + 1)) rfl dX8_readPan_82 ?_
      refine va_gets (n := "NUMBER") (v := .ref (E.2.2.2 38)) hx hb (hA.2.2.1.1.1 38 (by decide)).1 hS hown (hts (.fieldLink RX8 88 "HighRecipes$Kind" "NUMBER" "LHighRecipes$Kind;") (by decide +kernel)) (fun _ h9 => h9) dX8_readPan_85 ?_
      refine q_cv (va_runV (As := [.ref (E.2.2.2 38)]) (rest := []) ⟨hx, hb, hml, hown, hts⟩ (kX10_take l E (pS E f px bk T pn rc (p_ci true 5 (p_hold K Wd pn pN u))) n (px + 1) T (p_ci true 5 (p_hold K Wd pn pN u)) kk K 38 pS_t ((pS_out (by omega) (by omega) (by omega)).trans f2) (by assumption) (by assumption) (by assumption) (by assumption) ok78 (by first | assumption | decide)) (cwV 1 hts gX8_readPan_X10_take rfl rfl rfl (by decide +kernel) ⟨(Nat.le_of_ble_eq_true rfl), (Nat.le_of_ble_eq_true rfl)⟩) (q_pV hA hW hS (ci := 10) rfl pS_t) rfl rfl hl.1 rfl (lv_room (Nat.le_of_ble_eq_true rfl)) dX8_readPan_88 ⟨Nat.le_of_ble_eq_true rfl, Nat.le_of_ble_eq_true rfl⟩) hS (fun f_88 n_88 H locs hp hW hS => ?_)
      obtain ⟨rfl, rfl⟩ := hp
      have hW : q_W E (va_up (pS E f px bk T pn rc (p_ci true 5 (p_hold K Wd pn pN u))) (px + 1) (some (cTS E (px + 1) T (p_take K 38 (p_ci true 5 (p_hold K Wd pn pN u)))))) n H := hW
      have hW : q_W E (pS E f px bk T pn rc (p_take K 38 (p_ci true 5 (p_hold K Wd pn pN u)))) n H := by rw [← pS_st (s := p_ci true 5 (p_hold K Wd pn pN u)) (s' := p_take K 38 (p_ci true 5 (p_hold K Wd pn pN u))) rfl rfl]; exact hW
      have hok_88 : p_ok K T (p_take K 38 (p_ci true 5 (p_hold K Wd pn pN u))) := ok78.take hKT (by first | assumption | decide)
      have hW : q_W E (pS E f px bk T pn rc (p_take K 38 (p_ci true 5 (p_hold K Wd pn pN u)))) n H := hW
      refine lv_aload_n hx hb dX8_readPan_91 rfl (lv_at hl 2 rfl) ?_
      refine q_get hx hb hts hown hA hW iX8 pS_p rfl 0 (by decide) (hts (.fieldLink RX8 10 "HighRecipes$Parser" "tokens" "LHighRecipes$Tokens;") (by decide +kernel)) (fun _ h9 => h9) (v := .ref (px + 1)) rfl dX8_readPan_92 ?_
      refine va_gets (n := "SEMICOLON") (v := .ref (E.2.2.2 29)) hx hb (hA.2.2.1.1.1 29 (by decide)).1 hS hown (hts (.fieldLink RX8 95 "HighRecipes$Kind" "SEMICOLON" "LHighRecipes$Kind;") (by decide +kernel)) (fun _ h9 => h9) dX8_readPan_95 ?_
      refine q_cv (va_runV (As := [.ref (E.2.2.2 29)]) (rest := []) ⟨hx, hb, hml, hown, hts⟩ (kX10_take l E (pS E f px bk T pn rc (p_take K 38 (p_ci true 5 (p_hold K Wd pn pN u)))) n (px + 1) T (p_take K 38 (p_ci true 5 (p_hold K Wd pn pN u))) kk K 29 pS_t ((pS_out (by omega) (by omega) (by omega)).trans f2) (by assumption) (by assumption) (by assumption) (by assumption) hok_88 (by first | assumption | decide)) (cwV 1 hts gX8_readPan_X10_take rfl rfl rfl (by decide +kernel) ⟨(Nat.le_of_ble_eq_true rfl), (Nat.le_of_ble_eq_true rfl)⟩) (q_pV hA hW hS (ci := 10) rfl pS_t) rfl rfl hl.1 rfl (lv_room (Nat.le_of_ble_eq_true rfl)) dX8_readPan_98 ⟨Nat.le_of_ble_eq_true rfl, Nat.le_of_ble_eq_true rfl⟩) hS (fun f_98 n_98 H locs hp hW hS => ?_)
      obtain ⟨rfl, rfl⟩ := hp
      have hW : q_W E (va_up (pS E f px bk T pn rc (p_take K 38 (p_ci true 5 (p_hold K Wd pn pN u)))) (px + 1) (some (cTS E (px + 1) T (p_take K 29 (p_take K 38 (p_ci true 5 (p_hold K Wd pn pN u))))))) n H := hW
      have hW : q_W E (pS E f px bk T pn rc (p_take K 29 (p_take K 38 (p_ci true 5 (p_hold K Wd pn pN u))))) n H := by rw [← pS_st (s := p_take K 38 (p_ci true 5 (p_hold K Wd pn pN u))) (s' := p_take K 29 (p_take K 38 (p_ci true 5 (p_hold K Wd pn pN u)))) rfl rfl]; exact hW
      have hok_98 : p_ok K T (p_take K 29 (p_take K 38 (p_ci true 5 (p_hold K Wd pn pN u)))) := hok_88.take hKT (by first | assumption | decide)
      have hW : q_W E (pS E f px bk T pn rc (p_take K 29 (p_take K 38 (p_ci true 5 (p_hold K Wd pn pN u))))) n H := hW
      refine lv_aload_n hx hb dX8_readPan_101 rfl (lv_at hl 2 rfl) ?_
      refine q_get hx hb hts hown hA hW iX8 pS_p rfl 1 (by decide) (hts (.fieldLink RX8 19 "HighRecipes$Parser" "book" "LHighRecipes$Book;") (by decide +kernel)) (fun _ h9 => h9) (v := .ref bk) rfl dX8_readPan_102 ?_
      refine lv_lload_n hx hb dX8_readPan_105 rfl (lv_at hl 1 rfl) ?_
      refine lv_iload_n hx hb dX8_readPan_106 rfl (lv_at hl 0 rfl) ?_
      refine q_cv (va_runV (As := [.long (Wd (p_take K 0 u).1), .int (p_panX K Wd pn pN u)]) (rest := []) ⟨hx, hb, hml, hown, hts⟩ (kX2_addPanT l E (pS E f px bk T pn rc (p_take K 29 (p_take K 38 (p_ci true 5 (p_hold K Wd pn pN u))))) n bk pn (nI rc) (nI (p_take K 29 (p_take K 38 (p_ci true 5 (p_hold K Wd pn pN u)))).2.2.2.2.1) pN hd (Wd (p_take K 0 u).1) (p_panX K Wd pn pN u) (pS_b hbk) ((pS_out (by omega) (by omega) (by omega)).trans g1) ((pS_out (by omega) (by omega) (by omega)).trans g2) hp8) (cwV 2 hts gX8_readPan_X2_addPan rfl rfl rfl (by decide +kernel) ⟨(Nat.le_of_ble_eq_true rfl), (Nat.le_of_ble_eq_true rfl)⟩) (q_pV hA hW hS (ci := 3) rfl (pS_b hbk)) rfl rfl hl.1 rfl (lv_room (Nat.le_of_ble_eq_true rfl)) dX8_readPan_107 ⟨Nat.le_of_ble_eq_true rfl, Nat.le_of_ble_eq_true rfl⟩) hS (fun f_107 n_107 H locs hp hW hS => ?_)
      obtain ⟨rfl, rfl⟩ := hp
      have eS : p_take K 29 (p_take K 38 (p_ci true 5 (p_hold K Wd pn pN u))) = p_panS K Wd pn pN u := by unfold p_panS; rw [eC]; try rfl
      have hW : q_W E (va_up (va_up (va_up (pS E f px bk T pn rc (p_take K 29 (p_take K 38 (p_ci true 5 (p_hold K Wd pn pN u))))) (bk + 1) (some (aJ E 8 (vp_updL pN pn (Wd (p_take K 0 u).1))))) (bk + 2) (some (aI E 8 (upd hd pn (p_panX K Wd pn pN u))))) bk (some (cBook bk (nI (pn + 1)) (nI rc) (nI (p_take K 29 (p_take K 38 (p_ci true 5 (p_hold K Wd pn pN u)))).2.2.2.2.1)))) n H := hW
      rw [pS_iu (by omega) (by omega) (by omega), pS_iu (by omega) (by omega) (by omega), pS_sn hbk, eS] at hW
      exact q_vret hx hb hr hlocks hW hS ⟨rfl, rfl⟩ (Nat.le_of_ble_eq_true rfl) (Nat.le_of_ble_eq_true rfl) dX8_readPan_110
    · have e66 : ¬ p_panX K Wd pn pN u < 1 := c_66
      refine lv_iload_n hx hb dX8_readPan_69 rfl (lv_at hl 0 rfl) ?_
      refine lv_sipush (v := 200) hx hb dX8_readPan_70 (by decide) ?_
      refine lv_icmp_le (tgt := 81) hx hb dX8_readPan_73 (by decide) (fun c_73 => ?_) (fun c_73 => ?_)
      · have eC : (decide ((p_hold K Wd pn pN u).2.1 = 38) && (decide (p_panX K Wd pn pN u < 1) || decide (200 < p_panX K Wd pn pN u))) = false := by rw [decide_eq_true e61, decide_eq_false e66, decide_eq_false (Int32.not_lt.mpr c_73)]; rfl
        refine lv_aload_n hx hb dX8_readPan_81 rfl (lv_at hl 2 rfl) ?_
        refine q_get hx hb hts hown hA hW iX8 pS_p rfl 0 (by decide) (hts (.fieldLink RX8 10 "HighRecipes$Parser" "tokens" "LHighRecipes$Tokens;") (by decide +kernel)) (fun _ h9 => h9) (v := .ref (px + 1)) rfl dX8_readPan_82 ?_
        refine va_gets (n := "NUMBER") (v := .ref (E.2.2.2 38)) hx hb (hA.2.2.1.1.1 38 (by decide)).1 hS hown (hts (.fieldLink RX8 88 "HighRecipes$Kind" "NUMBER" "LHighRecipes$Kind;") (by decide +kernel)) (fun _ h9 => h9) dX8_readPan_85 ?_
        refine q_cv (va_runV (As := [.ref (E.2.2.2 38)]) (rest := []) ⟨hx, hb, hml, hown, hts⟩ (kX10_take l E (pS E f px bk T pn rc (p_hold K Wd pn pN u)) n (px + 1) T (p_hold K Wd pn pN u) kk K 38 pS_t ((pS_out (by omega) (by omega) (by omega)).trans f2) (by assumption) (by assumption) (by assumption) (by assumption) ok39 (by first | assumption | decide)) (cwV 1 hts gX8_readPan_X10_take rfl rfl rfl (by decide +kernel) ⟨(Nat.le_of_ble_eq_true rfl), (Nat.le_of_ble_eq_true rfl)⟩) (q_pV hA hW hS (ci := 10) rfl pS_t) rfl rfl hl.1 rfl (lv_room (Nat.le_of_ble_eq_true rfl)) dX8_readPan_88 ⟨Nat.le_of_ble_eq_true rfl, Nat.le_of_ble_eq_true rfl⟩) hS (fun f_88 n_88 H locs hp hW hS => ?_)
        obtain ⟨rfl, rfl⟩ := hp
        have hW : q_W E (va_up (pS E f px bk T pn rc (p_hold K Wd pn pN u)) (px + 1) (some (cTS E (px + 1) T (p_take K 38 (p_hold K Wd pn pN u))))) n H := hW
        have hW : q_W E (pS E f px bk T pn rc (p_take K 38 (p_hold K Wd pn pN u))) n H := by rw [← pS_st (s := p_hold K Wd pn pN u) (s' := p_take K 38 (p_hold K Wd pn pN u)) rfl rfl]; exact hW
        have hok_88 : p_ok K T (p_take K 38 (p_hold K Wd pn pN u)) := ok39.take hKT (by first | assumption | decide)
        have hW : q_W E (pS E f px bk T pn rc (p_take K 38 (p_hold K Wd pn pN u))) n H := hW
        refine lv_aload_n hx hb dX8_readPan_91 rfl (lv_at hl 2 rfl) ?_
        refine q_get hx hb hts hown hA hW iX8 pS_p rfl 0 (by decide) (hts (.fieldLink RX8 10 "HighRecipes$Parser" "tokens" "LHighRecipes$Tokens;") (by decide +kernel)) (fun _ h9 => h9) (v := .ref (px + 1)) rfl dX8_readPan_92 ?_
        refine va_gets (n := "SEMICOLON") (v := .ref (E.2.2.2 29)) hx hb (hA.2.2.1.1.1 29 (by decide)).1 hS hown (hts (.fieldLink RX8 95 "HighRecipes$Kind" "SEMICOLON" "LHighRecipes$Kind;") (by decide +kernel)) (fun _ h9 => h9) dX8_readPan_95 ?_
        refine q_cv (va_runV (As := [.ref (E.2.2.2 29)]) (rest := []) ⟨hx, hb, hml, hown, hts⟩ (kX10_take l E (pS E f px bk T pn rc (p_take K 38 (p_hold K Wd pn pN u))) n (px + 1) T (p_take K 38 (p_hold K Wd pn pN u)) kk K 29 pS_t ((pS_out (by omega) (by omega) (by omega)).trans f2) (by assumption) (by assumption) (by assumption) (by assumption) hok_88 (by first | assumption | decide)) (cwV 1 hts gX8_readPan_X10_take rfl rfl rfl (by decide +kernel) ⟨(Nat.le_of_ble_eq_true rfl), (Nat.le_of_ble_eq_true rfl)⟩) (q_pV hA hW hS (ci := 10) rfl pS_t) rfl rfl hl.1 rfl (lv_room (Nat.le_of_ble_eq_true rfl)) dX8_readPan_98 ⟨Nat.le_of_ble_eq_true rfl, Nat.le_of_ble_eq_true rfl⟩) hS (fun f_98 n_98 H locs hp hW hS => ?_)
        obtain ⟨rfl, rfl⟩ := hp
        have hW : q_W E (va_up (pS E f px bk T pn rc (p_take K 38 (p_hold K Wd pn pN u))) (px + 1) (some (cTS E (px + 1) T (p_take K 29 (p_take K 38 (p_hold K Wd pn pN u)))))) n H := hW
        have hW : q_W E (pS E f px bk T pn rc (p_take K 29 (p_take K 38 (p_hold K Wd pn pN u)))) n H := by rw [← pS_st (s := p_take K 38 (p_hold K Wd pn pN u)) (s' := p_take K 29 (p_take K 38 (p_hold K Wd pn pN u))) rfl rfl]; exact hW
        have hok_98 : p_ok K T (p_take K 29 (p_take K 38 (p_hold K Wd pn pN u))) := hok_88.take hKT (by first | assumption | decide)
        have hW : q_W E (pS E f px bk T pn rc (p_take K 29 (p_take K 38 (p_hold K Wd pn pN u)))) n H := hW
        refine lv_aload_n hx hb dX8_readPan_101 rfl (lv_at hl 2 rfl) ?_
        refine q_get hx hb hts hown hA hW iX8 pS_p rfl 1 (by decide) (hts (.fieldLink RX8 19 "HighRecipes$Parser" "book" "LHighRecipes$Book;") (by decide +kernel)) (fun _ h9 => h9) (v := .ref bk) rfl dX8_readPan_102 ?_
        refine lv_lload_n hx hb dX8_readPan_105 rfl (lv_at hl 1 rfl) ?_
        refine lv_iload_n hx hb dX8_readPan_106 rfl (lv_at hl 0 rfl) ?_
        refine q_cv (va_runV (As := [.long (Wd (p_take K 0 u).1), .int (p_panX K Wd pn pN u)]) (rest := []) ⟨hx, hb, hml, hown, hts⟩ (kX2_addPanT l E (pS E f px bk T pn rc (p_take K 29 (p_take K 38 (p_hold K Wd pn pN u)))) n bk pn (nI rc) (nI (p_take K 29 (p_take K 38 (p_hold K Wd pn pN u))).2.2.2.2.1) pN hd (Wd (p_take K 0 u).1) (p_panX K Wd pn pN u) (pS_b hbk) ((pS_out (by omega) (by omega) (by omega)).trans g1) ((pS_out (by omega) (by omega) (by omega)).trans g2) hp8) (cwV 2 hts gX8_readPan_X2_addPan rfl rfl rfl (by decide +kernel) ⟨(Nat.le_of_ble_eq_true rfl), (Nat.le_of_ble_eq_true rfl)⟩) (q_pV hA hW hS (ci := 3) rfl (pS_b hbk)) rfl rfl hl.1 rfl (lv_room (Nat.le_of_ble_eq_true rfl)) dX8_readPan_107 ⟨Nat.le_of_ble_eq_true rfl, Nat.le_of_ble_eq_true rfl⟩) hS (fun f_107 n_107 H locs hp hW hS => ?_)
        obtain ⟨rfl, rfl⟩ := hp
        have eS : p_take K 29 (p_take K 38 (p_hold K Wd pn pN u)) = p_panS K Wd pn pN u := by unfold p_panS; rw [eC]; try rfl
        have hW : q_W E (va_up (va_up (va_up (pS E f px bk T pn rc (p_take K 29 (p_take K 38 (p_hold K Wd pn pN u)))) (bk + 1) (some (aJ E 8 (vp_updL pN pn (Wd (p_take K 0 u).1))))) (bk + 2) (some (aI E 8 (upd hd pn (p_panX K Wd pn pN u))))) bk (some (cBook bk (nI (pn + 1)) (nI rc) (nI (p_take K 29 (p_take K 38 (p_hold K Wd pn pN u))).2.2.2.2.1)))) n H := hW
        rw [pS_iu (by omega) (by omega) (by omega), pS_iu (by omega) (by omega) (by omega), pS_sn hbk, eS] at hW
        exact q_vret hx hb hr hlocks hW hS ⟨rfl, rfl⟩ (Nat.le_of_ble_eq_true rfl) (Nat.le_of_ble_eq_true rfl) dX8_readPan_110
      · have eC : (decide ((p_hold K Wd pn pN u).2.1 = 38) && (decide (p_panX K Wd pn pN u < 1) || decide (200 < p_panX K Wd pn pN u))) = true := by rw [decide_eq_true e61, decide_eq_true (Int32.not_le.mp c_73)]; exact Bool.or_true _
        refine lv_aload_n hx hb dX8_readPan_76 rfl (lv_at hl 2 rfl) ?_
        refine lv_iconst (v := 5) hx hb dX8_readPan_77 (by decide) ?_
        refine q_cv (va_runV (As := [.int 5]) (rest := []) ⟨hx, hb, hml, hown, hts⟩ (kX8_complain l E (pS E f px bk T pn rc (p_hold K Wd pn pN u)) n px bk T pn rc (p_hold K Wd pn pN u) kk wo pN rN K Wd 5 ((pS_out (by omega) (by omega) (by omega)).trans f2) ((pS_out (by omega) (by omega) (by omega)).trans f4) ((pS_out (by omega) (by omega) (by omega)).trans g1) ((pS_out (by omega) (by omega) (by omega)).trans g3) (pS_K hbk) (by assumption) (by omega) (by assumption) (by assumption) (by assumption) (by assumption) (by assumption) (by assumption) (by assumption) ok39.2.2.1) (cwV 1 hts gX8_readPan_X8_complain rfl rfl rfl (by decide +kernel) ⟨(Nat.le_of_ble_eq_true rfl), (Nat.le_of_ble_eq_true rfl)⟩) (q_pV hA hW hS (ci := 8) rfl pS_p) rfl rfl hl.1 rfl (lv_room (Nat.le_of_ble_eq_true rfl)) dX8_readPan_78 ⟨Nat.le_of_ble_eq_true rfl, Nat.le_of_ble_eq_true rfl⟩) hS (fun f_78 n_78 H locs hp hW hS => ?_)
        obtain ⟨rfl, rfl⟩ := hp
        rw [pS_pS] at hW
        have hW : q_W E (pS E f px bk T pn rc (p_ci true 5 (p_hold K Wd pn pN u))) n H := hW
        have ok78 : p_ok K T (p_ci true 5 (p_hold K Wd pn pN u)) := ok39.ci (by decide)
        refine lv_aload_n hx hb dX8_readPan_81 rfl (lv_at hl 2 rfl) ?_
        refine q_get hx hb hts hown hA hW iX8 pS_p rfl 0 (by decide) (hts (.fieldLink RX8 10 "HighRecipes$Parser" "tokens" "LHighRecipes$Tokens;") (by decide +kernel)) (fun _ h9 => h9) (v := .ref (px + 1)) rfl dX8_readPan_82 ?_
        refine va_gets (n := "NUMBER") (v := .ref (E.2.2.2 38)) hx hb (hA.2.2.1.1.1 38 (by decide)).1 hS hown (hts (.fieldLink RX8 88 "HighRecipes$Kind" "NUMBER" "LHighRecipes$Kind;") (by decide +kernel)) (fun _ h9 => h9) dX8_readPan_85 ?_
        refine q_cv (va_runV (As := [.ref (E.2.2.2 38)]) (rest := []) ⟨hx, hb, hml, hown, hts⟩ (kX10_take l E (pS E f px bk T pn rc (p_ci true 5 (p_hold K Wd pn pN u))) n (px + 1) T (p_ci true 5 (p_hold K Wd pn pN u)) kk K 38 pS_t ((pS_out (by omega) (by omega) (by omega)).trans f2) (by assumption) (by assumption) (by assumption) (by assumption) ok78 (by first | assumption | decide)) (cwV 1 hts gX8_readPan_X10_take rfl rfl rfl (by decide +kernel) ⟨(Nat.le_of_ble_eq_true rfl), (Nat.le_of_ble_eq_true rfl)⟩) (q_pV hA hW hS (ci := 10) rfl pS_t) rfl rfl hl.1 rfl (lv_room (Nat.le_of_ble_eq_true rfl)) dX8_readPan_88 ⟨Nat.le_of_ble_eq_true rfl, Nat.le_of_ble_eq_true rfl⟩) hS (fun f_88 n_88 H locs hp hW hS => ?_)
        obtain ⟨rfl, rfl⟩ := hp
        have hW : q_W E (va_up (pS E f px bk T pn rc (p_ci true 5 (p_hold K Wd pn pN u))) (px + 1) (some (cTS E (px + 1) T (p_take K 38 (p_ci true 5 (p_hold K Wd pn pN u)))))) n H := hW
        have hW : q_W E (pS E f px bk T pn rc (p_take K 38 (p_ci true 5 (p_hold K Wd pn pN u)))) n H := by rw [← pS_st (s := p_ci true 5 (p_hold K Wd pn pN u)) (s' := p_take K 38 (p_ci true 5 (p_hold K Wd pn pN u))) rfl rfl]; exact hW
        have hok_88 : p_ok K T (p_take K 38 (p_ci true 5 (p_hold K Wd pn pN u))) := ok78.take hKT (by first | assumption | decide)
        have hW : q_W E (pS E f px bk T pn rc (p_take K 38 (p_ci true 5 (p_hold K Wd pn pN u)))) n H := hW
        refine lv_aload_n hx hb dX8_readPan_91 rfl (lv_at hl 2 rfl) ?_
        refine q_get hx hb hts hown hA hW iX8 pS_p rfl 0 (by decide) (hts (.fieldLink RX8 10 "HighRecipes$Parser" "tokens" "LHighRecipes$Tokens;") (by decide +kernel)) (fun _ h9 => h9) (v := .ref (px + 1)) rfl dX8_readPan_92 ?_
        refine va_gets (n := "SEMICOLON") (v := .ref (E.2.2.2 29)) hx hb (hA.2.2.1.1.1 29 (by decide)).1 hS hown (hts (.fieldLink RX8 95 "HighRecipes$Kind" "SEMICOLON" "LHighRecipes$Kind;") (by decide +kernel)) (fun _ h9 => h9) dX8_readPan_95 ?_
        refine q_cv (va_runV (As := [.ref (E.2.2.2 29)]) (rest := []) ⟨hx, hb, hml, hown, hts⟩ (kX10_take l E (pS E f px bk T pn rc (p_take K 38 (p_ci true 5 (p_hold K Wd pn pN u)))) n (px + 1) T (p_take K 38 (p_ci true 5 (p_hold K Wd pn pN u))) kk K 29 pS_t ((pS_out (by omega) (by omega) (by omega)).trans f2) (by assumption) (by assumption) (by assumption) (by assumption) hok_88 (by first | assumption | decide)) (cwV 1 hts gX8_readPan_X10_take rfl rfl rfl (by decide +kernel) ⟨(Nat.le_of_ble_eq_true rfl), (Nat.le_of_ble_eq_true rfl)⟩) (q_pV hA hW hS (ci := 10) rfl pS_t) rfl rfl hl.1 rfl (lv_room (Nat.le_of_ble_eq_true rfl)) dX8_readPan_98 ⟨Nat.le_of_ble_eq_true rfl, Nat.le_of_ble_eq_true rfl⟩) hS (fun f_98 n_98 H locs hp hW hS => ?_)
        obtain ⟨rfl, rfl⟩ := hp
        have hW : q_W E (va_up (pS E f px bk T pn rc (p_take K 38 (p_ci true 5 (p_hold K Wd pn pN u)))) (px + 1) (some (cTS E (px + 1) T (p_take K 29 (p_take K 38 (p_ci true 5 (p_hold K Wd pn pN u))))))) n H := hW
        have hW : q_W E (pS E f px bk T pn rc (p_take K 29 (p_take K 38 (p_ci true 5 (p_hold K Wd pn pN u))))) n H := by rw [← pS_st (s := p_take K 38 (p_ci true 5 (p_hold K Wd pn pN u))) (s' := p_take K 29 (p_take K 38 (p_ci true 5 (p_hold K Wd pn pN u)))) rfl rfl]; exact hW
        have hok_98 : p_ok K T (p_take K 29 (p_take K 38 (p_ci true 5 (p_hold K Wd pn pN u)))) := hok_88.take hKT (by first | assumption | decide)
        have hW : q_W E (pS E f px bk T pn rc (p_take K 29 (p_take K 38 (p_ci true 5 (p_hold K Wd pn pN u))))) n H := hW
        refine lv_aload_n hx hb dX8_readPan_101 rfl (lv_at hl 2 rfl) ?_
        refine q_get hx hb hts hown hA hW iX8 pS_p rfl 1 (by decide) (hts (.fieldLink RX8 19 "HighRecipes$Parser" "book" "LHighRecipes$Book;") (by decide +kernel)) (fun _ h9 => h9) (v := .ref bk) rfl dX8_readPan_102 ?_
        refine lv_lload_n hx hb dX8_readPan_105 rfl (lv_at hl 1 rfl) ?_
        refine lv_iload_n hx hb dX8_readPan_106 rfl (lv_at hl 0 rfl) ?_
        refine q_cv (va_runV (As := [.long (Wd (p_take K 0 u).1), .int (p_panX K Wd pn pN u)]) (rest := []) ⟨hx, hb, hml, hown, hts⟩ (kX2_addPanT l E (pS E f px bk T pn rc (p_take K 29 (p_take K 38 (p_ci true 5 (p_hold K Wd pn pN u))))) n bk pn (nI rc) (nI (p_take K 29 (p_take K 38 (p_ci true 5 (p_hold K Wd pn pN u)))).2.2.2.2.1) pN hd (Wd (p_take K 0 u).1) (p_panX K Wd pn pN u) (pS_b hbk) ((pS_out (by omega) (by omega) (by omega)).trans g1) ((pS_out (by omega) (by omega) (by omega)).trans g2) hp8) (cwV 2 hts gX8_readPan_X2_addPan rfl rfl rfl (by decide +kernel) ⟨(Nat.le_of_ble_eq_true rfl), (Nat.le_of_ble_eq_true rfl)⟩) (q_pV hA hW hS (ci := 3) rfl (pS_b hbk)) rfl rfl hl.1 rfl (lv_room (Nat.le_of_ble_eq_true rfl)) dX8_readPan_107 ⟨Nat.le_of_ble_eq_true rfl, Nat.le_of_ble_eq_true rfl⟩) hS (fun f_107 n_107 H locs hp hW hS => ?_)
        obtain ⟨rfl, rfl⟩ := hp
        have eS : p_take K 29 (p_take K 38 (p_ci true 5 (p_hold K Wd pn pN u))) = p_panS K Wd pn pN u := by unfold p_panS; rw [eC]; try rfl
        have hW : q_W E (va_up (va_up (va_up (pS E f px bk T pn rc (p_take K 29 (p_take K 38 (p_ci true 5 (p_hold K Wd pn pN u))))) (bk + 1) (some (aJ E 8 (vp_updL pN pn (Wd (p_take K 0 u).1))))) (bk + 2) (some (aI E 8 (upd hd pn (p_panX K Wd pn pN u))))) bk (some (cBook bk (nI (pn + 1)) (nI rc) (nI (p_take K 29 (p_take K 38 (p_ci true 5 (p_hold K Wd pn pN u)))).2.2.2.2.1)))) n H := hW
        rw [pS_iu (by omega) (by omega) (by omega), pS_iu (by omega) (by omega) (by omega), pS_sn hbk, eS] at hW
        exact q_vret hx hb hr hlocks hW hS ⟨rfl, rfl⟩ (Nat.le_of_ble_eq_true rfl) (Nat.le_of_ble_eq_true rfl) dX8_readPan_110

set_option maxHeartbeats 4000000 in
set_option maxRecDepth 100000 in
theorem kX8_readPanF (l : Launch) (E : q_E) (f : q_H) (n : Nat) (px bk T pn rc : Nat) (u : p_S) (kk : Nat → Option Nat) (wo pN rN : Nat → Int64) (K : Nat → Nat) (Wd : Nat → Int64) (hd : Nat → Int32) (f2 : f (px + 2) = some (aQ E 5 401 kk)) (f4 : f (px + 4) = some (aJ E 401 wo)) (g1 : f (bk + 1) = some (aJ E 8 pN)) (g3 : f (bk + 3) = some (aJ E 6 rN)) (g2 : f (bk + 2) = some (aI E 8 hd)) (hp : PAR E f px bk T pn rc u) (hbk : px + 5 ≤ bk) (hn : bk + 5 ≤ n) (hT : T ≤ 400) (hkk : ∀ j, j ≤ T → kk j = some (E.2.2.2 (K j))) (hKT : 39 ≤ K T) (hK41 : ∀ j, K j < 41) (hWd : ∀ j, j ≤ T → wo j = Wd j) (hpn : pn ≤ 8) (hrc : rc ≤ 6) (hok : p_ok K T u) (h0 : rc = 0) (hr0 : rN = fun _ => 0) (hp8 : pn = 8) : Met l yX8_readPan wsX8_readPan ({ frames := 3, cells := 0, slots := 0, locals := 69 }) (q_P E [.ref px] f n) (q_Qv E (fun f1 n1 => pS E f px bk T pn rc (p_panS K Wd pn pN u) = f1 ∧ n = n1)) 0 0 (q_ge E) := by
  refine Met.ofW (cc := cX8_readPan) (maxL := 4) (ret := none) (by decide) rfl ?_
  intro p e s m args below meth c s₁ B hml hv
  obtain ⟨rfl, hA, hW⟩ := hv
  have hx := B.exec
  have hb := B.bytes
  have hr := B.returns
  have hts := atoms_spec (ws := wsX8_readPan) B.pre
  have hown : s.vm.findClass RX8 = some m.cls := findClass_of_methodNamed B.named
  have hlocks := B.notSynchronized
  have hS : va_S (q_ge E) s.heap s.heap [] := va_S.rf
  have iX10 : ∀ w ∈ wsX100, w ∈ wsX8_readPan := by decide +kernel
  have iX2 : ∀ w ∈ wsX20, w ∈ wsX8_readPan := by decide +kernel
  have iX8 : ∀ w ∈ wsX80, w ∈ wsX8_readPan := by decide +kernel
  have hl := lv_entry ([.ref px]) (n := 4) (Nat.le_of_ble_eq_true rfl)
  rw [lg_entry_eq]
  generalize (lg_sl ([.ref px]) ++ List.replicate (4 - (lg_sl ([.ref px])).length) Slot.unset).toArray = ls at hl ⊢
  have hl : lv_has ls 4 [(0, .ref px)] := hl
  rw [hp.eq] at hW
  refine lv_aload_n hx hb dX8_readPan_0 rfl (lv_at hl 0 rfl) ?_
  refine q_get hx hb hts hown hA hW iX8 pS_p rfl 0 (by decide) (hts (.fieldLink RX8 10 "HighRecipes$Parser" "tokens" "LHighRecipes$Tokens;") (by decide +kernel)) (fun _ h9 => h9) (v := .ref (px + 1)) rfl dX8_readPan_1 ?_
  refine va_gets (n := "PAN") (v := .ref (E.2.2.2 0)) hx hb (hA.2.2.1.1.1 0 (by decide)).1 hS hown (hts (.fieldLink RX8 35 "HighRecipes$Kind" "PAN" "LHighRecipes$Kind;") (by decide +kernel)) (fun _ h9 => h9) dX8_readPan_4 ?_
  refine q_cv (va_runV (As := [.ref (E.2.2.2 0)]) (rest := []) ⟨hx, hb, hml, hown, hts⟩ (kX10_take l E (pS E f px bk T pn rc u) n (px + 1) T u kk K 0 pS_t ((pS_out (by omega) (by omega) (by omega)).trans f2) (by assumption) (by assumption) (by assumption) (by assumption) hok (by first | assumption | decide)) (cwV 1 hts gX8_readPan_X10_take rfl rfl rfl (by decide +kernel) ⟨(Nat.le_of_ble_eq_true rfl), (Nat.le_of_ble_eq_true rfl)⟩) (q_pV hA hW hS (ci := 10) rfl pS_t) rfl rfl hl.1 rfl (lv_room (Nat.le_of_ble_eq_true rfl)) dX8_readPan_7 ⟨Nat.le_of_ble_eq_true rfl, Nat.le_of_ble_eq_true rfl⟩) hS (fun f_7 n_7 H locs hp hW hS => ?_)
  obtain ⟨rfl, rfl⟩ := hp
  have hW : q_W E (va_up (pS E f px bk T pn rc u) (px + 1) (some (cTS E (px + 1) T (p_take K 0 u)))) n H := hW
  have hW : q_W E (pS E f px bk T pn rc (p_take K 0 u)) n H := by rw [← pS_st (s := u) (s' := p_take K 0 u) rfl rfl]; exact hW
  have hok_7 : p_ok K T (p_take K 0 u) := hok.take hKT (by first | assumption | decide)
  have hW : q_W E (pS E f px bk T pn rc (p_take K 0 u)) n H := hW
  have ok7 : p_ok K T (p_take K 0 u) := hok.take hKT (by decide)
  refine lv_aload_n hx hb dX8_readPan_10 rfl (lv_at hl 0 rfl) ?_
  refine lv_aload_n hx hb dX8_readPan_11 rfl (lv_at hl 0 rfl) ?_
  refine q_get hx hb hts hown hA hW iX8 pS_p rfl 1 (by decide) (hts (.fieldLink RX8 19 "HighRecipes$Parser" "book" "LHighRecipes$Book;") (by decide +kernel)) (fun _ h9 => h9) (v := .ref bk) rfl dX8_readPan_12 ?_
  refine q_getN hx hb hts hown hA hW iX2 (pS_b hbk) rfl 4 (by decide) (va_Nw.use rfl (hA.2.2.2.1 ("HighRecipes$Parser", 78, "HighRecipes$Book", "panCount", "I", "HighRecipes") (by decide +kernel))) (fun _ h9 => h9) (v := .int (nI pn)) rfl dX8_readPan_15 ?_
  refine lv_bipush (v := 8) hx hb dX8_readPan_18 (by decide) ?_
  refine lv_icmp_lt (tgt := 27) hx hb dX8_readPan_20 (by decide) (fun c_20 => absurd c_20 (show ¬ nI pn < nI 8 from nI_nlt (by omega) (by omega))) (fun c_20 => ?_)
  refine lv_iconst (v := 1) hx hb dX8_readPan_23 (by decide) ?_
  refine lv_goto (tgt := 28) hx hb dX8_readPan_24 (by decide) ?_
  refine q_cl (va_runV (As := [.int 1]) (rest := []) ⟨hx, hb, hml, hown, hts⟩ (kX8_readNewName l E (pS E f px bk T pn rc (p_take K 0 u)) n px bk T pn rc (p_take K 0 u) kk wo pN rN K Wd true ((pS_out (by omega) (by omega) (by omega)).trans f2) ((pS_out (by omega) (by omega) (by omega)).trans f4) ((pS_out (by omega) (by omega) (by omega)).trans g1) ((pS_out (by omega) (by omega) (by omega)).trans g3) (pS_K hbk) (by assumption) (by omega) (by assumption) (by assumption) (by assumption) (by assumption) (by assumption) (by assumption) (by assumption) ok7) (cwV 1 hts gX8_readPan_X8_readNewName rfl rfl rfl (by decide +kernel) ⟨(Nat.le_of_ble_eq_true rfl), (Nat.le_of_ble_eq_true rfl)⟩) (q_pV hA hW hS (ci := 8) rfl pS_p) rfl rfl hl.1 rfl (lv_room (Nat.le_of_ble_eq_true rfl)) dX8_readPan_28 ⟨Nat.le_of_ble_eq_true rfl, Nat.le_of_ble_eq_true rfl⟩) hS (fun r_28 f_28 n_28 H locs hp hW hS => ?_)
  obtain ⟨rfl, rfl, rfl⟩ := hp
  rw [pS_pS] at hW
  have hok_28 : p_ok K T (p_newn K Wd pN pn rN rc true (p_take K 0 u)) := ok7.newn hKT
  have hW : q_W E (pS E f px bk T pn rc (p_newn K Wd pN pn rN rc true (p_take K 0 u))) n H := hW
  refine lv_lstore_n (lv' := [(1, .long (Wd (p_take K 0 u).1)), (0, .ref px)]) hx hb dX8_readPan_31 rfl hl (by decide) rfl (fun ls hl => ?_)
  refine lv_aload_n hx hb dX8_readPan_32 rfl (lv_at hl 1 rfl) ?_
  refine q_get hx hb hts hown hA hW iX8 pS_p rfl 0 (by decide) (hts (.fieldLink RX8 10 "HighRecipes$Parser" "tokens" "LHighRecipes$Tokens;") (by decide +kernel)) (fun _ h9 => h9) (v := .ref (px + 1)) rfl dX8_readPan_33 ?_
  refine va_gets (n := "HOLDS") (v := .ref (E.2.2.2 1)) hx hb (hA.2.2.1.1.1 1 (by decide)).1 hS hown (hts (.fieldLink RX8 81 "HighRecipes$Kind" "HOLDS" "LHighRecipes$Kind;") (by decide +kernel)) (fun _ h9 => h9) dX8_readPan_36 ?_
  refine q_cv (va_runV (As := [.ref (E.2.2.2 1)]) (rest := []) ⟨hx, hb, hml, hown, hts⟩ (kX10_take l E (pS E f px bk T pn rc (p_newn K Wd pN pn rN rc true (p_take K 0 u))) n (px + 1) T (p_newn K Wd pN pn rN rc true (p_take K 0 u)) kk K 1 pS_t ((pS_out (by omega) (by omega) (by omega)).trans f2) (by assumption) (by assumption) (by assumption) (by assumption) hok_28 (by first | assumption | decide)) (cwV 1 hts gX8_readPan_X10_take rfl rfl rfl (by decide +kernel) ⟨(Nat.le_of_ble_eq_true rfl), (Nat.le_of_ble_eq_true rfl)⟩) (q_pV hA hW hS (ci := 10) rfl pS_t) rfl rfl hl.1 rfl (lv_room (Nat.le_of_ble_eq_true rfl)) dX8_readPan_39 ⟨Nat.le_of_ble_eq_true rfl, Nat.le_of_ble_eq_true rfl⟩) hS (fun f_39 n_39 H locs hp hW hS => ?_)
  obtain ⟨rfl, rfl⟩ := hp
  have hW : q_W E (va_up (pS E f px bk T pn rc (p_newn K Wd pN pn rN rc true (p_take K 0 u))) (px + 1) (some (cTS E (px + 1) T (p_take K 1 (p_newn K Wd pN pn rN rc true (p_take K 0 u)))))) n H := hW
  have hW : q_W E (pS E f px bk T pn rc (p_take K 1 (p_newn K Wd pN pn rN rc true (p_take K 0 u)))) n H := by rw [← pS_st (s := p_newn K Wd pN pn rN rc true (p_take K 0 u)) (s' := p_take K 1 (p_newn K Wd pN pn rN rc true (p_take K 0 u))) rfl rfl]; exact hW
  have hok_39 : p_ok K T (p_take K 1 (p_newn K Wd pN pn rN rc true (p_take K 0 u))) := hok_28.take hKT (by first | assumption | decide)
  have hW : q_W E (pS E f px bk T pn rc (p_take K 1 (p_newn K Wd pN pn rN rc true (p_take K 0 u)))) n H := hW
  have ok39 : p_ok K T (p_hold K Wd pn pN u) := (go_hold hKT hok).1
  have e39 : p_take K 1 (p_newn K Wd pN pn rN rc true (p_take K 0 u)) = p_hold K Wd pn pN u := by unfold p_hold; rw [h0, hr0, decide_eq_true (show 8 ≤ pn by omega)]
  rw [e39] at hW
  have hk39 : (p_hold K Wd pn pN u).2.1 < 41 := by rcases ok39.2.1 with h9 | h9 <;> rw [h9]; decide; exact hK41 _
  refine lv_aload_n hx hb dX8_readPan_42 rfl (lv_at hl 1 rfl) ?_
  refine q_get hx hb hts hown hA hW iX8 pS_p rfl 0 (by decide) (hts (.fieldLink RX8 10 "HighRecipes$Parser" "tokens" "LHighRecipes$Tokens;") (by decide +kernel)) (fun _ h9 => h9) (v := .ref (px + 1)) rfl dX8_readPan_43 ?_
  refine q_cl (va_runV (As := []) (rest := []) ⟨hx, hb, hml, hown, hts⟩ (kX10_worth l E (pS E f px bk T pn rc (p_hold K Wd pn pN u)) n (px + 1) wo (nI (T + 1)) ((p_hold K Wd pn pN u).1) ((p_hold K Wd pn pN u).2.1) pS_t ((pS_out (by omega) (by omega) (by omega)).trans f4) (by have := ok39.1; omega)) (cwV 0 hts gX8_readPan_X10_worth rfl rfl rfl (by decide +kernel) ⟨(Nat.le_of_ble_eq_true rfl), (Nat.le_of_ble_eq_true rfl)⟩) (q_pV hA hW hS (ci := 10) rfl pS_t) rfl rfl hl.1 rfl (lv_room (Nat.le_of_ble_eq_true rfl)) dX8_readPan_46 ⟨Nat.le_of_ble_eq_true rfl, Nat.le_of_ble_eq_true rfl⟩) hS (fun r_46 f_46 n_46 H locs hp hW hS => ?_)
  obtain ⟨rfl, rfl, rfl⟩ := hp
  have hW : q_W E (pS E f px bk T pn rc (p_hold K Wd pn pN u)) n H := hW
  rw [hWd _ ok39.1]
  refine lv_l2i hx hb dX8_readPan_49 rfl ?_
  refine lv_istore_n (lv' := [(3, .int (p_panX K Wd pn pN u)), (1, .long (Wd (p_take K 0 u).1)), (0, .ref px)]) hx hb dX8_readPan_50 rfl hl (by decide) rfl (fun ls hl => ?_)
  refine lv_aload_n hx hb dX8_readPan_51 rfl (lv_at hl 2 rfl) ?_
  refine q_get hx hb hts hown hA hW iX8 pS_p rfl 0 (by decide) (hts (.fieldLink RX8 10 "HighRecipes$Parser" "tokens" "LHighRecipes$Tokens;") (by decide +kernel)) (fun _ h9 => h9) (v := .ref (px + 1)) rfl dX8_readPan_52 ?_
  refine q_getN hx hb hts hown hA hW iX10 pS_t rfl 5 (by decide) (va_Nw.use rfl (hA.2.2.2.1 ("HighRecipes$Parser", 31, "HighRecipes$Tokens", "kind", "LHighRecipes$Kind;", "HighRecipes") (by decide +kernel))) (fun _ h9 => h9) (v := .ref (E.2.2.2 ((p_hold K Wd pn pN u)).2.1)) rfl dX8_readPan_55 ?_
  refine va_gets (n := "NUMBER") (v := .ref (E.2.2.2 38)) hx hb (hA.2.2.1.1.1 38 (by decide)).1 hS hown (hts (.fieldLink RX8 88 "HighRecipes$Kind" "NUMBER" "LHighRecipes$Kind;") (by decide +kernel)) (fun _ h9 => h9) dX8_readPan_58 ?_
  refine lv_acmp_ne (rx := (some (E.2.2.2 ((p_hold K Wd pn pN u)).2.1))) (ry := (some (E.2.2.2 38))) (tgt := 81) hx hb dX8_readPan_61 (by decide) (fun c_61 => ?_) (fun c_61 => ?_)
  · have e61 : ¬ (p_hold K Wd pn pN u).2.1 = 38 := fun h9 => c_61 (by rw [h9])
    have eC : (decide ((p_hold K Wd pn pN u).2.1 = 38) && (decide (p_panX K Wd pn pN u < 1) || decide (200 < p_panX K Wd pn pN u))) = false := by rw [decide_eq_false e61]; rfl
    refine lv_aload_n hx hb dX8_readPan_81 rfl (lv_at hl 2 rfl) ?_
    refine q_get hx hb hts hown hA hW iX8 pS_p rfl 0 (by decide) (hts (.fieldLink RX8 10 "HighRecipes$Parser" "tokens" "LHighRecipes$Tokens;") (by decide +kernel)) (fun _ h9 => h9) (v := .ref (px + 1)) rfl dX8_readPan_82 ?_
    refine va_gets (n := "NUMBER") (v := .ref (E.2.2.2 38)) hx hb (hA.2.2.1.1.1 38 (by decide)).1 hS hown (hts (.fieldLink RX8 88 "HighRecipes$Kind" "NUMBER" "LHighRecipes$Kind;") (by decide +kernel)) (fun _ h9 => h9) dX8_readPan_85 ?_
    refine q_cv (va_runV (As := [.ref (E.2.2.2 38)]) (rest := []) ⟨hx, hb, hml, hown, hts⟩ (kX10_take l E (pS E f px bk T pn rc (p_hold K Wd pn pN u)) n (px + 1) T (p_hold K Wd pn pN u) kk K 38 pS_t ((pS_out (by omega) (by omega) (by omega)).trans f2) (by assumption) (by assumption) (by assumption) (by assumption) ok39 (by first | assumption | decide)) (cwV 1 hts gX8_readPan_X10_take rfl rfl rfl (by decide +kernel) ⟨(Nat.le_of_ble_eq_true rfl), (Nat.le_of_ble_eq_true rfl)⟩) (q_pV hA hW hS (ci := 10) rfl pS_t) rfl rfl hl.1 rfl (lv_room (Nat.le_of_ble_eq_true rfl)) dX8_readPan_88 ⟨Nat.le_of_ble_eq_true rfl, Nat.le_of_ble_eq_true rfl⟩) hS (fun f_88 n_88 H locs hp hW hS => ?_)
    obtain ⟨rfl, rfl⟩ := hp
    have hW : q_W E (va_up (pS E f px bk T pn rc (p_hold K Wd pn pN u)) (px + 1) (some (cTS E (px + 1) T (p_take K 38 (p_hold K Wd pn pN u))))) n H := hW
    have hW : q_W E (pS E f px bk T pn rc (p_take K 38 (p_hold K Wd pn pN u))) n H := by rw [← pS_st (s := p_hold K Wd pn pN u) (s' := p_take K 38 (p_hold K Wd pn pN u)) rfl rfl]; exact hW
    have hok_88 : p_ok K T (p_take K 38 (p_hold K Wd pn pN u)) := ok39.take hKT (by first | assumption | decide)
    have hW : q_W E (pS E f px bk T pn rc (p_take K 38 (p_hold K Wd pn pN u))) n H := hW
    refine lv_aload_n hx hb dX8_readPan_91 rfl (lv_at hl 2 rfl) ?_
    refine q_get hx hb hts hown hA hW iX8 pS_p rfl 0 (by decide) (hts (.fieldLink RX8 10 "HighRecipes$Parser" "tokens" "LHighRecipes$Tokens;") (by decide +kernel)) (fun _ h9 => h9) (v := .ref (px + 1)) rfl dX8_readPan_92 ?_
    refine va_gets (n := "SEMICOLON") (v := .ref (E.2.2.2 29)) hx hb (hA.2.2.1.1.1 29 (by decide)).1 hS hown (hts (.fieldLink RX8 95 "HighRecipes$Kind" "SEMICOLON" "LHighRecipes$Kind;") (by decide +kernel)) (fun _ h9 => h9) dX8_readPan_95 ?_
    refine q_cv (va_runV (As := [.ref (E.2.2.2 29)]) (rest := []) ⟨hx, hb, hml, hown, hts⟩ (kX10_take l E (pS E f px bk T pn rc (p_take K 38 (p_hold K Wd pn pN u))) n (px + 1) T (p_take K 38 (p_hold K Wd pn pN u)) kk K 29 pS_t ((pS_out (by omega) (by omega) (by omega)).trans f2) (by assumption) (by assumption) (by assumption) (by assumption) hok_88 (by first | assumption | decide)) (cwV 1 hts gX8_readPan_X10_take rfl rfl rfl (by decide +kernel) ⟨(Nat.le_of_ble_eq_true rfl), (Nat.le_of_ble_eq_true rfl)⟩) (q_pV hA hW hS (ci := 10) rfl pS_t) rfl rfl hl.1 rfl (lv_room (Nat.le_of_ble_eq_true rfl)) dX8_readPan_98 ⟨Nat.le_of_ble_eq_true rfl, Nat.le_of_ble_eq_true rfl⟩) hS (fun f_98 n_98 H locs hp hW hS => ?_)
    obtain ⟨rfl, rfl⟩ := hp
    have hW : q_W E (va_up (pS E f px bk T pn rc (p_take K 38 (p_hold K Wd pn pN u))) (px + 1) (some (cTS E (px + 1) T (p_take K 29 (p_take K 38 (p_hold K Wd pn pN u)))))) n H := hW
    have hW : q_W E (pS E f px bk T pn rc (p_take K 29 (p_take K 38 (p_hold K Wd pn pN u)))) n H := by rw [← pS_st (s := p_take K 38 (p_hold K Wd pn pN u)) (s' := p_take K 29 (p_take K 38 (p_hold K Wd pn pN u))) rfl rfl]; exact hW
    have hok_98 : p_ok K T (p_take K 29 (p_take K 38 (p_hold K Wd pn pN u))) := hok_88.take hKT (by first | assumption | decide)
    have hW : q_W E (pS E f px bk T pn rc (p_take K 29 (p_take K 38 (p_hold K Wd pn pN u)))) n H := hW
    refine lv_aload_n hx hb dX8_readPan_101 rfl (lv_at hl 2 rfl) ?_
    refine q_get hx hb hts hown hA hW iX8 pS_p rfl 1 (by decide) (hts (.fieldLink RX8 19 "HighRecipes$Parser" "book" "LHighRecipes$Book;") (by decide +kernel)) (fun _ h9 => h9) (v := .ref bk) rfl dX8_readPan_102 ?_
    refine lv_lload_n hx hb dX8_readPan_105 rfl (lv_at hl 1 rfl) ?_
    refine lv_iload_n hx hb dX8_readPan_106 rfl (lv_at hl 0 rfl) ?_
    refine q_cv (va_runV (As := [.long (Wd (p_take K 0 u).1), .int (p_panX K Wd pn pN u)]) (rest := []) ⟨hx, hb, hml, hown, hts⟩ (kX2_addPanF l E (pS E f px bk T pn rc (p_take K 29 (p_take K 38 (p_hold K Wd pn pN u)))) n bk (nI rc) (nI (p_take K 29 (p_take K 38 (p_hold K Wd pn pN u))).2.2.2.2.1) pN (Wd (p_take K 0 u).1) (p_panX K Wd pn pN u) ((pS_b hbk).trans (by rw [hp8]; rfl)) ((pS_out (by omega) (by omega) (by omega)).trans g1)) (cwV 2 hts gX8_readPan_X2_addPan rfl rfl rfl (by decide +kernel) ⟨(Nat.le_of_ble_eq_true rfl), (Nat.le_of_ble_eq_true rfl)⟩) (q_pV hA hW hS (ci := 3) rfl (pS_b hbk)) rfl rfl hl.1 rfl (lv_room (Nat.le_of_ble_eq_true rfl)) dX8_readPan_107 ⟨Nat.le_of_ble_eq_true rfl, Nat.le_of_ble_eq_true rfl⟩) hS (fun f_107 n_107 H locs hp hW hS => ?_)
    obtain ⟨rfl, rfl⟩ := hp
    have eS : p_take K 29 (p_take K 38 (p_hold K Wd pn pN u)) = p_panS K Wd pn pN u := by unfold p_panS; rw [eC]; try rfl
    rw [eS] at hW
    exact q_vret hx hb hr hlocks hW hS ⟨rfl, rfl⟩ (Nat.le_of_ble_eq_true rfl) (Nat.le_of_ble_eq_true rfl) dX8_readPan_110
  · have e61 : (p_hold K Wd pn pN u).2.1 = 38 := q_kinj hA hk39 (by decide) c_61
    refine lv_iload_n hx hb dX8_readPan_64 rfl (lv_at hl 0 rfl) ?_
    refine lv_iconst (v := 1) hx hb dX8_readPan_65 (by decide) ?_
    refine lv_icmp_lt (tgt := 76) hx hb dX8_readPan_66 (by decide) (fun c_66 => ?_) (fun c_66 => ?_)
    · have eC : (decide ((p_hold K Wd pn pN u).2.1 = 38) && (decide (p_panX K Wd pn pN u < 1) || decide (200 < p_panX K Wd pn pN u))) = true := by rw [decide_eq_true e61, decide_eq_true (show p_panX K Wd pn pN u < 1 from c_66)]; rfl
      refine lv_aload_n hx hb dX8_readPan_76 rfl (lv_at hl 2 rfl) ?_
      refine lv_iconst (v := 5) hx hb dX8_readPan_77 (by decide) ?_
      refine q_cv (va_runV (As := [.int 5]) (rest := []) ⟨hx, hb, hml, hown, hts⟩ (kX8_complain l E (pS E f px bk T pn rc (p_hold K Wd pn pN u)) n px bk T pn rc (p_hold K Wd pn pN u) kk wo pN rN K Wd 5 ((pS_out (by omega) (by omega) (by omega)).trans f2) ((pS_out (by omega) (by omega) (by omega)).trans f4) ((pS_out (by omega) (by omega) (by omega)).trans g1) ((pS_out (by omega) (by omega) (by omega)).trans g3) (pS_K hbk) (by assumption) (by omega) (by assumption) (by assumption) (by assumption) (by assumption) (by assumption) (by assumption) (by assumption) ok39.2.2.1) (cwV 1 hts gX8_readPan_X8_complain rfl rfl rfl (by decide +kernel) ⟨(Nat.le_of_ble_eq_true rfl), (Nat.le_of_ble_eq_true rfl)⟩) (q_pV hA hW hS (ci := 8) rfl pS_p) rfl rfl hl.1 rfl (lv_room (Nat.le_of_ble_eq_true rfl)) dX8_readPan_78 ⟨Nat.le_of_ble_eq_true rfl, Nat.le_of_ble_eq_true rfl⟩) hS (fun f_78 n_78 H locs hp hW hS => ?_)
      obtain ⟨rfl, rfl⟩ := hp
      rw [pS_pS] at hW
      have hW : q_W E (pS E f px bk T pn rc (p_ci true 5 (p_hold K Wd pn pN u))) n H := hW
      have ok78 : p_ok K T (p_ci true 5 (p_hold K Wd pn pN u)) := ok39.ci (by decide)
      refine lv_aload_n hx hb dX8_readPan_81 rfl (lv_at hl 2 rfl) ?_
      refine q_get hx hb hts hown hA hW iX8 pS_p rfl 0 (by decide) (hts (.fieldLink RX8 10 "HighRecipes$Parser" "tokens" "LHighRecipes$Tokens;") (by decide +kernel)) (fun _ h9 => h9) (v := .ref (px + 1)) rfl dX8_readPan_82 ?_
      refine va_gets (n := "NUMBER") (v := .ref (E.2.2.2 38)) hx hb (hA.2.2.1.1.1 38 (by decide)).1 hS hown (hts (.fieldLink RX8 88 "HighRecipes$Kind" "NUMBER" "LHighRecipes$Kind;") (by decide +kernel)) (fun _ h9 => h9) dX8_readPan_85 ?_
      refine q_cv (va_runV (As := [.ref (E.2.2.2 38)]) (rest := []) ⟨hx, hb, hml, hown, hts⟩ (kX10_take l E (pS E f px bk T pn rc (p_ci true 5 (p_hold K Wd pn pN u))) n (px + 1) T (p_ci true 5 (p_hold K Wd pn pN u)) kk K 38 pS_t ((pS_out (by omega) (by omega) (by omega)).trans f2) (by assumption) (by assumption) (by assumption) (by assumption) ok78 (by first | assumption | decide)) (cwV 1 hts gX8_readPan_X10_take rfl rfl rfl (by decide +kernel) ⟨(Nat.le_of_ble_eq_true rfl), (Nat.le_of_ble_eq_true rfl)⟩) (q_pV hA hW hS (ci := 10) rfl pS_t) rfl rfl hl.1 rfl (lv_room (Nat.le_of_ble_eq_true rfl)) dX8_readPan_88 ⟨Nat.le_of_ble_eq_true rfl, Nat.le_of_ble_eq_true rfl⟩) hS (fun f_88 n_88 H locs hp hW hS => ?_)
      obtain ⟨rfl, rfl⟩ := hp
      have hW : q_W E (va_up (pS E f px bk T pn rc (p_ci true 5 (p_hold K Wd pn pN u))) (px + 1) (some (cTS E (px + 1) T (p_take K 38 (p_ci true 5 (p_hold K Wd pn pN u)))))) n H := hW
      have hW : q_W E (pS E f px bk T pn rc (p_take K 38 (p_ci true 5 (p_hold K Wd pn pN u)))) n H := by rw [← pS_st (s := p_ci true 5 (p_hold K Wd pn pN u)) (s' := p_take K 38 (p_ci true 5 (p_hold K Wd pn pN u))) rfl rfl]; exact hW
      have hok_88 : p_ok K T (p_take K 38 (p_ci true 5 (p_hold K Wd pn pN u))) := ok78.take hKT (by first | assumption | decide)
      have hW : q_W E (pS E f px bk T pn rc (p_take K 38 (p_ci true 5 (p_hold K Wd pn pN u)))) n H := hW
      refine lv_aload_n hx hb dX8_readPan_91 rfl (lv_at hl 2 rfl) ?_
      refine q_get hx hb hts hown hA hW iX8 pS_p rfl 0 (by decide) (hts (.fieldLink RX8 10 "HighRecipes$Parser" "tokens" "LHighRecipes$Tokens;") (by decide +kernel)) (fun _ h9 => h9) (v := .ref (px + 1)) rfl dX8_readPan_92 ?_
      refine va_gets (n := "SEMICOLON") (v := .ref (E.2.2.2 29)) hx hb (hA.2.2.1.1.1 29 (by decide)).1 hS hown (hts (.fieldLink RX8 95 "HighRecipes$Kind" "SEMICOLON" "LHighRecipes$Kind;") (by decide +kernel)) (fun _ h9 => h9) dX8_readPan_95 ?_
      refine q_cv (va_runV (As := [.ref (E.2.2.2 29)]) (rest := []) ⟨hx, hb, hml, hown, hts⟩ (kX10_take l E (pS E f px bk T pn rc (p_take K 38 (p_ci true 5 (p_hold K Wd pn pN u)))) n (px + 1) T (p_take K 38 (p_ci true 5 (p_hold K Wd pn pN u))) kk K 29 pS_t ((pS_out (by omega) (by omega) (by omega)).trans f2) (by assumption) (by assumption) (by assumption) (by assumption) hok_88 (by first | assumption | decide)) (cwV 1 hts gX8_readPan_X10_take rfl rfl rfl (by decide +kernel) ⟨(Nat.le_of_ble_eq_true rfl), (Nat.le_of_ble_eq_true rfl)⟩) (q_pV hA hW hS (ci := 10) rfl pS_t) rfl rfl hl.1 rfl (lv_room (Nat.le_of_ble_eq_true rfl)) dX8_readPan_98 ⟨Nat.le_of_ble_eq_true rfl, Nat.le_of_ble_eq_true rfl⟩) hS (fun f_98 n_98 H locs hp hW hS => ?_)
      obtain ⟨rfl, rfl⟩ := hp
      have hW : q_W E (va_up (pS E f px bk T pn rc (p_take K 38 (p_ci true 5 (p_hold K Wd pn pN u)))) (px + 1) (some (cTS E (px + 1) T (p_take K 29 (p_take K 38 (p_ci true 5 (p_hold K Wd pn pN u))))))) n H := hW
      have hW : q_W E (pS E f px bk T pn rc (p_take K 29 (p_take K 38 (p_ci true 5 (p_hold K Wd pn pN u))))) n H := by rw [← pS_st (s := p_take K 38 (p_ci true 5 (p_hold K Wd pn pN u))) (s' := p_take K 29 (p_take K 38 (p_ci true 5 (p_hold K Wd pn pN u)))) rfl rfl]; exact hW
      have hok_98 : p_ok K T (p_take K 29 (p_take K 38 (p_ci true 5 (p_hold K Wd pn pN u)))) := hok_88.take hKT (by first | assumption | decide)
      have hW : q_W E (pS E f px bk T pn rc (p_take K 29 (p_take K 38 (p_ci true 5 (p_hold K Wd pn pN u))))) n H := hW
      refine lv_aload_n hx hb dX8_readPan_101 rfl (lv_at hl 2 rfl) ?_
      refine q_get hx hb hts hown hA hW iX8 pS_p rfl 1 (by decide) (hts (.fieldLink RX8 19 "HighRecipes$Parser" "book" "LHighRecipes$Book;") (by decide +kernel)) (fun _ h9 => h9) (v := .ref bk) rfl dX8_readPan_102 ?_
      refine lv_lload_n hx hb dX8_readPan_105 rfl (lv_at hl 1 rfl) ?_
      refine lv_iload_n hx hb dX8_readPan_106 rfl (lv_at hl 0 rfl) ?_
      refine q_cv (va_runV (As := [.long (Wd (p_take K 0 u).1), .int (p_panX K Wd pn pN u)]) (rest := []) ⟨hx, hb, hml, hown, hts⟩ (kX2_addPanF l E (pS E f px bk T pn rc (p_take K 29 (p_take K 38 (p_ci true 5 (p_hold K Wd pn pN u))))) n bk (nI rc) (nI (p_take K 29 (p_take K 38 (p_ci true 5 (p_hold K Wd pn pN u)))).2.2.2.2.1) pN (Wd (p_take K 0 u).1) (p_panX K Wd pn pN u) ((pS_b hbk).trans (by rw [hp8]; rfl)) ((pS_out (by omega) (by omega) (by omega)).trans g1)) (cwV 2 hts gX8_readPan_X2_addPan rfl rfl rfl (by decide +kernel) ⟨(Nat.le_of_ble_eq_true rfl), (Nat.le_of_ble_eq_true rfl)⟩) (q_pV hA hW hS (ci := 3) rfl (pS_b hbk)) rfl rfl hl.1 rfl (lv_room (Nat.le_of_ble_eq_true rfl)) dX8_readPan_107 ⟨Nat.le_of_ble_eq_true rfl, Nat.le_of_ble_eq_true rfl⟩) hS (fun f_107 n_107 H locs hp hW hS => ?_)
      obtain ⟨rfl, rfl⟩ := hp
      have eS : p_take K 29 (p_take K 38 (p_ci true 5 (p_hold K Wd pn pN u))) = p_panS K Wd pn pN u := by unfold p_panS; rw [eC]; try rfl
      rw [eS] at hW
      exact q_vret hx hb hr hlocks hW hS ⟨rfl, rfl⟩ (Nat.le_of_ble_eq_true rfl) (Nat.le_of_ble_eq_true rfl) dX8_readPan_110
    · have e66 : ¬ p_panX K Wd pn pN u < 1 := c_66
      refine lv_iload_n hx hb dX8_readPan_69 rfl (lv_at hl 0 rfl) ?_
      refine lv_sipush (v := 200) hx hb dX8_readPan_70 (by decide) ?_
      refine lv_icmp_le (tgt := 81) hx hb dX8_readPan_73 (by decide) (fun c_73 => ?_) (fun c_73 => ?_)
      · have eC : (decide ((p_hold K Wd pn pN u).2.1 = 38) && (decide (p_panX K Wd pn pN u < 1) || decide (200 < p_panX K Wd pn pN u))) = false := by rw [decide_eq_true e61, decide_eq_false e66, decide_eq_false (Int32.not_lt.mpr c_73)]; rfl
        refine lv_aload_n hx hb dX8_readPan_81 rfl (lv_at hl 2 rfl) ?_
        refine q_get hx hb hts hown hA hW iX8 pS_p rfl 0 (by decide) (hts (.fieldLink RX8 10 "HighRecipes$Parser" "tokens" "LHighRecipes$Tokens;") (by decide +kernel)) (fun _ h9 => h9) (v := .ref (px + 1)) rfl dX8_readPan_82 ?_
        refine va_gets (n := "NUMBER") (v := .ref (E.2.2.2 38)) hx hb (hA.2.2.1.1.1 38 (by decide)).1 hS hown (hts (.fieldLink RX8 88 "HighRecipes$Kind" "NUMBER" "LHighRecipes$Kind;") (by decide +kernel)) (fun _ h9 => h9) dX8_readPan_85 ?_
        refine q_cv (va_runV (As := [.ref (E.2.2.2 38)]) (rest := []) ⟨hx, hb, hml, hown, hts⟩ (kX10_take l E (pS E f px bk T pn rc (p_hold K Wd pn pN u)) n (px + 1) T (p_hold K Wd pn pN u) kk K 38 pS_t ((pS_out (by omega) (by omega) (by omega)).trans f2) (by assumption) (by assumption) (by assumption) (by assumption) ok39 (by first | assumption | decide)) (cwV 1 hts gX8_readPan_X10_take rfl rfl rfl (by decide +kernel) ⟨(Nat.le_of_ble_eq_true rfl), (Nat.le_of_ble_eq_true rfl)⟩) (q_pV hA hW hS (ci := 10) rfl pS_t) rfl rfl hl.1 rfl (lv_room (Nat.le_of_ble_eq_true rfl)) dX8_readPan_88 ⟨Nat.le_of_ble_eq_true rfl, Nat.le_of_ble_eq_true rfl⟩) hS (fun f_88 n_88 H locs hp hW hS => ?_)
        obtain ⟨rfl, rfl⟩ := hp
        have hW : q_W E (va_up (pS E f px bk T pn rc (p_hold K Wd pn pN u)) (px + 1) (some (cTS E (px + 1) T (p_take K 38 (p_hold K Wd pn pN u))))) n H := hW
        have hW : q_W E (pS E f px bk T pn rc (p_take K 38 (p_hold K Wd pn pN u))) n H := by rw [← pS_st (s := p_hold K Wd pn pN u) (s' := p_take K 38 (p_hold K Wd pn pN u)) rfl rfl]; exact hW
        have hok_88 : p_ok K T (p_take K 38 (p_hold K Wd pn pN u)) := ok39.take hKT (by first | assumption | decide)
        have hW : q_W E (pS E f px bk T pn rc (p_take K 38 (p_hold K Wd pn pN u))) n H := hW
        refine lv_aload_n hx hb dX8_readPan_91 rfl (lv_at hl 2 rfl) ?_
        refine q_get hx hb hts hown hA hW iX8 pS_p rfl 0 (by decide) (hts (.fieldLink RX8 10 "HighRecipes$Parser" "tokens" "LHighRecipes$Tokens;") (by decide +kernel)) (fun _ h9 => h9) (v := .ref (px + 1)) rfl dX8_readPan_92 ?_
        refine va_gets (n := "SEMICOLON") (v := .ref (E.2.2.2 29)) hx hb (hA.2.2.1.1.1 29 (by decide)).1 hS hown (hts (.fieldLink RX8 95 "HighRecipes$Kind" "SEMICOLON" "LHighRecipes$Kind;") (by decide +kernel)) (fun _ h9 => h9) dX8_readPan_95 ?_
        refine q_cv (va_runV (As := [.ref (E.2.2.2 29)]) (rest := []) ⟨hx, hb, hml, hown, hts⟩ (kX10_take l E (pS E f px bk T pn rc (p_take K 38 (p_hold K Wd pn pN u))) n (px + 1) T (p_take K 38 (p_hold K Wd pn pN u)) kk K 29 pS_t ((pS_out (by omega) (by omega) (by omega)).trans f2) (by assumption) (by assumption) (by assumption) (by assumption) hok_88 (by first | assumption | decide)) (cwV 1 hts gX8_readPan_X10_take rfl rfl rfl (by decide +kernel) ⟨(Nat.le_of_ble_eq_true rfl), (Nat.le_of_ble_eq_true rfl)⟩) (q_pV hA hW hS (ci := 10) rfl pS_t) rfl rfl hl.1 rfl (lv_room (Nat.le_of_ble_eq_true rfl)) dX8_readPan_98 ⟨Nat.le_of_ble_eq_true rfl, Nat.le_of_ble_eq_true rfl⟩) hS (fun f_98 n_98 H locs hp hW hS => ?_)
        obtain ⟨rfl, rfl⟩ := hp
        have hW : q_W E (va_up (pS E f px bk T pn rc (p_take K 38 (p_hold K Wd pn pN u))) (px + 1) (some (cTS E (px + 1) T (p_take K 29 (p_take K 38 (p_hold K Wd pn pN u)))))) n H := hW
        have hW : q_W E (pS E f px bk T pn rc (p_take K 29 (p_take K 38 (p_hold K Wd pn pN u)))) n H := by rw [← pS_st (s := p_take K 38 (p_hold K Wd pn pN u)) (s' := p_take K 29 (p_take K 38 (p_hold K Wd pn pN u))) rfl rfl]; exact hW
        have hok_98 : p_ok K T (p_take K 29 (p_take K 38 (p_hold K Wd pn pN u))) := hok_88.take hKT (by first | assumption | decide)
        have hW : q_W E (pS E f px bk T pn rc (p_take K 29 (p_take K 38 (p_hold K Wd pn pN u)))) n H := hW
        refine lv_aload_n hx hb dX8_readPan_101 rfl (lv_at hl 2 rfl) ?_
        refine q_get hx hb hts hown hA hW iX8 pS_p rfl 1 (by decide) (hts (.fieldLink RX8 19 "HighRecipes$Parser" "book" "LHighRecipes$Book;") (by decide +kernel)) (fun _ h9 => h9) (v := .ref bk) rfl dX8_readPan_102 ?_
        refine lv_lload_n hx hb dX8_readPan_105 rfl (lv_at hl 1 rfl) ?_
        refine lv_iload_n hx hb dX8_readPan_106 rfl (lv_at hl 0 rfl) ?_
        refine q_cv (va_runV (As := [.long (Wd (p_take K 0 u).1), .int (p_panX K Wd pn pN u)]) (rest := []) ⟨hx, hb, hml, hown, hts⟩ (kX2_addPanF l E (pS E f px bk T pn rc (p_take K 29 (p_take K 38 (p_hold K Wd pn pN u)))) n bk (nI rc) (nI (p_take K 29 (p_take K 38 (p_hold K Wd pn pN u))).2.2.2.2.1) pN (Wd (p_take K 0 u).1) (p_panX K Wd pn pN u) ((pS_b hbk).trans (by rw [hp8]; rfl)) ((pS_out (by omega) (by omega) (by omega)).trans g1)) (cwV 2 hts gX8_readPan_X2_addPan rfl rfl rfl (by decide +kernel) ⟨(Nat.le_of_ble_eq_true rfl), (Nat.le_of_ble_eq_true rfl)⟩) (q_pV hA hW hS (ci := 3) rfl (pS_b hbk)) rfl rfl hl.1 rfl (lv_room (Nat.le_of_ble_eq_true rfl)) dX8_readPan_107 ⟨Nat.le_of_ble_eq_true rfl, Nat.le_of_ble_eq_true rfl⟩) hS (fun f_107 n_107 H locs hp hW hS => ?_)
        obtain ⟨rfl, rfl⟩ := hp
        have eS : p_take K 29 (p_take K 38 (p_hold K Wd pn pN u)) = p_panS K Wd pn pN u := by unfold p_panS; rw [eC]; try rfl
        rw [eS] at hW
        exact q_vret hx hb hr hlocks hW hS ⟨rfl, rfl⟩ (Nat.le_of_ble_eq_true rfl) (Nat.le_of_ble_eq_true rfl) dX8_readPan_110
      · have eC : (decide ((p_hold K Wd pn pN u).2.1 = 38) && (decide (p_panX K Wd pn pN u < 1) || decide (200 < p_panX K Wd pn pN u))) = true := by rw [decide_eq_true e61, decide_eq_true (Int32.not_le.mp c_73)]; exact Bool.or_true _
        refine lv_aload_n hx hb dX8_readPan_76 rfl (lv_at hl 2 rfl) ?_
        refine lv_iconst (v := 5) hx hb dX8_readPan_77 (by decide) ?_
        refine q_cv (va_runV (As := [.int 5]) (rest := []) ⟨hx, hb, hml, hown, hts⟩ (kX8_complain l E (pS E f px bk T pn rc (p_hold K Wd pn pN u)) n px bk T pn rc (p_hold K Wd pn pN u) kk wo pN rN K Wd 5 ((pS_out (by omega) (by omega) (by omega)).trans f2) ((pS_out (by omega) (by omega) (by omega)).trans f4) ((pS_out (by omega) (by omega) (by omega)).trans g1) ((pS_out (by omega) (by omega) (by omega)).trans g3) (pS_K hbk) (by assumption) (by omega) (by assumption) (by assumption) (by assumption) (by assumption) (by assumption) (by assumption) (by assumption) ok39.2.2.1) (cwV 1 hts gX8_readPan_X8_complain rfl rfl rfl (by decide +kernel) ⟨(Nat.le_of_ble_eq_true rfl), (Nat.le_of_ble_eq_true rfl)⟩) (q_pV hA hW hS (ci := 8) rfl pS_p) rfl rfl hl.1 rfl (lv_room (Nat.le_of_ble_eq_true rfl)) dX8_readPan_78 ⟨Nat.le_of_ble_eq_true rfl, Nat.le_of_ble_eq_true rfl⟩) hS (fun f_78 n_78 H locs hp hW hS => ?_)
        obtain ⟨rfl, rfl⟩ := hp
        rw [pS_pS] at hW
        have hW : q_W E (pS E f px bk T pn rc (p_ci true 5 (p_hold K Wd pn pN u))) n H := hW
        have ok78 : p_ok K T (p_ci true 5 (p_hold K Wd pn pN u)) := ok39.ci (by decide)
        refine lv_aload_n hx hb dX8_readPan_81 rfl (lv_at hl 2 rfl) ?_
        refine q_get hx hb hts hown hA hW iX8 pS_p rfl 0 (by decide) (hts (.fieldLink RX8 10 "HighRecipes$Parser" "tokens" "LHighRecipes$Tokens;") (by decide +kernel)) (fun _ h9 => h9) (v := .ref (px + 1)) rfl dX8_readPan_82 ?_
        refine va_gets (n := "NUMBER") (v := .ref (E.2.2.2 38)) hx hb (hA.2.2.1.1.1 38 (by decide)).1 hS hown (hts (.fieldLink RX8 88 "HighRecipes$Kind" "NUMBER" "LHighRecipes$Kind;") (by decide +kernel)) (fun _ h9 => h9) dX8_readPan_85 ?_
        refine q_cv (va_runV (As := [.ref (E.2.2.2 38)]) (rest := []) ⟨hx, hb, hml, hown, hts⟩ (kX10_take l E (pS E f px bk T pn rc (p_ci true 5 (p_hold K Wd pn pN u))) n (px + 1) T (p_ci true 5 (p_hold K Wd pn pN u)) kk K 38 pS_t ((pS_out (by omega) (by omega) (by omega)).trans f2) (by assumption) (by assumption) (by assumption) (by assumption) ok78 (by first | assumption | decide)) (cwV 1 hts gX8_readPan_X10_take rfl rfl rfl (by decide +kernel) ⟨(Nat.le_of_ble_eq_true rfl), (Nat.le_of_ble_eq_true rfl)⟩) (q_pV hA hW hS (ci := 10) rfl pS_t) rfl rfl hl.1 rfl (lv_room (Nat.le_of_ble_eq_true rfl)) dX8_readPan_88 ⟨Nat.le_of_ble_eq_true rfl, Nat.le_of_ble_eq_true rfl⟩) hS (fun f_88 n_88 H locs hp hW hS => ?_)
        obtain ⟨rfl, rfl⟩ := hp
        have hW : q_W E (va_up (pS E f px bk T pn rc (p_ci true 5 (p_hold K Wd pn pN u))) (px + 1) (some (cTS E (px + 1) T (p_take K 38 (p_ci true 5 (p_hold K Wd pn pN u)))))) n H := hW
        have hW : q_W E (pS E f px bk T pn rc (p_take K 38 (p_ci true 5 (p_hold K Wd pn pN u)))) n H := by rw [← pS_st (s := p_ci true 5 (p_hold K Wd pn pN u)) (s' := p_take K 38 (p_ci true 5 (p_hold K Wd pn pN u))) rfl rfl]; exact hW
        have hok_88 : p_ok K T (p_take K 38 (p_ci true 5 (p_hold K Wd pn pN u))) := ok78.take hKT (by first | assumption | decide)
        have hW : q_W E (pS E f px bk T pn rc (p_take K 38 (p_ci true 5 (p_hold K Wd pn pN u)))) n H := hW
        refine lv_aload_n hx hb dX8_readPan_91 rfl (lv_at hl 2 rfl) ?_
        refine q_get hx hb hts hown hA hW iX8 pS_p rfl 0 (by decide) (hts (.fieldLink RX8 10 "HighRecipes$Parser" "tokens" "LHighRecipes$Tokens;") (by decide +kernel)) (fun _ h9 => h9) (v := .ref (px + 1)) rfl dX8_readPan_92 ?_
        refine va_gets (n := "SEMICOLON") (v := .ref (E.2.2.2 29)) hx hb (hA.2.2.1.1.1 29 (by decide)).1 hS hown (hts (.fieldLink RX8 95 "HighRecipes$Kind" "SEMICOLON" "LHighRecipes$Kind;") (by decide +kernel)) (fun _ h9 => h9) dX8_readPan_95 ?_
        refine q_cv (va_runV (As := [.ref (E.2.2.2 29)]) (rest := []) ⟨hx, hb, hml, hown, hts⟩ (kX10_take l E (pS E f px bk T pn rc (p_take K 38 (p_ci true 5 (p_hold K Wd pn pN u)))) n (px + 1) T (p_take K 38 (p_ci true 5 (p_hold K Wd pn pN u))) kk K 29 pS_t ((pS_out (by omega) (by omega) (by omega)).trans f2) (by assumption) (by assumption) (by assumption) (by assumption) hok_88 (by first | assumption | decide)) (cwV 1 hts gX8_readPan_X10_take rfl rfl rfl (by decide +kernel) ⟨(Nat.le_of_ble_eq_true rfl), (Nat.le_of_ble_eq_true rfl)⟩) (q_pV hA hW hS (ci := 10) rfl pS_t) rfl rfl hl.1 rfl (lv_room (Nat.le_of_ble_eq_true rfl)) dX8_readPan_98 ⟨Nat.le_of_ble_eq_true rfl, Nat.le_of_ble_eq_true rfl⟩) hS (fun f_98 n_98 H locs hp hW hS => ?_)
        obtain ⟨rfl, rfl⟩ := hp
        have hW : q_W E (va_up (pS E f px bk T pn rc (p_take K 38 (p_ci true 5 (p_hold K Wd pn pN u)))) (px + 1) (some (cTS E (px + 1) T (p_take K 29 (p_take K 38 (p_ci true 5 (p_hold K Wd pn pN u))))))) n H := hW
        have hW : q_W E (pS E f px bk T pn rc (p_take K 29 (p_take K 38 (p_ci true 5 (p_hold K Wd pn pN u))))) n H := by rw [← pS_st (s := p_take K 38 (p_ci true 5 (p_hold K Wd pn pN u))) (s' := p_take K 29 (p_take K 38 (p_ci true 5 (p_hold K Wd pn pN u)))) rfl rfl]; exact hW
        have hok_98 : p_ok K T (p_take K 29 (p_take K 38 (p_ci true 5 (p_hold K Wd pn pN u)))) := hok_88.take hKT (by first | assumption | decide)
        have hW : q_W E (pS E f px bk T pn rc (p_take K 29 (p_take K 38 (p_ci true 5 (p_hold K Wd pn pN u))))) n H := hW
        refine lv_aload_n hx hb dX8_readPan_101 rfl (lv_at hl 2 rfl) ?_
        refine q_get hx hb hts hown hA hW iX8 pS_p rfl 1 (by decide) (hts (.fieldLink RX8 19 "HighRecipes$Parser" "book" "LHighRecipes$Book;") (by decide +kernel)) (fun _ h9 => h9) (v := .ref bk) rfl dX8_readPan_102 ?_
        refine lv_lload_n hx hb dX8_readPan_105 rfl (lv_at hl 1 rfl) ?_
        refine lv_iload_n hx hb dX8_readPan_106 rfl (lv_at hl 0 rfl) ?_
        refine q_cv (va_runV (As := [.long (Wd (p_take K 0 u).1), .int (p_panX K Wd pn pN u)]) (rest := []) ⟨hx, hb, hml, hown, hts⟩ (kX2_addPanF l E (pS E f px bk T pn rc (p_take K 29 (p_take K 38 (p_ci true 5 (p_hold K Wd pn pN u))))) n bk (nI rc) (nI (p_take K 29 (p_take K 38 (p_ci true 5 (p_hold K Wd pn pN u)))).2.2.2.2.1) pN (Wd (p_take K 0 u).1) (p_panX K Wd pn pN u) ((pS_b hbk).trans (by rw [hp8]; rfl)) ((pS_out (by omega) (by omega) (by omega)).trans g1)) (cwV 2 hts gX8_readPan_X2_addPan rfl rfl rfl (by decide +kernel) ⟨(Nat.le_of_ble_eq_true rfl), (Nat.le_of_ble_eq_true rfl)⟩) (q_pV hA hW hS (ci := 3) rfl (pS_b hbk)) rfl rfl hl.1 rfl (lv_room (Nat.le_of_ble_eq_true rfl)) dX8_readPan_107 ⟨Nat.le_of_ble_eq_true rfl, Nat.le_of_ble_eq_true rfl⟩) hS (fun f_107 n_107 H locs hp hW hS => ?_)
        obtain ⟨rfl, rfl⟩ := hp
        have eS : p_take K 29 (p_take K 38 (p_ci true 5 (p_hold K Wd pn pN u))) = p_panS K Wd pn pN u := by unfold p_panS; rw [eC]; try rfl
        rw [eS] at hW
        exact q_vret hx hb hr hlocks hW hS ⟨rfl, rfl⟩ (Nat.le_of_ble_eq_true rfl) (Nat.le_of_ble_eq_true rfl) dX8_readPan_110

