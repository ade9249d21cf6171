/-- the book's recipes stand in the heap: each by those ahead of it -/
def rRS (E : q_E) (pn lo hi : Nat) (f : q_H) (RS : Nat → q_S) (g : Nat → Option Nat) (R : Nat) : Prop := ∀ r, r < R → r < 6 ∧ ∃ m, rL E lo hi f (rA E pn lo hi f RS r 6) m (g r) (RS r)
theorem rep_A {E : q_E} {pn lo hi : Nat} {f f' : q_H} {RS : Nat → q_S} {R d a : Nat} {S : q_S} (fr : ∀ q, lo ≤ q → q < hi → f' q = f q) (h : rA E pn lo hi f RS R d a S) : rA E pn lo hi f' RS R d a S := rA_frame fr (Nat.le_refl _) (Nat.le_refl _) (Nat.le_refl _) (fun _ _ => rfl) d a S h
theorem rep_L {E : q_E} {pn lo hi : Nat} {f f' : q_H} {RS : Nat → q_S} {R d m : Nat} {o : Option Nat} {S : q_S} (fr : ∀ q, lo ≤ q → q < hi → f' q = f q) (h : rL E lo hi f (rA E pn lo hi f RS R d) m o S) : rL E lo hi f' (rA E pn lo hi f' RS R d) m o S := rL_frame fr (Nat.le_refl _) (Nat.le_refl _) (fun _ _ h => rep_A fr h) m o S h
theorem rep_RS {E : q_E} {pn lo hi : Nat} {f f' : q_H} {RS : Nat → q_S} {g : Nat → Option Nat} {R : Nat} (fr : ∀ q, lo ≤ q → q < hi → f' q = f q) (h : rRS E pn lo hi f RS g R) : rRS E pn lo hi f' RS g R := fun r hr => ⟨(h r hr).1, (h r hr).2.elim fun m z => ⟨m, rep_L fr z⟩⟩
theorem rep_C {E : q_E} {pn lo hi : Nat} {f f' : q_H} {m : Nat} {o : Option Nat} {C : q_V → q_V → Bool} (fr : ∀ q, lo ≤ q → q < hi → f' q = f q) (h : rC E pn lo hi f m o C) : rC E pn lo hi f' m o C := rC_frame fr (Nat.le_refl _) (Nat.le_refl _) m o C h
theorem rRS_good {E : q_E} {pn lo hi : Nat} {f : q_H} {RS : Nat → q_S} {g : Nat → Option Nat} : ∀ (R : Nat), rRS E pn lo hi f RS g R → ∀ r, r < R → k_goodB (RS r)
  | 0, _, r, hr => absurd hr (Nat.not_lt_zero _)
  | R + 1, h, r, hr => by
    have ih := rRS_good R (fun r hr => h r (Nat.lt_succ_of_lt hr))
    obtain ⟨-, m, hm⟩ := h r hr
    exact k_good_L (k_good_A (fun r' hr' => ih r' (by omega)) 6) m _ _ hm
theorem k_iter_s {F : q_KS → q_KS} : ∀ (j : Nat) (s : q_KS), k_iter F (j + 1) s = F (k_iter F j s)
  | 0, _ => rfl
  | j + 1, s => k_iter_s j (F s)
theorem q_cl_le {t : Int32} {j : Nat} (hj : j < 2 ^ 31) (h : t ≤ nI j) : t.toNatClampNeg ≤ j := by
  rw [Int32.le_iff_toInt_le, nI_toInt hj] at h
  show t.toInt.toNat ≤ j
  omega
theorem q_cl_gt {t : Int32} {j : Nat} (hj : j < 2 ^ 31) (h : ¬ t ≤ nI j) : j < t.toNatClampNeg := by
  rw [Int32.le_iff_toInt_le, nI_toInt hj] at h
  show j < t.toInt.toNat
  omega
theorem q_min100 {x : Int32} : (q_min x 100).toNatClampNeg ≤ 100 := by
  refine q_cl_le (t := q_min x 100) (j := 100) (by decide) ?_
  show (if (100 : Int32) < x then (100 : Int32) else x) ≤ nI 100
  split
  · decide
  · next h => exact Int32.not_lt.mp h
/-- doBlock does what the block says: for blocks d deep, in a recipe behind R others -/
def BLK (l : Launch) (E : q_E) (pn lo hi : Nat) (RS : Nat → q_S) (R d : Nat) : Prop := ∀ (f : q_H) (n : Nat) (ck k bk : Nat) (hd v : Nat → Int32) (b : Nat) (w rc ac : Int32) (g : Nat → Option Nat) (B m : Nat) (o : Option Nat) (S : q_S) (ar : Nat),
  f ck = some (cCook k (nI b) w) → f bk = some (cBook bk (nI pn) rc ac) → f (bk + 4) = some (aQ E 3 6 g) → KIT E f k bk hd v → kOut k bk → pn ≤ 8 → kOut k ck → kOut k (bk + 4) → bk ≠ ck → bk + 4 ≠ ck → (∀ q, lo ≤ q → q < hi → kOut k q ∧ q ≠ ck) → B ≤ 2 ^ 29 → k_inv B (v, b, w) → rRS E pn lo hi f RS g R → rL E lo hi f (rA E pn lo hi f RS R d) m o S → 1 ≤ d → ar + (d + 6 * R) ≤ 36 →
  Met l yX3_doBlock wsX3_doBlock ({ frames := 5 * (d + 6 * R) + 20, cells := 0, slots := 0, locals := 200 * (d + 6 * R) + 1000 }) (q_P E [.ref ck, va_rf o, .int (nI ar)] f n) (q_Qv E (fun f1 n1 => kO E (va_up f ck (some (cCook k (nI (S hd (v, b, w)).2.1) (S hd (v, b, w)).2.2))) k bk hd (S hd (v, b, w)).1 = f1 ∧ n = n1)) 0 0 (q_ge E)

set_option maxHeartbeats 4000000 in
set_option maxRecDepth 100000 in
theorem kX3_doAgain (l : Launch) (E : q_E) (f : q_H) (n : Nat) (ck k bk : Nat) (hd v : Nat → Int32) (b : Nat) (w : Int32) (pn : Nat) (rc ac : Int32) (g : Nat → Option Nat) (BB lo hi : Nat) (RS : Nat → q_S) (R d ar : Nat) (a d1 : Nat) (pan rcp pm : Int32) (x : Nat) (lc blk oth nxt : Option Nat) (D : q_D) (m9 : Nat) (B0 : q_S) (hc : f ck = some (cCook k (nI b) w)) (hB : f bk = some (cBook bk (nI pn) rc ac)) (hG : f (bk + 4) = some (aQ E 3 6 g)) (hv : f a = some (cAct E 15 pan rcp pm (some x) lc blk oth nxt)) (hk : KIT E f k bk hd v) (hbo : kOut k bk) (hpn : pn ≤ 8) (hck : kOut k ck) (hbo4 : kOut k (bk + 4)) (hbc : bk ≠ ck) (hb4c : bk + 4 ≠ ck) (hreg : ∀ q, lo ≤ q → q < hi → kOut k q ∧ q ≠ ck) (hB29 : BB ≤ 2 ^ 29) (ha1 : lo ≤ a) (ha2 : a < hi) (hinv : k_inv BB (v, b, w)) (hRS : rRS E pn lo hi f RS g R) (hD : rV E pn lo hi f 5 x D) (hL : rL E lo hi f (rA E pn lo hi f RS R d1) m9 blk B0) (hd1 : 1 ≤ d1) (hd2 : d1 + 1 = d) (har : ar + (d + 6 * R) ≤ 36) (ihB : ∀ d1 R1, d1 + 6 * R1 < d + 6 * R → BLK l E pn lo hi RS R1 d1) : Met l yX3_doAgain wsX3_doAgain ({ frames := 5 * (d + 6 * R) + 18, cells := 0, slots := 0, locals := 200 * (d + 6 * R) + 850 }) (q_P E [.ref ck, .ref a, .int (nI ar)] f n) (q_Qv E (fun f1 n1 => kO E (va_up f ck (some (cCook k (nI (k_again D B0 hd (v, b, w)).2.1) (k_again D B0 hd (v, b, w)).2.2))) k bk hd (k_again D B0 hd (v, b, w)).1 = f1 ∧ n = n1)) 0 0 (q_ge E) := by
  refine Met.ofW (cc := cX3_doAgain) (maxL := 5) (ret := none) (by decide) rfl ?_
  intro p e s m args below meth c s₁ B hml hv
  obtain ⟨rfl, hA, hW⟩ := hv
  have hx := B.exec
  have hb := B.bytes
  have hr := B.returns
  have hts := atoms_spec (ws := wsX3_doAgain) B.pre
  have hown : s.vm.findClass RX3 = some m.cls := findClass_of_methodNamed B.named
  have hlocks := B.notSynchronized
  have hS : va_S (q_ge E) s.heap s.heap [] := va_S.rf
  have iX1 : ∀ w ∈ wsX10, w ∈ wsX3_doAgain := by decide +kernel
  have hl := lv_entry ([.ref ck, .ref a, .int (nI ar)]) (n := 5) (Nat.le_of_ble_eq_true rfl)
  rw [lg_entry_eq]
  generalize (lg_sl ([.ref ck, .ref a, .int (nI ar)]) ++ List.replicate (5 - (lg_sl ([.ref ck, .ref a, .int (nI ar)])).length) Slot.unset).toArray = ls at hl ⊢
  have hl : lv_has ls 5 [(0, .ref ck), (1, .ref a), (2, .int (nI ar))] := hl
  rw [hk.eq] at hW
  refine lv_aload_n hx hb dX3_doAgain_0 rfl (lv_at hl 0 rfl) ?_
  refine lv_aload_n hx hb dX3_doAgain_1 rfl (lv_at hl 1 rfl) ?_
  refine q_getN hx hb hts hown hA hW iX1 ((kO_out (hreg a ha1 ha2).1).trans hv) rfl 4 (by decide) (va_Nw.use rfl (hA.2.2.2.1 ("HighRecipes$Cooking", 99, "HighRecipes$Act", "value", "LHighRecipes$Value;", "HighRecipes") (by decide +kernel))) (fun _ h9 => h9) (v := .ref x) rfl dX3_doAgain_2 ?_
  refine lv_iconst (v := 0) hx hb dX3_doAgain_5 (by decide) ?_
  refine q_ci (va_runV (As := [.ref x, .int 0]) (rest := []) ⟨hx, hb, hml, hown, hts⟩ (kX3_worth l E n (kO E f k bk hd v) ck k bk hd v (nI b) w pn rc ac lo hi ((kO_out hck).trans hc) ((kO_out hbo).trans hB) kO_K hbo hpn 5 x 0 D (rV_frame (fun q h1 h2 => (kO_out (hreg q h1 h2).1).trans rfl) (Nat.le_refl _) (Nat.le_refl _) 5 x D hD) (by decide)) (cwV 2 hts gX3_doAgain_X3_worth rfl rfl rfl (by decide +kernel) ⟨(by show 15 + 1 ≤ 5 * (d + 6 * R) + 18; omega), (by show 8 + (3 + 11) + 500 ≤ 200 * (d + 6 * R) + 850; omega)⟩) (q_pV hA hW hS (ci := 4) rfl ((kO_out hck).trans hc)) rfl rfl hl.1 rfl (lv_room (Nat.le_of_ble_eq_true rfl)) dX3_doAgain_6 ⟨Nat.le_of_ble_eq_true rfl, Nat.le_of_ble_eq_true rfl⟩) hS (fun r_6 f_6 n_6 H locs hp hW hS => ?_)
  obtain ⟨rfl, rfl, rfl⟩ := hp
  have hW : q_W E (kO E f k bk hd v) n H := hW
  refine lv_bipush (v := 100) hx hb dX3_doAgain_9 (by decide) ?_
  refine va_mmin hx hb (hml.trans hl.1.symm) hown (hts (.methodLink RX3 124 Lib.Math.min.name) (by decide +kernel)) (hts (.static Lib.Math.min.name) (by decide +kernel)) (hts (.initialized "java/lang/Math") (by decide +kernel)) (hts (.code Lib.Math.min.name Lib.Math.min.code 2 (some .int)) (by decide +kernel)) (by show 1 ≤ 5 * (d + 6 * R) + 18; omega) (by show 13 ≤ 200 * (d + 6 * R) + 850; omega) (Nat.le_of_ble_eq_true rfl) (Nat.le_of_ble_eq_true rfl) dX3_doAgain_11 ?_
  refine lv_istore_n (lv' := [(3, .int (q_min (D hd v) 100)), (0, .ref ck), (1, .ref a), (2, .int (nI ar))]) hx hb dX3_doAgain_14 rfl hl (by decide) rfl (fun ls hl => ?_)
  refine lv_iconst (v := 0) hx hb dX3_doAgain_15 (by decide) ?_
  refine lv_istore (lv' := [(4, .int 0), (3, .int (q_min (D hd v) 100)), (0, .ref ck), (1, .ref a), (2, .int (nI ar))]) hx hb dX3_doAgain_16 hl (by decide) rfl (fun ls hl => ?_)
  have K18 : ∀ (fu : Nat) (j : Nat) (hj : j ≤ (q_min (D hd v) 100).toNatClampNeg) (hm : (q_min (D hd v) 100).toNatClampNeg - j < fu) (H : Heap) (locs : List Loc) (ls : Array Slot), q_W E (kO E (va_up f ck (some (cCook k (nI (k_iter (B0 hd) j (v, b, w)).2.1) ((k_iter (B0 hd) j (v, b, w)).2.2)))) k bk hd ((k_iter (B0 hd) j (v, b, w)).1)) n H → va_S (q_ge E) s.heap H locs → lv_has ls 5 [(0, .ref ck), (1, .ref a), (2, .int (nI ar)), (3, .int (q_min (D hd v) 100)), (4, .int (nI j))] → W p l e (headSpec wsX3_doAgain ({ frames := 5 * (d + 6 * R) + 18, cells := 0, slots := 0, locals := 200 * (d + 6 * R) + 850 })).room s m ([.ref ck, .ref a, .int (nI ar)] : List Value).toArray below meth c H locs 0 0 (MQ below (q_Qv E (fun f1 n1 => kO E (va_up f ck (some (cCook k (nI (k_again D B0 hd (v, b, w)).2.1) (k_again D B0 hd (v, b, w)).2.2))) k bk hd (k_again D B0 hd (v, b, w)).1 = f1 ∧ n = n1)) ([.ref ck, .ref a, .int (nI ar)] : List Value).toArray s 0 0 (q_ge E)) (F0 m 18 ls []) := by
    intro fu
    induction fu with
    | zero =>
      intro j hj hm
      exact absurd hm (Nat.not_lt_zero _)
    | succ fu ih =>
      intro j hj hm H locs ls hW hS hl
      have h100 := q_min100 (x := D hd v)
      refine lv_iload hx hb dX3_doAgain_18 (lv_at hl 4 rfl) ?_
      refine lv_iload_n hx hb dX3_doAgain_20 rfl (lv_at hl 3 rfl) ?_
      refine lv_icmp_ge (tgt := 41) hx hb dX3_doAgain_21 (by decide) (fun c_21 => ?_) (fun c_21 => ?_)
      · have ej : (q_min (D hd v) 100).toNatClampNeg = j := by have := q_cl_le (by omega) c_21; omega
        exact q_vret hx hb hr hlocks hW hS ⟨by unfold k_again; rw [show (v, b, w).1 = v from rfl, ej], rfl⟩ (Nat.le_of_ble_eq_true rfl) (Nat.le_of_ble_eq_true rfl) dX3_doAgain_41
      · have hlt : j < (q_min (D hd v) 100).toNatClampNeg := q_cl_gt (by omega) c_21
        refine lv_aload_n hx hb dX3_doAgain_24 rfl (lv_at hl 0 rfl) ?_
        refine lv_aload_n hx hb dX3_doAgain_25 rfl (lv_at hl 1 rfl) ?_
        refine q_getN hx hb hts hown hA hW iX1 ((kO_out (hreg a ha1 ha2).1).trans (q_ne (hreg a ha1 ha2).2 hv)) rfl 6 (by decide) (va_Nw.use rfl (hA.2.2.2.1 ("HighRecipes$Cooking", 80, "HighRecipes$Act", "block", "LHighRecipes$Act;", "HighRecipes") (by decide +kernel))) (fun _ h9 => h9) (v := va_rf blk) rfl dX3_doAgain_26 ?_
        refine lv_iload_n hx hb dX3_doAgain_29 rfl (lv_at hl 2 rfl) ?_
        refine lv_iconst (v := 1) hx hb dX3_doAgain_30 (by decide) ?_
        refine lv_iadd hx hb dX3_doAgain_31 ?_
        rw [nI_1]
        refine q_cv (va_runV (As := [va_rf blk, .int (nI (ar + 1))]) (rest := []) ⟨hx, hb, hml, hown, hts⟩ (ihB d1 R (by omega) (kO E (va_up f ck (some (cCook k (nI (k_iter (B0 hd) j (v, b, w)).2.1) ((k_iter (B0 hd) j (v, b, w)).2.2)))) k bk hd ((k_iter (B0 hd) j (v, b, w)).1)) n ck k bk hd ((k_iter (B0 hd) j (v, b, w)).1) ((k_iter (B0 hd) j (v, b, w)).2.1) ((k_iter (B0 hd) j (v, b, w)).2.2) rc ac g BB m9 blk B0 (ar + 1) ((kO_out hck).trans q_eq) ((kO_out hbo).trans ((va_up_ne _ _ hbc).trans hB)) ((kO_out hbo4).trans ((va_up_ne _ _ hb4c).trans hG)) kO_K hbo hpn hck hbo4 hbc hb4c hreg hB29 (k_good_iter (fun s hs => k_good_L (k_good_A (rRS_good R hRS) d1) m9 blk B0 hL BB hd s hB29 hs) j (v, b, w) hinv) (rep_RS (fun q h1 h2 => (kO_out (hreg q h1 h2).1).trans (va_up_ne _ _ (hreg q h1 h2).2)) hRS) (rep_L (fun q h1 h2 => (kO_out (hreg q h1 h2).1).trans (va_up_ne _ _ (hreg q h1 h2).2)) hL) (by omega) (by omega)) (cwV 2 hts gX3_doAgain_X3_doBlock rfl rfl rfl (by decide +kernel) ⟨(by show (5 * (d1 + 6 * R) + 20) + 1 ≤ 5 * (d + 6 * R) + 18; omega), (by show 8 + (4 + 11) + (200 * (d1 + 6 * R) + 1000) ≤ 200 * (d + 6 * R) + 850; omega)⟩) (q_pV hA hW hS (ci := 4) rfl ((kO_out hck).trans q_eq)) rfl rfl hl.1 rfl (lv_room (Nat.le_of_ble_eq_true rfl)) dX3_doAgain_32 ⟨Nat.le_of_ble_eq_true rfl, Nat.le_of_ble_eq_true rfl⟩) hS (fun f_32 n_32 H locs hp hW hS => ?_)
        obtain ⟨rfl, rfl⟩ := hp
        have hW : q_W E (kO E (va_up (kO E (va_up f ck (some (cCook k (nI (k_iter (B0 hd) j (v, b, w)).2.1) ((k_iter (B0 hd) j (v, b, w)).2.2)))) k bk hd ((k_iter (B0 hd) j (v, b, w)).1)) ck (some (cCook k (nI (B0 hd ((k_iter (B0 hd) j (v, b, w)).1, (k_iter (B0 hd) j (v, b, w)).2.1, (k_iter (B0 hd) j (v, b, w)).2.2)).2.1) ((B0 hd ((k_iter (B0 hd) j (v, b, w)).1, (k_iter (B0 hd) j (v, b, w)).2.1, (k_iter (B0 hd) j (v, b, w)).2.2)).2.2)))) k bk hd ((B0 hd ((k_iter (B0 hd) j (v, b, w)).1, (k_iter (B0 hd) j (v, b, w)).2.1, (k_iter (B0 hd) j (v, b, w)).2.2)).1)) n H := hW
        rw [kO_iu hck] at hW
        rw [q_upup] at hW
        rw [kO_kO] at hW
        have hW : q_W E (kO E (va_up f ck (some (cCook k (nI (B0 hd ((k_iter (B0 hd) j (v, b, w)).1, (k_iter (B0 hd) j (v, b, w)).2.1, (k_iter (B0 hd) j (v, b, w)).2.2)).2.1) ((B0 hd ((k_iter (B0 hd) j (v, b, w)).1, (k_iter (B0 hd) j (v, b, w)).2.1, (k_iter (B0 hd) j (v, b, w)).2.2)).2.2)))) k bk hd ((B0 hd ((k_iter (B0 hd) j (v, b, w)).1, (k_iter (B0 hd) j (v, b, w)).2.1, (k_iter (B0 hd) j (v, b, w)).2.2)).1)) n H := hW
        refine lv_iinc (v := nI (j + 1)) (lv' := [(4, .int (nI (j + 1))), (0, .ref ck), (1, .ref a), (2, .int (nI ar)), (3, .int (q_min (D hd v) 100))]) hx hb dX3_doAgain_35 hl (k := 4) rfl (nI_1 j) (by decide) rfl (fun ls hl => ?_)
        refine lv_goto (tgt := 18) hx hb dX3_doAgain_38 (by decide) ?_
        rw [show B0 hd ((k_iter (B0 hd) j (v, b, w)).1, (k_iter (B0 hd) j (v, b, w)).2.1, (k_iter (B0 hd) j (v, b, w)).2.2) = (k_iter (B0 hd) (j + 1) (v, b, w)) from (k_iter_s j (v, b, w)).symm] at hW
        exact ih (j + 1) hlt (by omega) _ _ _ hW hS (lv_sub hl [1, 2, 3, 4, 0] rfl)
  rw [show kO E f k bk hd v = kO E (va_up f ck (some (cCook k (nI (k_iter (B0 hd) 0 (v, b, w)).2.1) (k_iter (B0 hd) 0 (v, b, w)).2.2))) k bk hd (k_iter (B0 hd) 0 (v, b, w)).1 from congrArg (fun z => kO E z k bk hd v) (q_id hc).symm] at hW
  exact K18 _ 0 (Nat.zero_le _) (Nat.lt_succ_self _) _ _ _ hW hS (lv_sub hl [2, 3, 4, 1, 0] rfl)

set_option maxHeartbeats 4000000 in
set_option maxRecDepth 100000 in
theorem kX3_doAct_3 (l : Launch) (E : q_E) (f : q_H) (n : Nat) (ck k bk : Nat) (hd v : Nat → Int32) (b : Nat) (w : Int32) (pn : Nat) (rc ac : Int32) (g : Nat → Option Nat) (BB lo hi : Nat) (RS : Nat → q_S) (R d ar : Nat) (a : Nat) (rcp pm : Int32) (lc blk oth nxt : Option Nat) (i : Nat) (x : Nat) (D : q_D) (hc : f ck = some (cCook k (nI b) w)) (hB : f bk = some (cBook bk (nI pn) rc ac)) (hG : f (bk + 4) = some (aQ E 3 6 g)) (hv : f a = some (cAct E 3 (nI i) rcp pm (some x) lc blk oth nxt)) (hk : KIT E f k bk hd v) (hbo : kOut k bk) (hpn : pn ≤ 8) (hck : kOut k ck) (hbo4 : kOut k (bk + 4)) (hbc : bk ≠ ck) (hb4c : bk + 4 ≠ ck) (hreg : ∀ q, lo ≤ q → q < hi → kOut k q ∧ q ≠ ck) (hB29 : BB ≤ 2 ^ 29) (ha1 : lo ≤ a) (ha2 : a < hi) (hinv : k_inv1 BB (v, b, w)) (hRS : rRS E pn lo hi f RS g R) (hd0 : 1 ≤ d) (har : ar + (d + 6 * R) ≤ 36) (ihB : ∀ d1 R1, d1 + 6 * R1 < d + 6 * R → BLK l E pn lo hi RS R1 d1) (hip : i < pn) (hD : rV E pn lo hi f 5 x D) : Met l yX3_doAct wsX3_doAct ({ frames := 5 * (d + 6 * R) + 19, cells := 0, slots := 0, locals := 200 * (d + 6 * R) + 900 }) (q_P E [.ref ck, .ref a, .int (nI ar)] f n) (q_Qv E (fun f1 n1 => kO E (va_up f ck (some (cCook k (nI (k_pour pn i pm D hd (v, b, w)).2.1) (k_pour pn i pm D hd (v, b, w)).2.2))) k bk hd (k_pour pn i pm D hd (v, b, w)).1 = f1 ∧ n = n1)) 0 0 (q_ge E) := by
  refine Met.ofW (cc := cX3_doAct) (maxL := 3) (ret := none) (by decide) rfl ?_
  intro p e s m args below meth c s₁ B hml hv
  obtain ⟨rfl, hA, hW⟩ := hv
  have hx := B.exec
  have hb := B.bytes
  have hr := B.returns
  have hts := atoms_spec (ws := wsX3_doAct) B.pre
  have hown : s.vm.findClass RX3 = some m.cls := findClass_of_methodNamed B.named
  have hlocks := B.notSynchronized
  have hS : va_S (q_ge E) s.heap s.heap [] := va_S.rf
  have iX1 : ∀ w ∈ wsX10, w ∈ wsX3_doAct := by decide +kernel
  have hl := lv_entry ([.ref ck, .ref a, .int (nI ar)]) (n := 3) (Nat.le_of_ble_eq_true rfl)
  rw [lg_entry_eq]
  generalize (lg_sl ([.ref ck, .ref a, .int (nI ar)]) ++ List.replicate (3 - (lg_sl ([.ref ck, .ref a, .int (nI ar)])).length) Slot.unset).toArray = ls at hl ⊢
  have hl : lv_has ls 3 [(0, .ref ck), (1, .ref a), (2, .int (nI ar))] := hl
  have hok : k_ok v := hinv.le.ok hB29
  refine va_gets hx hb hA.2.2.1.2.2.2.1.1 hS hown (hts (.fieldLink RX3 50 "HighRecipes$1" "$SwitchMap$HighRecipes$Kind" "[I") (by decide +kernel)) (fun _ h9 => h9) dX3_doAct_0 ?_
  refine lv_aload_n hx hb dX3_doAct_3 rfl (lv_at hl 1 rfl) ?_
  refine q_getN hx hb hts hown hA hW iX1 hv rfl 0 (by decide) (va_Nw.use rfl (hA.2.2.2.1 ("HighRecipes$Cooking", 56, "HighRecipes$Act", "kind", "LHighRecipes$Kind;", "HighRecipes") (by decide +kernel))) (fun _ h9 => h9) (v := .ref (E.2.2.2 3)) rfl dX3_doAct_4 ?_
  refine q_ci (va_runU (As := []) (rest := [.ref (E.2.2.2 101)]) ⟨hx, hb, hml, hown, hts⟩ (q_ordinal l E f n 3 (by decide)) (va_cwU 0 hts gX3_doAct_Jx29ce0_ordinal_8abf5_u60X5 rfl rfl rfl rfl (by decide +kernel) ⟨(by show 0 + 1 ≤ 5 * (d + 6 * R) + 19; omega), (by show 8 + (1 + 11) + 0 ≤ 200 * (d + 6 * R) + 900; omega)⟩) ⟨q_P.blind, va_recvE hA.2.2.1.1 (by decide) hS, fun U hU hWm => ⟨rfl, hA.go hS hU hWm, by rw [hU]; exact hW⟩⟩ rfl rfl hl.1 rfl (lv_room (Nat.le_of_ble_eq_true rfl)) dX3_doAct_7 ⟨(Nat.le_of_ble_eq_true rfl), (Nat.le_of_ble_eq_true rfl)⟩) hS (fun r_7 f_7 n_7 H locs hp hW hS => ?_)
  obtain ⟨rfl, rfl, rfl⟩ := hp
  refine va_ti hx hb hA.2.2.1.2.2.2.1.2 hS (vp_in_nI (by decide) (by decide)) (v := .int 3) (by rw [nI_clamp (by decide)]; rfl) dX3_doAct_10 ?_
  refine lv_tableIn (x := 3) (off := 110) (tgt := 121) hx hb dX3_doAct_11 (by decide) (by decide) (by decide) (by decide) ?_
  refine lv_aload_n hx hb dX3_doAct_121 rfl (lv_at hl 0 rfl) ?_
  refine lv_aload_n hx hb dX3_doAct_122 rfl (lv_at hl 1 rfl) ?_
  refine q_cv (va_runV (As := [.ref a]) (rest := []) ⟨hx, hb, hml, hown, hts⟩ (kX3_doPour l E f n ck k bk hd v b w pn rc ac lo hi a rcp lc blk oth nxt i pm x D hc hB hv (by assumption) (by assumption) (by assumption) (by assumption) (by assumption) (by assumption) (by assumption) (by assumption) (by assumption) (by assumption) (by assumption)) (cwV 1 hts gX3_doAct_X3_doPour rfl rfl rfl (by decide +kernel) ⟨(by show 16 + 1 ≤ 5 * (d + 6 * R) + 19; omega), (by show 8 + (4 + 11) + 522 ≤ 200 * (d + 6 * R) + 900; omega)⟩) (q_pV hA hW hS (ci := 4) rfl hc) rfl rfl hl.1 rfl (lv_room (Nat.le_of_ble_eq_true rfl)) dX3_doAct_123 ⟨Nat.le_of_ble_eq_true rfl, Nat.le_of_ble_eq_true rfl⟩) hS (fun f_123 n_123 H locs hp hW hS => ?_)
  obtain ⟨rfl, rfl⟩ := hp
  have hW : q_W E (kO E (va_up f ck (some (cCook k (nI (k_pour pn i pm D hd (v, b, w)).2.1) (k_pour pn i pm D hd (v, b, w)).2.2))) k bk hd (k_pour pn i pm D hd (v, b, w)).1) n H := hW
  refine lv_goto (tgt := 199) hx hb dX3_doAct_126 (by decide) ?_
  exact q_vret hx hb hr hlocks hW hS ⟨rfl, rfl⟩ (Nat.le_of_ble_eq_true rfl) (Nat.le_of_ble_eq_true rfl) dX3_doAct_199

set_option maxHeartbeats 4000000 in
set_option maxRecDepth 100000 in
theorem kX3_doAct_7 (l : Launch) (E : q_E) (f : q_H) (n : Nat) (ck k bk : Nat) (hd v : Nat → Int32) (b : Nat) (w : Int32) (pn : Nat) (rc ac : Int32) (g : Nat → Option Nat) (BB lo hi : Nat) (RS : Nat → q_S) (R d ar : Nat) (a : Nat) (rcp pm : Int32) (lc blk oth nxt : Option Nat) (i : Nat) (x : Nat) (D : q_D) (hc : f ck = some (cCook k (nI b) w)) (hB : f bk = some (cBook bk (nI pn) rc ac)) (hG : f (bk + 4) = some (aQ E 3 6 g)) (hv : f a = some (cAct E 7 (nI i) rcp pm (some x) lc blk oth nxt)) (hk : KIT E f k bk hd v) (hbo : kOut k bk) (hpn : pn ≤ 8) (hck : kOut k ck) (hbo4 : kOut k (bk + 4)) (hbc : bk ≠ ck) (hb4c : bk + 4 ≠ ck) (hreg : ∀ q, lo ≤ q → q < hi → kOut k q ∧ q ≠ ck) (hB29 : BB ≤ 2 ^ 29) (ha1 : lo ≤ a) (ha2 : a < hi) (hinv : k_inv1 BB (v, b, w)) (hRS : rRS E pn lo hi f RS g R) (hd0 : 1 ≤ d) (har : ar + (d + 6 * R) ≤ 36) (ihB : ∀ d1 R1, d1 + 6 * R1 < d + 6 * R → BLK l E pn lo hi RS R1 d1) (hip : i < pn) (hD : rV E pn lo hi f 5 x D) : Met l yX3_doAct wsX3_doAct ({ frames := 5 * (d + 6 * R) + 19, cells := 0, slots := 0, locals := 200 * (d + 6 * R) + 900 }) (q_P E [.ref ck, .ref a, .int (nI ar)] f n) (q_Qv E (fun f1 n1 => kO E (va_up f ck (some (cCook k (nI (k_heat pn i D hd (v, b, w)).2.1) (k_heat pn i D hd (v, b, w)).2.2))) k bk hd (k_heat pn i D hd (v, b, w)).1 = f1 ∧ n = n1)) 0 0 (q_ge E) := by
  refine Met.ofW (cc := cX3_doAct) (maxL := 3) (ret := none) (by decide) rfl ?_
  intro p e s m args below meth c s₁ B hml hv
  obtain ⟨rfl, hA, hW⟩ := hv
  have hx := B.exec
  have hb := B.bytes
  have hr := B.returns
  have hts := atoms_spec (ws := wsX3_doAct) B.pre
  have hown : s.vm.findClass RX3 = some m.cls := findClass_of_methodNamed B.named
  have hlocks := B.notSynchronized
  have hS : va_S (q_ge E) s.heap s.heap [] := va_S.rf
  have iX1 : ∀ w ∈ wsX10, w ∈ wsX3_doAct := by decide +kernel
  have hl := lv_entry ([.ref ck, .ref a, .int (nI ar)]) (n := 3) (Nat.le_of_ble_eq_true rfl)
  rw [lg_entry_eq]
  generalize (lg_sl ([.ref ck, .ref a, .int (nI ar)]) ++ List.replicate (3 - (lg_sl ([.ref ck, .ref a, .int (nI ar)])).length) Slot.unset).toArray = ls at hl ⊢
  have hl : lv_has ls 3 [(0, .ref ck), (1, .ref a), (2, .int (nI ar))] := hl
  have hok : k_ok v := hinv.le.ok hB29
  refine va_gets hx hb hA.2.2.1.2.2.2.1.1 hS hown (hts (.fieldLink RX3 50 "HighRecipes$1" "$SwitchMap$HighRecipes$Kind" "[I") (by decide +kernel)) (fun _ h9 => h9) dX3_doAct_0 ?_
  refine lv_aload_n hx hb dX3_doAct_3 rfl (lv_at hl 1 rfl) ?_
  refine q_getN hx hb hts hown hA hW iX1 hv rfl 0 (by decide) (va_Nw.use rfl (hA.2.2.2.1 ("HighRecipes$Cooking", 56, "HighRecipes$Act", "kind", "LHighRecipes$Kind;", "HighRecipes") (by decide +kernel))) (fun _ h9 => h9) (v := .ref (E.2.2.2 7)) rfl dX3_doAct_4 ?_
  refine q_ci (va_runU (As := []) (rest := [.ref (E.2.2.2 101)]) ⟨hx, hb, hml, hown, hts⟩ (q_ordinal l E f n 7 (by decide)) (va_cwU 0 hts gX3_doAct_Jx29ce0_ordinal_8abf5_u60X5 rfl rfl rfl rfl (by decide +kernel) ⟨(by show 0 + 1 ≤ 5 * (d + 6 * R) + 19; omega), (by show 8 + (1 + 11) + 0 ≤ 200 * (d + 6 * R) + 900; omega)⟩) ⟨q_P.blind, va_recvE hA.2.2.1.1 (by decide) hS, fun U hU hWm => ⟨rfl, hA.go hS hU hWm, by rw [hU]; exact hW⟩⟩ rfl rfl hl.1 rfl (lv_room (Nat.le_of_ble_eq_true rfl)) dX3_doAct_7 ⟨(Nat.le_of_ble_eq_true rfl), (Nat.le_of_ble_eq_true rfl)⟩) hS (fun r_7 f_7 n_7 H locs hp hW hS => ?_)
  obtain ⟨rfl, rfl, rfl⟩ := hp
  refine va_ti hx hb hA.2.2.1.2.2.2.1.2 hS (vp_in_nI (by decide) (by decide)) (v := .int 4) (by rw [nI_clamp (by decide)]; rfl) dX3_doAct_10 ?_
  refine lv_tableIn (x := 4) (off := 118) (tgt := 129) hx hb dX3_doAct_11 (by decide) (by decide) (by decide) (by decide) ?_
  refine lv_aload_n hx hb dX3_doAct_129 rfl (lv_at hl 0 rfl) ?_
  refine lv_aload_n hx hb dX3_doAct_130 rfl (lv_at hl 1 rfl) ?_
  refine q_cv (va_runV (As := [.ref a]) (rest := []) ⟨hx, hb, hml, hown, hts⟩ (kX3_doHeat l E f n ck k bk hd v b w pn rc ac lo hi a rcp lc blk oth nxt i pm x D hc hB hv (by assumption) (by assumption) (by assumption) (by assumption) (by assumption) (by assumption) (by assumption) (by assumption) (by assumption) (by assumption) (by assumption)) (cwV 1 hts gX3_doAct_X3_doHeat rfl rfl rfl (by decide +kernel) ⟨(by show 16 + 1 ≤ 5 * (d + 6 * R) + 19; omega), (by show 8 + (7 + 11) + 522 ≤ 200 * (d + 6 * R) + 900; omega)⟩) (q_pV hA hW hS (ci := 4) rfl hc) rfl rfl hl.1 rfl (lv_room (Nat.le_of_ble_eq_true rfl)) dX3_doAct_131 ⟨Nat.le_of_ble_eq_true rfl, Nat.le_of_ble_eq_true rfl⟩) hS (fun f_131 n_131 H locs hp hW hS => ?_)
  obtain ⟨rfl, rfl⟩ := hp
  have hW : q_W E (kO E (va_up f ck (some (cCook k (nI (k_heat pn i D hd (v, b, w)).2.1) (k_heat pn i D hd (v, b, w)).2.2))) k bk hd (k_heat pn i D hd (v, b, w)).1) n H := hW
  refine lv_goto (tgt := 199) hx hb dX3_doAct_134 (by decide) ?_
  exact q_vret hx hb hr hlocks hW hS ⟨rfl, rfl⟩ (Nat.le_of_ble_eq_true rfl) (Nat.le_of_ble_eq_true rfl) dX3_doAct_199

set_option maxHeartbeats 4000000 in
set_option maxRecDepth 100000 in
theorem kX3_doAct_9 (l : Launch) (E : q_E) (f : q_H) (n : Nat) (ck k bk : Nat) (hd v : Nat → Int32) (b : Nat) (w : Int32) (pn : Nat) (rc ac : Int32) (g : Nat → Option Nat) (BB lo hi : Nat) (RS : Nat → q_S) (R d ar : Nat) (a : Nat) (rcp pm : Int32) (lc blk oth nxt : Option Nat) (i : Nat) (x : Nat) (D : q_D) (hc : f ck = some (cCook k (nI b) w)) (hB : f bk = some (cBook bk (nI pn) rc ac)) (hG : f (bk + 4) = some (aQ E 3 6 g)) (hv : f a = some (cAct E 9 (nI i) rcp pm (some x) lc blk oth nxt)) (hk : KIT E f k bk hd v) (hbo : kOut k bk) (hpn : pn ≤ 8) (hck : kOut k ck) (hbo4 : kOut k (bk + 4)) (hbc : bk ≠ ck) (hb4c : bk + 4 ≠ ck) (hreg : ∀ q, lo ≤ q → q < hi → kOut k q ∧ q ≠ ck) (hB29 : BB ≤ 2 ^ 29) (ha1 : lo ≤ a) (ha2 : a < hi) (hinv : k_inv1 BB (v, b, w)) (hRS : rRS E pn lo hi f RS g R) (hd0 : 1 ≤ d) (har : ar + (d + 6 * R) ≤ 36) (ihB : ∀ d1 R1, d1 + 6 * R1 < d + 6 * R → BLK l E pn lo hi RS R1 d1) (hip : i < pn) (hD : rV E pn lo hi f 5 x D) : Met l yX3_doAct wsX3_doAct ({ frames := 5 * (d + 6 * R) + 19, cells := 0, slots := 0, locals := 200 * (d + 6 * R) + 900 }) (q_P E [.ref ck, .ref a, .int (nI ar)] f n) (q_Qv E (fun f1 n1 => kO E (va_up f ck (some (cCook k (nI (k_boil pn i D hd (v, b, w)).2.1) (k_boil pn i D hd (v, b, w)).2.2))) k bk hd (k_boil pn i D hd (v, b, w)).1 = f1 ∧ n = n1)) 0 0 (q_ge E) := by
  refine Met.ofW (cc := cX3_doAct) (maxL := 3) (ret := none) (by decide) rfl ?_
  intro p e s m args below meth c s₁ B hml hv
  obtain ⟨rfl, hA, hW⟩ := hv
  have hx := B.exec
  have hb := B.bytes
  have hr := B.returns
  have hts := atoms_spec (ws := wsX3_doAct) B.pre
  have hown : s.vm.findClass RX3 = some m.cls := findClass_of_methodNamed B.named
  have hlocks := B.notSynchronized
  have hS : va_S (q_ge E) s.heap s.heap [] := va_S.rf
  have iX1 : ∀ w ∈ wsX10, w ∈ wsX3_doAct := by decide +kernel
  have hl := lv_entry ([.ref ck, .ref a, .int (nI ar)]) (n := 3) (Nat.le_of_ble_eq_true rfl)
  rw [lg_entry_eq]
  generalize (lg_sl ([.ref ck, .ref a, .int (nI ar)]) ++ List.replicate (3 - (lg_sl ([.ref ck, .ref a, .int (nI ar)])).length) Slot.unset).toArray = ls at hl ⊢
  have hl : lv_has ls 3 [(0, .ref ck), (1, .ref a), (2, .int (nI ar))] := hl
  have hok : k_ok v := hinv.le.ok hB29
  refine va_gets hx hb hA.2.2.1.2.2.2.1.1 hS hown (hts (.fieldLink RX3 50 "HighRecipes$1" "$SwitchMap$HighRecipes$Kind" "[I") (by decide +kernel)) (fun _ h9 => h9) dX3_doAct_0 ?_
  refine lv_aload_n hx hb dX3_doAct_3 rfl (lv_at hl 1 rfl) ?_
  refine q_getN hx hb hts hown hA hW iX1 hv rfl 0 (by decide) (va_Nw.use rfl (hA.2.2.2.1 ("HighRecipes$Cooking", 56, "HighRecipes$Act", "kind", "LHighRecipes$Kind;", "HighRecipes") (by decide +kernel))) (fun _ h9 => h9) (v := .ref (E.2.2.2 9)) rfl dX3_doAct_4 ?_
  refine q_ci (va_runU (As := []) (rest := [.ref (E.2.2.2 101)]) ⟨hx, hb, hml, hown, hts⟩ (q_ordinal l E f n 9 (by decide)) (va_cwU 0 hts gX3_doAct_Jx29ce0_ordinal_8abf5_u60X5 rfl rfl rfl rfl (by decide +kernel) ⟨(by show 0 + 1 ≤ 5 * (d + 6 * R) + 19; omega), (by show 8 + (1 + 11) + 0 ≤ 200 * (d + 6 * R) + 900; omega)⟩) ⟨q_P.blind, va_recvE hA.2.2.1.1 (by decide) hS, fun U hU hWm => ⟨rfl, hA.go hS hU hWm, by rw [hU]; exact hW⟩⟩ rfl rfl hl.1 rfl (lv_room (Nat.le_of_ble_eq_true rfl)) dX3_doAct_7 ⟨(Nat.le_of_ble_eq_true rfl), (Nat.le_of_ble_eq_true rfl)⟩) hS (fun r_7 f_7 n_7 H locs hp hW hS => ?_)
  obtain ⟨rfl, rfl, rfl⟩ := hp
  refine va_ti hx hb hA.2.2.1.2.2.2.1.2 hS (vp_in_nI (by decide) (by decide)) (v := .int 5) (by rw [nI_clamp (by decide)]; rfl) dX3_doAct_10 ?_
  refine lv_tableIn (x := 5) (off := 126) (tgt := 137) hx hb dX3_doAct_11 (by decide) (by decide) (by decide) (by decide) ?_
  refine lv_aload_n hx hb dX3_doAct_137 rfl (lv_at hl 0 rfl) ?_
  refine lv_aload_n hx hb dX3_doAct_138 rfl (lv_at hl 1 rfl) ?_
  refine q_cv (va_runV (As := [.ref a]) (rest := []) ⟨hx, hb, hml, hown, hts⟩ (kX3_doBoil l E f n ck k bk hd v b w pn rc ac lo hi a rcp lc blk oth nxt i pm x D hc hB hv (by assumption) (by assumption) (by assumption) (by assumption) (by assumption) (by assumption) (by assumption) (by assumption) (by assumption) (by assumption) (by assumption)) (cwV 1 hts gX3_doAct_X3_doBoil rfl rfl rfl (by decide +kernel) ⟨(by show 16 + 1 ≤ 5 * (d + 6 * R) + 19; omega), (by show 8 + (8 + 11) + 522 ≤ 200 * (d + 6 * R) + 900; omega)⟩) (q_pV hA hW hS (ci := 4) rfl hc) rfl rfl hl.1 rfl (lv_room (Nat.le_of_ble_eq_true rfl)) dX3_doAct_139 ⟨Nat.le_of_ble_eq_true rfl, Nat.le_of_ble_eq_true rfl⟩) hS (fun f_139 n_139 H locs hp hW hS => ?_)
  obtain ⟨rfl, rfl⟩ := hp
  have hW : q_W E (kO E (va_up f ck (some (cCook k (nI (k_boil pn i D hd (v, b, w)).2.1) (k_boil pn i D hd (v, b, w)).2.2))) k bk hd (k_boil pn i D hd (v, b, w)).1) n H := hW
  refine lv_goto (tgt := 199) hx hb dX3_doAct_142 (by decide) ?_
  exact q_vret hx hb hr hlocks hW hS ⟨rfl, rfl⟩ (Nat.le_of_ble_eq_true rfl) (Nat.le_of_ble_eq_true rfl) dX3_doAct_199

set_option maxHeartbeats 4000000 in
set_option maxRecDepth 100000 in
theorem kX3_doAct_11 (l : Launch) (E : q_E) (f : q_H) (n : Nat) (ck k bk : Nat) (hd v : Nat → Int32) (b : Nat) (w : Int32) (pn : Nat) (rc ac : Int32) (g : Nat → Option Nat) (BB lo hi : Nat) (RS : Nat → q_S) (R d ar : Nat) (a : Nat) (rcp pm : Int32) (val lc blk oth nxt : Option Nat) (i : Nat) (hc : f ck = some (cCook k (nI b) w)) (hB : f bk = some (cBook bk (nI pn) rc ac)) (hG : f (bk + 4) = some (aQ E 3 6 g)) (hv : f a = some (cAct E 11 (nI i) rcp pm val lc blk oth nxt)) (hk : KIT E f k bk hd v) (hbo : kOut k bk) (hpn : pn ≤ 8) (hck : kOut k ck) (hbo4 : kOut k (bk + 4)) (hbc : bk ≠ ck) (hb4c : bk + 4 ≠ ck) (hreg : ∀ q, lo ≤ q → q < hi → kOut k q ∧ q ≠ ck) (hB29 : BB ≤ 2 ^ 29) (ha1 : lo ≤ a) (ha2 : a < hi) (hinv : k_inv1 BB (v, b, w)) (hRS : rRS E pn lo hi f RS g R) (hd0 : 1 ≤ d) (har : ar + (d + 6 * R) ≤ 36) (ihB : ∀ d1 R1, d1 + 6 * R1 < d + 6 * R → BLK l E pn lo hi RS R1 d1) (hip : i < pn) : Met l yX3_doAct wsX3_doAct ({ frames := 5 * (d + 6 * R) + 19, cells := 0, slots := 0, locals := 200 * (d + 6 * R) + 900 }) (q_P E [.ref ck, .ref a, .int (nI ar)] f n) (q_Qv E (fun f1 n1 => kO E (va_up f ck (some (cCook k (nI (k_empty pn i hd (v, b, w)).2.1) (k_empty pn i hd (v, b, w)).2.2))) k bk hd (k_empty pn i hd (v, b, w)).1 = f1 ∧ n = n1)) 0 0 (q_ge E) := by
  refine Met.ofW (cc := cX3_doAct) (maxL := 3) (ret := none) (by decide) rfl ?_
  intro p e s m args below meth c s₁ B hml hv
  obtain ⟨rfl, hA, hW⟩ := hv
  have hx := B.exec
  have hb := B.bytes
  have hr := B.returns
  have hts := atoms_spec (ws := wsX3_doAct) B.pre
  have hown : s.vm.findClass RX3 = some m.cls := findClass_of_methodNamed B.named
  have hlocks := B.notSynchronized
  have hS : va_S (q_ge E) s.heap s.heap [] := va_S.rf
  have iX1 : ∀ w ∈ wsX10, w ∈ wsX3_doAct := by decide +kernel
  have hl := lv_entry ([.ref ck, .ref a, .int (nI ar)]) (n := 3) (Nat.le_of_ble_eq_true rfl)
  rw [lg_entry_eq]
  generalize (lg_sl ([.ref ck, .ref a, .int (nI ar)]) ++ List.replicate (3 - (lg_sl ([.ref ck, .ref a, .int (nI ar)])).length) Slot.unset).toArray = ls at hl ⊢
  have hl : lv_has ls 3 [(0, .ref ck), (1, .ref a), (2, .int (nI ar))] := hl
  have hok : k_ok v := hinv.le.ok hB29
  refine va_gets hx hb hA.2.2.1.2.2.2.1.1 hS hown (hts (.fieldLink RX3 50 "HighRecipes$1" "$SwitchMap$HighRecipes$Kind" "[I") (by decide +kernel)) (fun _ h9 => h9) dX3_doAct_0 ?_
  refine lv_aload_n hx hb dX3_doAct_3 rfl (lv_at hl 1 rfl) ?_
  refine q_getN hx hb hts hown hA hW iX1 hv rfl 0 (by decide) (va_Nw.use rfl (hA.2.2.2.1 ("HighRecipes$Cooking", 56, "HighRecipes$Act", "kind", "LHighRecipes$Kind;", "HighRecipes") (by decide +kernel))) (fun _ h9 => h9) (v := .ref (E.2.2.2 11)) rfl dX3_doAct_4 ?_
  refine q_ci (va_runU (As := []) (rest := [.ref (E.2.2.2 101)]) ⟨hx, hb, hml, hown, hts⟩ (q_ordinal l E f n 11 (by decide)) (va_cwU 0 hts gX3_doAct_Jx29ce0_ordinal_8abf5_u60X5 rfl rfl rfl rfl (by decide +kernel) ⟨(by show 0 + 1 ≤ 5 * (d + 6 * R) + 19; omega), (by show 8 + (1 + 11) + 0 ≤ 200 * (d + 6 * R) + 900; omega)⟩) ⟨q_P.blind, va_recvE hA.2.2.1.1 (by decide) hS, fun U hU hWm => ⟨rfl, hA.go hS hU hWm, by rw [hU]; exact hW⟩⟩ rfl rfl hl.1 rfl (lv_room (Nat.le_of_ble_eq_true rfl)) dX3_doAct_7 ⟨(Nat.le_of_ble_eq_true rfl), (Nat.le_of_ble_eq_true rfl)⟩) hS (fun r_7 f_7 n_7 H locs hp hW hS => ?_)
  obtain ⟨rfl, rfl, rfl⟩ := hp
  refine va_ti hx hb hA.2.2.1.2.2.2.1.2 hS (vp_in_nI (by decide) (by decide)) (v := .int 6) (by rw [nI_clamp (by decide)]; rfl) dX3_doAct_10 ?_
  refine lv_tableIn (x := 6) (off := 134) (tgt := 145) hx hb dX3_doAct_11 (by decide) (by decide) (by decide) (by decide) ?_
  refine lv_aload_n hx hb dX3_doAct_145 rfl (lv_at hl 0 rfl) ?_
  refine lv_aload_n hx hb dX3_doAct_146 rfl (lv_at hl 1 rfl) ?_
  refine q_cv (va_runV (As := [.ref a]) (rest := []) ⟨hx, hb, hml, hown, hts⟩ (kX3_doEmpty l E f n ck k bk hd v b w pn rc ac lo hi a rcp lc blk oth nxt i pm val hc hB hv (by assumption) (by assumption) (by assumption) (by assumption) (by assumption) (by assumption) (by assumption) (by assumption) (by assumption) (by assumption)) (cwV 1 hts gX3_doAct_X3_doEmpty rfl rfl rfl (by decide +kernel) ⟨(by show 3 + 1 ≤ 5 * (d + 6 * R) + 19; omega), (by show 8 + (3 + 11) + 66 ≤ 200 * (d + 6 * R) + 900; omega)⟩) (q_pV hA hW hS (ci := 4) rfl hc) rfl rfl hl.1 rfl (lv_room (Nat.le_of_ble_eq_true rfl)) dX3_doAct_147 ⟨Nat.le_of_ble_eq_true rfl, Nat.le_of_ble_eq_true rfl⟩) hS (fun f_147 n_147 H locs hp hW hS => ?_)
  obtain ⟨rfl, rfl⟩ := hp
  have hW : q_W E (kO E (va_up f ck (some (cCook k (nI (k_empty pn i hd (v, b, w)).2.1) (k_empty pn i hd (v, b, w)).2.2))) k bk hd (k_empty pn i hd (v, b, w)).1) n H := hW
  refine lv_goto (tgt := 199) hx hb dX3_doAct_150 (by decide) ?_
  exact q_vret hx hb hr hlocks hW hS ⟨rfl, rfl⟩ (Nat.le_of_ble_eq_true rfl) (Nat.le_of_ble_eq_true rfl) dX3_doAct_199

set_option maxHeartbeats 4000000 in
set_option maxRecDepth 100000 in
theorem kX3_doAct_12 (l : Launch) (E : q_E) (f : q_H) (n : Nat) (ck k bk : Nat) (hd v : Nat → Int32) (b : Nat) (w : Int32) (pn : Nat) (rc ac : Int32) (g : Nat → Option Nat) (BB lo hi : Nat) (RS : Nat → q_S) (R d ar : Nat) (a : Nat) (pan rcp pm : Int32) (lc blk oth nxt : Option Nat) (x : Nat) (D : q_D) (hc : f ck = some (cCook k (nI b) w)) (hB : f bk = some (cBook bk (nI pn) rc ac)) (hG : f (bk + 4) = some (aQ E 3 6 g)) (hv : f a = some (cAct E 12 pan rcp pm (some x) lc blk oth nxt)) (hk : KIT E f k bk hd v) (hbo : kOut k bk) (hpn : pn ≤ 8) (hck : kOut k ck) (hbo4 : kOut k (bk + 4)) (hbc : bk ≠ ck) (hb4c : bk + 4 ≠ ck) (hreg : ∀ q, lo ≤ q → q < hi → kOut k q ∧ q ≠ ck) (hB29 : BB ≤ 2 ^ 29) (ha1 : lo ≤ a) (ha2 : a < hi) (hinv : k_inv1 BB (v, b, w)) (hRS : rRS E pn lo hi f RS g R) (hd0 : 1 ≤ d) (har : ar + (d + 6 * R) ≤ 36) (ihB : ∀ d1 R1, d1 + 6 * R1 < d + 6 * R → BLK l E pn lo hi RS R1 d1) (hD : rV E pn lo hi f 5 x D) : Met l yX3_doAct wsX3_doAct ({ frames := 5 * (d + 6 * R) + 19, cells := 0, slots := 0, locals := 200 * (d + 6 * R) + 900 }) (q_P E [.ref ck, .ref a, .int (nI ar)] f n) (q_Qv E (fun f1 n1 => kO E (va_up f ck (some (cCook k (nI (k_rest pn D hd (v, b, w)).2.1) (k_rest pn D hd (v, b, w)).2.2))) k bk hd (k_rest pn D hd (v, b, w)).1 = f1 ∧ n = n1)) 0 0 (q_ge E) := by
  refine Met.ofW (cc := cX3_doAct) (maxL := 3) (ret := none) (by decide) rfl ?_
  intro p e s m args below meth c s₁ B hml hv
  obtain ⟨rfl, hA, hW⟩ := hv
  have hx := B.exec
  have hb := B.bytes
  have hr := B.returns
  have hts := atoms_spec (ws := wsX3_doAct) B.pre
  have hown : s.vm.findClass RX3 = some m.cls := findClass_of_methodNamed B.named
  have hlocks := B.notSynchronized
  have hS : va_S (q_ge E) s.heap s.heap [] := va_S.rf
  have iX1 : ∀ w ∈ wsX10, w ∈ wsX3_doAct := by decide +kernel
  have iX3 : ∀ w ∈ wsX30, w ∈ wsX3_doAct := by decide +kernel
  have hl := lv_entry ([.ref ck, .ref a, .int (nI ar)]) (n := 3) (Nat.le_of_ble_eq_true rfl)
  rw [lg_entry_eq]
  generalize (lg_sl ([.ref ck, .ref a, .int (nI ar)]) ++ List.replicate (3 - (lg_sl ([.ref ck, .ref a, .int (nI ar)])).length) Slot.unset).toArray = ls at hl ⊢
  have hl : lv_has ls 3 [(0, .ref ck), (1, .ref a), (2, .int (nI ar))] := hl
  rw [hk.eq] at hW
  have hok : k_ok v := hinv.le.ok hB29
  refine va_gets hx hb hA.2.2.1.2.2.2.1.1 hS hown (hts (.fieldLink RX3 50 "HighRecipes$1" "$SwitchMap$HighRecipes$Kind" "[I") (by decide +kernel)) (fun _ h9 => h9) dX3_doAct_0 ?_
  refine lv_aload_n hx hb dX3_doAct_3 rfl (lv_at hl 1 rfl) ?_
  refine q_getN hx hb hts hown hA hW iX1 ((kO_out (hreg a ha1 ha2).1).trans hv) rfl 0 (by decide) (va_Nw.use rfl (hA.2.2.2.1 ("HighRecipes$Cooking", 56, "HighRecipes$Act", "kind", "LHighRecipes$Kind;", "HighRecipes") (by decide +kernel))) (fun _ h9 => h9) (v := .ref (E.2.2.2 12)) rfl dX3_doAct_4 ?_
  refine q_ci (va_runU (As := []) (rest := [.ref (E.2.2.2 101)]) ⟨hx, hb, hml, hown, hts⟩ (q_ordinal l E (kO E f k bk hd v) n 12 (by decide)) (va_cwU 0 hts gX3_doAct_Jx29ce0_ordinal_8abf5_u60X5 rfl rfl rfl rfl (by decide +kernel) ⟨(by show 0 + 1 ≤ 5 * (d + 6 * R) + 19; omega), (by show 8 + (1 + 11) + 0 ≤ 200 * (d + 6 * R) + 900; omega)⟩) ⟨q_P.blind, va_recvE hA.2.2.1.1 (by decide) hS, fun U hU hWm => ⟨rfl, hA.go hS hU hWm, by rw [hU]; exact hW⟩⟩ rfl rfl hl.1 rfl (lv_room (Nat.le_of_ble_eq_true rfl)) dX3_doAct_7 ⟨(Nat.le_of_ble_eq_true rfl), (Nat.le_of_ble_eq_true rfl)⟩) hS (fun r_7 f_7 n_7 H locs hp hW hS => ?_)
  obtain ⟨rfl, rfl, rfl⟩ := hp
  refine va_ti hx hb hA.2.2.1.2.2.2.1.2 hS (vp_in_nI (by decide) (by decide)) (v := .int 8) (by rw [nI_clamp (by decide)]; rfl) dX3_doAct_10 ?_
  refine lv_tableIn (x := 8) (off := 142) (tgt := 153) hx hb dX3_doAct_11 (by decide) (by decide) (by decide) (by decide) ?_
  refine lv_aload_n hx hb dX3_doAct_153 rfl (lv_at hl 0 rfl) ?_
  refine q_get hx hb hts hown hA hW iX3 ((kO_out hck).trans hc) rfl 0 (by decide) (hts (.fieldLink RX3 15 "HighRecipes$Cooking" "kitchen" "LHighRecipes$Kitchen;") (by decide +kernel)) (fun _ h9 => h9) (v := .ref k) rfl dX3_doAct_154 ?_
  refine lv_aload_n hx hb dX3_doAct_157 rfl (lv_at hl 0 rfl) ?_
  refine lv_aload_n hx hb dX3_doAct_158 rfl (lv_at hl 1 rfl) ?_
  refine q_getN hx hb hts hown hA hW iX1 ((kO_out (hreg a ha1 ha2).1).trans hv) rfl 4 (by decide) (va_Nw.use rfl (hA.2.2.2.1 ("HighRecipes$Cooking", 99, "HighRecipes$Act", "value", "LHighRecipes$Value;", "HighRecipes") (by decide +kernel))) (fun _ h9 => h9) (v := .ref x) rfl dX3_doAct_159 ?_
  refine lv_iconst (v := 0) hx hb dX3_doAct_162 (by decide) ?_
  refine q_ci (va_runV (As := [.ref x, .int 0]) (rest := [.ref k]) ⟨hx, hb, hml, hown, hts⟩ (kX3_worth l E n (kO E f k bk hd v) ck k bk hd v (nI b) w pn rc ac lo hi ((kO_out hck).trans hc) ((kO_out hbo).trans hB) kO_K hbo hpn 5 x 0 D (rV_frame (fun q h1 h2 => (kO_out (hreg q h1 h2).1).trans rfl) (Nat.le_refl _) (Nat.le_refl _) 5 x D hD) (by decide)) (cwV 2 hts gX3_doAct_X3_worth rfl rfl rfl (by decide +kernel) ⟨(by show 15 + 1 ≤ 5 * (d + 6 * R) + 19; omega), (by show 8 + (3 + 11) + 500 ≤ 200 * (d + 6 * R) + 900; omega)⟩) (q_pV hA hW hS (ci := 4) rfl ((kO_out hck).trans hc)) rfl rfl hl.1 rfl (lv_room (Nat.le_of_ble_eq_true rfl)) dX3_doAct_163 ⟨Nat.le_of_ble_eq_true rfl, Nat.le_of_ble_eq_true rfl⟩) hS (fun r_163 f_163 n_163 H locs hp hW hS => ?_)
  obtain ⟨rfl, rfl, rfl⟩ := hp
  have hW : q_W E (kO E f k bk hd v) n H := hW
  refine lv_iconst (v := 0) hx hb dX3_doAct_166 (by decide) ?_
  refine lv_sipush (v := 600) hx hb dX3_doAct_167 (by decide) ?_
  refine q_ci (va_runSN (As := [.int (D hd v), .int 0, .int 600]) (rest := [.ref k]) ⟨hx, hb, hml, hown, hts⟩ (kX12_clamped l E (kO E f k bk hd v) n (D hd v) 0 600) ⟨va_cnB 3 hts gX3_doAct_X12_clamped_n106 rfl rfl rfl (hA.2.2.2.2.1 ("HighRecipes$Cooking", 106, ⟨"HighRecipes", "clamped", "(III)I"⟩, "HighRecipes") (by decide +kernel)) (hts (.initialized RX12) (by decide +kernel)) (by decide +kernel) ⟨(by show 1 + 1 ≤ 5 * (d + 6 * R) + 19; omega), (by show 8 + (3 + 11) + 21 ≤ 200 * (d + 6 * R) + 900; omega)⟩, hts (.static yX12_clamped) (by decide +kernel), trivial⟩ (q_pS hA hW hS) rfl rfl hl.1 rfl (lv_room (Nat.le_of_ble_eq_true rfl)) dX3_doAct_170 ⟨Nat.le_of_ble_eq_true rfl, Nat.le_of_ble_eq_true rfl⟩) hS (fun r_170 f_170 n_170 H locs hp hW hS => ?_)
  obtain ⟨rfl, rfl, rfl⟩ := hp
  have hW : q_W E (kO E f k bk hd v) n H := hW
  refine lv_null hx hb dX3_doAct_173 ?_
  refine q_cv (va_runV (As := [.int (q_clamp (D hd v) 0 600), .null]) (rest := []) ⟨hx, hb, hml, hown, hts⟩ (kX6_passN l E (kO E f k bk hd v) n k bk hd v pn rc ac (q_clamp (D hd v) 0 600) ((kO_out hbo).trans hB) kO_K (by assumption) (by assumption)) (cwV 2 hts gX3_doAct_X6_pass rfl rfl rfl (by decide +kernel) ⟨(by show 2 + 1 ≤ 5 * (d + 6 * R) + 19; omega), (by show 8 + (5 + 11) + 42 ≤ 200 * (d + 6 * R) + 900; omega)⟩) (q_pV hA hW hS (ci := 6) rfl kO_0) rfl rfl hl.1 rfl (lv_room (Nat.le_of_ble_eq_true rfl)) dX3_doAct_174 ⟨Nat.le_of_ble_eq_true rfl, Nat.le_of_ble_eq_true rfl⟩) hS (fun f_174 n_174 H locs hp hW hS => ?_)
  obtain ⟨rfl, rfl⟩ := hp
  rw [kO_kO] at hW
  have hW : q_W E (kO E f k bk hd (z_pass v (q_clamp (D hd v) 0 600) 8 pn)) n H := hW
  refine lv_goto (tgt := 199) hx hb dX3_doAct_177 (by decide) ?_
  exact q_vret hx hb hr hlocks hW hS ⟨(congrArg (fun z : q_KS => kO E (va_up f ck (some (cCook k (nI z.2.1) z.2.2))) k bk hd z.1) (show (k_rest pn D hd (v, b, w)) = (z_pass v (q_clamp (D hd v) 0 600) 8 pn, b, w) from rfl)).trans (congrArg (fun z => kO E z k bk hd (z_pass v (q_clamp (D hd v) 0 600) 8 pn)) (q_id hc)), rfl⟩ (Nat.le_of_ble_eq_true rfl) (Nat.le_of_ble_eq_true rfl) dX3_doAct_199

set_option maxHeartbeats 4000000 in
set_option maxRecDepth 100000 in
theorem kX3_doAct_13 (l : Launch) (E : q_E) (f : q_H) (n : Nat) (ck k bk : Nat) (hd v : Nat → Int32) (b : Nat) (w : Int32) (pn : Nat) (rc ac : Int32) (g : Nat → Option Nat) (BB lo hi : Nat) (RS : Nat → q_S) (R d ar : Nat) (a : Nat) (pan rcp pm : Int32) (lc blk oth nxt : Option Nat) (x : Nat) (D : q_D) (hc : f ck = some (cCook k (nI b) w)) (hB : f bk = some (cBook bk (nI pn) rc ac)) (hG : f (bk + 4) = some (aQ E 3 6 g)) (hv : f a = some (cAct E 13 pan rcp pm (some x) lc blk oth nxt)) (hk : KIT E f k bk hd v) (hbo : kOut k bk) (hpn : pn ≤ 8) (hck : kOut k ck) (hbo4 : kOut k (bk + 4)) (hbc : bk ≠ ck) (hb4c : bk + 4 ≠ ck) (hreg : ∀ q, lo ≤ q → q < hi → kOut k q ∧ q ≠ ck) (hB29 : BB ≤ 2 ^ 29) (ha1 : lo ≤ a) (ha2 : a < hi) (hinv : k_inv1 BB (v, b, w)) (hRS : rRS E pn lo hi f RS g R) (hd0 : 1 ≤ d) (har : ar + (d + 6 * R) ≤ 36) (ihB : ∀ d1 R1, d1 + 6 * R1 < d + 6 * R → BLK l E pn lo hi RS R1 d1) (hD : rV E pn lo hi f 5 x D) : Met l yX3_doAct wsX3_doAct ({ frames := 5 * (d + 6 * R) + 19, cells := 0, slots := 0, locals := 200 * (d + 6 * R) + 900 }) (q_P E [.ref ck, .ref a, .int (nI ar)] f n) (q_Qv E (fun f1 n1 => kO E (va_up f ck (some (cCook k (nI (k_note D hd (v, b, w)).2.1) (k_note D hd (v, b, w)).2.2))) k bk hd (k_note D hd (v, b, w)).1 = f1 ∧ n = n1)) 0 0 (q_ge E) := by
  refine Met.ofW (cc := cX3_doAct) (maxL := 3) (ret := none) (by decide) rfl ?_
  intro p e s m args below meth c s₁ B hml hv
  obtain ⟨rfl, hA, hW⟩ := hv
  have hx := B.exec
  have hb := B.bytes
  have hr := B.returns
  have hts := atoms_spec (ws := wsX3_doAct) B.pre
  have hown : s.vm.findClass RX3 = some m.cls := findClass_of_methodNamed B.named
  have hlocks := B.notSynchronized
  have hS : va_S (q_ge E) s.heap s.heap [] := va_S.rf
  have iX1 : ∀ w ∈ wsX10, w ∈ wsX3_doAct := by decide +kernel
  have iX3 : ∀ w ∈ wsX30, w ∈ wsX3_doAct := by decide +kernel
  have iX6 : ∀ w ∈ wsX60, w ∈ wsX3_doAct := by decide +kernel
  have hl := lv_entry ([.ref ck, .ref a, .int (nI ar)]) (n := 3) (Nat.le_of_ble_eq_true rfl)
  rw [lg_entry_eq]
  generalize (lg_sl ([.ref ck, .ref a, .int (nI ar)]) ++ List.replicate (3 - (lg_sl ([.ref ck, .ref a, .int (nI ar)])).length) Slot.unset).toArray = ls at hl ⊢
  have hl : lv_has ls 3 [(0, .ref ck), (1, .ref a), (2, .int (nI ar))] := hl
  rw [hk.eq] at hW
  have hok : k_ok v := hinv.le.ok hB29
  refine va_gets hx hb hA.2.2.1.2.2.2.1.1 hS hown (hts (.fieldLink RX3 50 "HighRecipes$1" "$SwitchMap$HighRecipes$Kind" "[I") (by decide +kernel)) (fun _ h9 => h9) dX3_doAct_0 ?_
  refine lv_aload_n hx hb dX3_doAct_3 rfl (lv_at hl 1 rfl) ?_
  refine q_getN hx hb hts hown hA hW iX1 ((kO_out (hreg a ha1 ha2).1).trans hv) rfl 0 (by decide) (va_Nw.use rfl (hA.2.2.2.1 ("HighRecipes$Cooking", 56, "HighRecipes$Act", "kind", "LHighRecipes$Kind;", "HighRecipes") (by decide +kernel))) (fun _ h9 => h9) (v := .ref (E.2.2.2 13)) rfl dX3_doAct_4 ?_
  refine q_ci (va_runU (As := []) (rest := [.ref (E.2.2.2 101)]) ⟨hx, hb, hml, hown, hts⟩ (q_ordinal l E (kO E f k bk hd v) n 13 (by decide)) (va_cwU 0 hts gX3_doAct_Jx29ce0_ordinal_8abf5_u60X5 rfl rfl rfl rfl (by decide +kernel) ⟨(by show 0 + 1 ≤ 5 * (d + 6 * R) + 19; omega), (by show 8 + (1 + 11) + 0 ≤ 200 * (d + 6 * R) + 900; omega)⟩) ⟨q_P.blind, va_recvE hA.2.2.1.1 (by decide) hS, fun U hU hWm => ⟨rfl, hA.go hS hU hWm, by rw [hU]; exact hW⟩⟩ rfl rfl hl.1 rfl (lv_room (Nat.le_of_ble_eq_true rfl)) dX3_doAct_7 ⟨(Nat.le_of_ble_eq_true rfl), (Nat.le_of_ble_eq_true rfl)⟩) hS (fun r_7 f_7 n_7 H locs hp hW hS => ?_)
  obtain ⟨rfl, rfl, rfl⟩ := hp
  refine va_ti hx hb hA.2.2.1.2.2.2.1.2 hS (vp_in_nI (by decide) (by decide)) (v := .int 0) (by rw [nI_clamp (by decide)]; rfl) dX3_doAct_10 ?_
  refine lv_tableOut (x := 0) (tgt := 180) hx hb dX3_doAct_11 (by decide) (by decide) ?_
  refine lv_aload_n hx hb dX3_doAct_180 rfl (lv_at hl 0 rfl) ?_
  refine q_get hx hb hts hown hA hW iX3 ((kO_out hck).trans hc) rfl 0 (by decide) (hts (.fieldLink RX3 15 "HighRecipes$Cooking" "kitchen" "LHighRecipes$Kitchen;") (by decide +kernel)) (fun _ h9 => h9) (v := .ref k) rfl dX3_doAct_181 ?_
  refine q_getN hx hb hts hown hA hW iX6 kO_0 rfl 2 (by decide) (va_Nw.use rfl (hA.2.2.2.1 ("HighRecipes$Cooking", 114, "HighRecipes$Kitchen", "notes", "LHighRecipes$History;", "HighRecipes") (by decide +kernel))) (fun _ h9 => h9) (v := .ref (k + 4)) rfl dX3_doAct_184 ?_
  refine lv_aload_n hx hb dX3_doAct_187 rfl (lv_at hl 0 rfl) ?_
  refine lv_aload_n hx hb dX3_doAct_188 rfl (lv_at hl 1 rfl) ?_
  refine q_getN hx hb hts hown hA hW iX1 ((kO_out (hreg a ha1 ha2).1).trans hv) rfl 4 (by decide) (va_Nw.use rfl (hA.2.2.2.1 ("HighRecipes$Cooking", 99, "HighRecipes$Act", "value", "LHighRecipes$Value;", "HighRecipes") (by decide +kernel))) (fun _ h9 => h9) (v := .ref x) rfl dX3_doAct_189 ?_
  refine lv_iconst (v := 0) hx hb dX3_doAct_192 (by decide) ?_
  refine q_ci (va_runV (As := [.ref x, .int 0]) (rest := [.ref (k + 4)]) ⟨hx, hb, hml, hown, hts⟩ (kX3_worth l E n (kO E f k bk hd v) ck k bk hd v (nI b) w pn rc ac lo hi ((kO_out hck).trans hc) ((kO_out hbo).trans hB) kO_K hbo hpn 5 x 0 D (rV_frame (fun q h1 h2 => (kO_out (hreg q h1 h2).1).trans rfl) (Nat.le_refl _) (Nat.le_refl _) 5 x D hD) (by decide)) (cwV 2 hts gX3_doAct_X3_worth rfl rfl rfl (by decide +kernel) ⟨(by show 15 + 1 ≤ 5 * (d + 6 * R) + 19; omega), (by show 8 + (3 + 11) + 500 ≤ 200 * (d + 6 * R) + 900; omega)⟩) (q_pV hA hW hS (ci := 4) rfl ((kO_out hck).trans hc)) rfl rfl hl.1 rfl (lv_room (Nat.le_of_ble_eq_true rfl)) dX3_doAct_193 ⟨Nat.le_of_ble_eq_true rfl, Nat.le_of_ble_eq_true rfl⟩) hS (fun r_193 f_193 n_193 H locs hp hW hS => ?_)
  obtain ⟨rfl, rfl, rfl⟩ := hp
  have hW : q_W E (kO E f k bk hd v) n H := hW
  refine q_cv (va_runV (As := [.int (D hd v)]) (rest := []) ⟨hx, hb, hml, hown, hts⟩ (kX4_add l E (kO E f k bk hd v) n (k + 4) (k_N v) (z_row v 32 20) (D hd v) (kO_4.trans (by rw [hok.2.1])) kO_5 hok.2.2) (cwV 1 hts gX3_doAct_X4_add rfl rfl rfl (by decide +kernel) ⟨(by show 1 + 1 ≤ 5 * (d + 6 * R) + 19; omega), (by show 8 + (3 + 11) + 22 ≤ 200 * (d + 6 * R) + 900; omega)⟩) (q_pV hA hW hS (ci := 5) rfl kO_4) rfl rfl hl.1 rfl (lv_room (Nat.le_of_ble_eq_true rfl)) dX3_doAct_196 ⟨Nat.le_of_ble_eq_true rfl, Nat.le_of_ble_eq_true rfl⟩) hS (fun f_196 n_196 H locs hp hW hS => ?_)
  obtain ⟨rfl, rfl⟩ := hp
  have hW : q_W E (va_up (va_up (kO E f k bk hd v) (k + 5) (some (aI E 20 (upd (z_row v 32 20) ((k_N v) % 20) (D hd v))))) (k + 4) (some (cHis (k + 4) (nI (k_N v) + 1)))) n H := hW
  rw [kO_s5 (by omega)] at hW
  rw [kO_s4] at hW
  have hW : q_W E (kO E f k bk hd (upd (upd v (32 + ((k_N v) % 20)) (D hd v)) 5 (nI (k_N v) + 1))) n H := hW
  exact q_vret hx hb hr hlocks hW hS ⟨(congrArg (fun z : q_KS => kO E (va_up f ck (some (cCook k (nI z.2.1) z.2.2))) k bk hd z.1) (show (k_note D hd (v, b, w)) = (upd (upd v (32 + ((k_N v) % 20)) (D hd v)) 5 (nI (k_N v) + 1), b, w) from rfl)).trans (congrArg (fun z => kO E z k bk hd (upd (upd v (32 + ((k_N v) % 20)) (D hd v)) 5 (nI (k_N v) + 1))) (q_id hc)), rfl⟩ (Nat.le_of_ble_eq_true rfl) (Nat.le_of_ble_eq_true rfl) dX3_doAct_199

set_option maxHeartbeats 4000000 in
set_option maxRecDepth 100000 in
theorem kX3_doAct_14 (l : Launch) (E : q_E) (f : q_H) (n : Nat) (ck k bk : Nat) (hd v : Nat → Int32) (b : Nat) (w : Int32) (pn : Nat) (rc ac : Int32) (g : Nat → Option Nat) (BB lo hi : Nat) (RS : Nat → q_S) (R d ar : Nat) (a : Nat) (pan pm : Int32) (val lc blk oth nxt : Option Nat) (r m9 : Nat) (hc : f ck = some (cCook k (nI b) w)) (hB : f bk = some (cBook bk (nI pn) rc ac)) (hG : f (bk + 4) = some (aQ E 3 6 g)) (hv : f a = some (cAct E 14 pan (nI r) pm val lc blk oth nxt)) (hk : KIT E f k bk hd v) (hbo : kOut k bk) (hpn : pn ≤ 8) (hck : kOut k ck) (hbo4 : kOut k (bk + 4)) (hbc : bk ≠ ck) (hb4c : bk + 4 ≠ ck) (hreg : ∀ q, lo ≤ q → q < hi → kOut k q ∧ q ≠ ck) (hB29 : BB ≤ 2 ^ 29) (ha1 : lo ≤ a) (ha2 : a < hi) (hinv : k_inv1 BB (v, b, w)) (hRS : rRS E pn lo hi f RS g R) (hd0 : 1 ≤ d) (har : ar + (d + 6 * R) ≤ 36) (ihB : ∀ d1 R1, d1 + 6 * R1 < d + 6 * R → BLK l E pn lo hi RS R1 d1) (hr9 : r < R) (hr6 : r < 6) (hL : rL E lo hi f (rA E pn lo hi f RS r 6) m9 (g r) (RS r)) : Met l yX3_doAct wsX3_doAct ({ frames := 5 * (d + 6 * R) + 19, cells := 0, slots := 0, locals := 200 * (d + 6 * R) + 900 }) (q_P E [.ref ck, .ref a, .int (nI ar)] f n) (q_Qv E (fun f1 n1 => kO E (va_up f ck (some (cCook k (nI (RS r hd (v, b, w)).2.1) (RS r hd (v, b, w)).2.2))) k bk hd (RS r hd (v, b, w)).1 = f1 ∧ n = n1)) 0 0 (q_ge E) := by
  refine Met.ofW (cc := cX3_doAct) (maxL := 3) (ret := none) (by decide) rfl ?_
  intro p e s m args below meth c s₁ B hml hv
  obtain ⟨rfl, hA, hW⟩ := hv
  have hx := B.exec
  have hb := B.bytes
  have hr := B.returns
  have hts := atoms_spec (ws := wsX3_doAct) B.pre
  have hown : s.vm.findClass RX3 = some m.cls := findClass_of_methodNamed B.named
  have hlocks := B.notSynchronized
  have hS : va_S (q_ge E) s.heap s.heap [] := va_S.rf
  have iX1 : ∀ w ∈ wsX10, w ∈ wsX3_doAct := by decide +kernel
  have iX3 : ∀ w ∈ wsX30, w ∈ wsX3_doAct := by decide +kernel
  have iX6 : ∀ w ∈ wsX60, w ∈ wsX3_doAct := by decide +kernel
  have hl := lv_entry ([.ref ck, .ref a, .int (nI ar)]) (n := 3) (Nat.le_of_ble_eq_true rfl)
  rw [lg_entry_eq]
  generalize (lg_sl ([.ref ck, .ref a, .int (nI ar)]) ++ List.replicate (3 - (lg_sl ([.ref ck, .ref a, .int (nI ar)])).length) Slot.unset).toArray = ls at hl ⊢
  have hl : lv_has ls 3 [(0, .ref ck), (1, .ref a), (2, .int (nI ar))] := hl
  have hok : k_ok v := hinv.le.ok hB29
  refine va_gets hx hb hA.2.2.1.2.2.2.1.1 hS hown (hts (.fieldLink RX3 50 "HighRecipes$1" "$SwitchMap$HighRecipes$Kind" "[I") (by decide +kernel)) (fun _ h9 => h9) dX3_doAct_0 ?_
  refine lv_aload_n hx hb dX3_doAct_3 rfl (lv_at hl 1 rfl) ?_
  refine q_getN hx hb hts hown hA hW iX1 hv rfl 0 (by decide) (va_Nw.use rfl (hA.2.2.2.1 ("HighRecipes$Cooking", 56, "HighRecipes$Act", "kind", "LHighRecipes$Kind;", "HighRecipes") (by decide +kernel))) (fun _ h9 => h9) (v := .ref (E.2.2.2 14)) rfl dX3_doAct_4 ?_
  refine q_ci (va_runU (As := []) (rest := [.ref (E.2.2.2 101)]) ⟨hx, hb, hml, hown, hts⟩ (q_ordinal l E f n 14 (by decide)) (va_cwU 0 hts gX3_doAct_Jx29ce0_ordinal_8abf5_u60X5 rfl rfl rfl rfl (by decide +kernel) ⟨(by show 0 + 1 ≤ 5 * (d + 6 * R) + 19; omega), (by show 8 + (1 + 11) + 0 ≤ 200 * (d + 6 * R) + 900; omega)⟩) ⟨q_P.blind, va_recvE hA.2.2.1.1 (by decide) hS, fun U hU hWm => ⟨rfl, hA.go hS hU hWm, by rw [hU]; exact hW⟩⟩ rfl rfl hl.1 rfl (lv_room (Nat.le_of_ble_eq_true rfl)) dX3_doAct_7 ⟨(Nat.le_of_ble_eq_true rfl), (Nat.le_of_ble_eq_true rfl)⟩) hS (fun r_7 f_7 n_7 H locs hp hW hS => ?_)
  obtain ⟨rfl, rfl, rfl⟩ := hp
  refine va_ti hx hb hA.2.2.1.2.2.2.1.2 hS (vp_in_nI (by decide) (by decide)) (v := .int 7) (by rw [nI_clamp (by decide)]; rfl) dX3_doAct_10 ?_
  refine lv_tableIn (x := 7) (off := 45) (tgt := 56) hx hb dX3_doAct_11 (by decide) (by decide) (by decide) (by decide) ?_
  refine lv_aload_n hx hb dX3_doAct_56 rfl (lv_at hl 0 rfl) ?_
  refine lv_aload_n hx hb dX3_doAct_57 rfl (lv_at hl 0 rfl) ?_
  refine q_get hx hb hts hown hA hW iX3 hc rfl 0 (by decide) (hts (.fieldLink RX3 15 "HighRecipes$Cooking" "kitchen" "LHighRecipes$Kitchen;") (by decide +kernel)) (fun _ h9 => h9) (v := .ref k) rfl dX3_doAct_58 ?_
  refine q_getN hx hb hts hown hA hW iX6 hk.g0 rfl 4 (by decide) (va_Nw.use rfl (hA.2.2.2.1 ("HighRecipes$Cooking", 27, "HighRecipes$Kitchen", "book", "LHighRecipes$Book;", "HighRecipes") (by decide +kernel))) (fun _ h9 => h9) (v := .ref bk) rfl dX3_doAct_61 ?_
  refine lv_aload_n hx hb dX3_doAct_64 rfl (lv_at hl 1 rfl) ?_
  refine q_getN hx hb hts hown hA hW iX1 hv rfl 2 (by decide) (va_Nw.use rfl (hA.2.2.2.1 ("HighRecipes$Cooking", 66, "HighRecipes$Act", "recipe", "I", "HighRecipes") (by decide +kernel))) (fun _ h9 => h9) (v := .int (nI r)) rfl dX3_doAct_65 ?_
  refine q_cq (va_runV (As := [.int (nI r)]) (rest := [.ref ck]) ⟨hx, hb, hml, hown, hts⟩ (kX2_blockOf l E f n bk (nI pn) rc ac g r hB hG hr6) (cwV 1 hts gX3_doAct_X2_blockOf rfl rfl rfl (by decide +kernel) ⟨(by show 0 + 1 ≤ 5 * (d + 6 * R) + 19; omega), (by show 8 + (2 + 11) + 0 ≤ 200 * (d + 6 * R) + 900; omega)⟩) (q_pV hA hW hS (ci := 3) rfl hB) rfl rfl hl.1 rfl (lv_room (Nat.le_of_ble_eq_true rfl)) dX3_doAct_68 ⟨Nat.le_of_ble_eq_true rfl, Nat.le_of_ble_eq_true rfl⟩) hS (fun r_68 f_68 n_68 H locs hp hW hS => ?_)
  obtain ⟨rfl, rfl, rfl⟩ := hp
  have hW : q_W E f n H := hW
  refine lv_iload_n hx hb dX3_doAct_71 rfl (lv_at hl 2 rfl) ?_
  refine lv_iconst (v := 1) hx hb dX3_doAct_72 (by decide) ?_
  refine lv_iadd hx hb dX3_doAct_73 ?_
  rw [nI_1]
  refine q_cv (va_runV (As := [va_rf (g r), .int (nI (ar + 1))]) (rest := []) ⟨hx, hb, hml, hown, hts⟩ (ihB 6 r (by omega) f n ck k bk hd v b w rc ac g BB m9 (g r) (RS r) (ar + 1) hc hB hG hk hbo hpn hck hbo4 hbc hb4c hreg hB29 hinv.le (rep_RS (fun _ _ _ => rfl) (fun r2 h2 => hRS r2 (Nat.lt_trans h2 hr9))) (rep_L (fun _ _ _ => rfl) hL) (by omega) (by omega)) (cwV 2 hts gX3_doAct_X3_doBlock rfl rfl rfl (by decide +kernel) ⟨(by show (5 * (6 + 6 * r) + 20) + 1 ≤ 5 * (d + 6 * R) + 19; omega), (by show 8 + (4 + 11) + (200 * (6 + 6 * r) + 1000) ≤ 200 * (d + 6 * R) + 900; omega)⟩) (q_pV hA hW hS (ci := 4) rfl hc) rfl rfl hl.1 rfl (lv_room (Nat.le_of_ble_eq_true rfl)) dX3_doAct_74 ⟨Nat.le_of_ble_eq_true rfl, Nat.le_of_ble_eq_true rfl⟩) hS (fun f_74 n_74 H locs hp hW hS => ?_)
  obtain ⟨rfl, rfl⟩ := hp
  have hW : q_W E (kO E (va_up f ck (some (cCook k (nI ((RS r) hd (v, b, w)).2.1) ((RS r) hd (v, b, w)).2.2))) k bk hd ((RS r) hd (v, b, w)).1) n H := hW
  refine lv_goto (tgt := 199) hx hb dX3_doAct_77 (by decide) ?_
  exact q_vret hx hb hr hlocks hW hS ⟨rfl, rfl⟩ (Nat.le_of_ble_eq_true rfl) (Nat.le_of_ble_eq_true rfl) dX3_doAct_199

set_option maxHeartbeats 4000000 in
set_option maxRecDepth 100000 in
theorem kX3_doAct_15 (l : Launch) (E : q_E) (f : q_H) (n : Nat) (ck k bk : Nat) (hd v : Nat → Int32) (b : Nat) (w : Int32) (pn : Nat) (rc ac : Int32) (g : Nat → Option Nat) (BB lo hi : Nat) (RS : Nat → q_S) (R d ar : Nat) (a : Nat) (pan rcp pm : Int32) (lc blk oth nxt : Option Nat) (d1 x : Nat) (D : q_D) (m9 : Nat) (B0 : q_S) (hc : f ck = some (cCook k (nI b) w)) (hB : f bk = some (cBook bk (nI pn) rc ac)) (hG : f (bk + 4) = some (aQ E 3 6 g)) (hv : f a = some (cAct E 15 pan rcp pm (some x) lc blk oth nxt)) (hk : KIT E f k bk hd v) (hbo : kOut k bk) (hpn : pn ≤ 8) (hck : kOut k ck) (hbo4 : kOut k (bk + 4)) (hbc : bk ≠ ck) (hb4c : bk + 4 ≠ ck) (hreg : ∀ q, lo ≤ q → q < hi → kOut k q ∧ q ≠ ck) (hB29 : BB ≤ 2 ^ 29) (ha1 : lo ≤ a) (ha2 : a < hi) (hinv : k_inv1 BB (v, b, w)) (hRS : rRS E pn lo hi f RS g R) (hd0 : 1 ≤ d) (har : ar + (d + 6 * R) ≤ 36) (ihB : ∀ d1 R1, d1 + 6 * R1 < d + 6 * R → BLK l E pn lo hi RS R1 d1) (hD : rV E pn lo hi f 5 x D) (hL : rL E lo hi f (rA E pn lo hi f RS R d1) m9 blk B0) (hd1 : 1 ≤ d1) (hd2 : d1 + 1 = d) : Met l yX3_doAct wsX3_doAct ({ frames := 5 * (d + 6 * R) + 19, cells := 0, slots := 0, locals := 200 * (d + 6 * R) + 900 }) (q_P E [.ref ck, .ref a, .int (nI ar)] f n) (q_Qv E (fun f1 n1 => kO E (va_up f ck (some (cCook k (nI (k_again D B0 hd (v, b, w)).2.1) (k_again D B0 hd (v, b, w)).2.2))) k bk hd (k_again D B0 hd (v, b, w)).1 = f1 ∧ n = n1)) 0 0 (q_ge E) := by
  refine Met.ofW (cc := cX3_doAct) (maxL := 3) (ret := none) (by decide) rfl ?_
  intro p e s m args below meth c s₁ B hml hv
  obtain ⟨rfl, hA, hW⟩ := hv
  have hx := B.exec
  have hb := B.bytes
  have hr := B.returns
  have hts := atoms_spec (ws := wsX3_doAct) B.pre
  have hown : s.vm.findClass RX3 = some m.cls := findClass_of_methodNamed B.named
  have hlocks := B.notSynchronized
  have hS : va_S (q_ge E) s.heap s.heap [] := va_S.rf
  have iX1 : ∀ w ∈ wsX10, w ∈ wsX3_doAct := by decide +kernel
  have hl := lv_entry ([.ref ck, .ref a, .int (nI ar)]) (n := 3) (Nat.le_of_ble_eq_true rfl)
  rw [lg_entry_eq]
  generalize (lg_sl ([.ref ck, .ref a, .int (nI ar)]) ++ List.replicate (3 - (lg_sl ([.ref ck, .ref a, .int (nI ar)])).length) Slot.unset).toArray = ls at hl ⊢
  have hl : lv_has ls 3 [(0, .ref ck), (1, .ref a), (2, .int (nI ar))] := hl
  have hok : k_ok v := hinv.le.ok hB29
  refine va_gets hx hb hA.2.2.1.2.2.2.1.1 hS hown (hts (.fieldLink RX3 50 "HighRecipes$1" "$SwitchMap$HighRecipes$Kind" "[I") (by decide +kernel)) (fun _ h9 => h9) dX3_doAct_0 ?_
  refine lv_aload_n hx hb dX3_doAct_3 rfl (lv_at hl 1 rfl) ?_
  refine q_getN hx hb hts hown hA hW iX1 hv rfl 0 (by decide) (va_Nw.use rfl (hA.2.2.2.1 ("HighRecipes$Cooking", 56, "HighRecipes$Act", "kind", "LHighRecipes$Kind;", "HighRecipes") (by decide +kernel))) (fun _ h9 => h9) (v := .ref (E.2.2.2 15)) rfl dX3_doAct_4 ?_
  refine q_ci (va_runU (As := []) (rest := [.ref (E.2.2.2 101)]) ⟨hx, hb, hml, hown, hts⟩ (q_ordinal l E f n 15 (by decide)) (va_cwU 0 hts gX3_doAct_Jx29ce0_ordinal_8abf5_u60X5 rfl rfl rfl rfl (by decide +kernel) ⟨(by show 0 + 1 ≤ 5 * (d + 6 * R) + 19; omega), (by show 8 + (1 + 11) + 0 ≤ 200 * (d + 6 * R) + 900; omega)⟩) ⟨q_P.blind, va_recvE hA.2.2.1.1 (by decide) hS, fun U hU hWm => ⟨rfl, hA.go hS hU hWm, by rw [hU]; exact hW⟩⟩ rfl rfl hl.1 rfl (lv_room (Nat.le_of_ble_eq_true rfl)) dX3_doAct_7 ⟨(Nat.le_of_ble_eq_true rfl), (Nat.le_of_ble_eq_true rfl)⟩) hS (fun r_7 f_7 n_7 H locs hp hW hS => ?_)
  obtain ⟨rfl, rfl, rfl⟩ := hp
  refine va_ti hx hb hA.2.2.1.2.2.2.1.2 hS (vp_in_nI (by decide) (by decide)) (v := .int 1) (by rw [nI_clamp (by decide)]; rfl) dX3_doAct_10 ?_
  refine lv_tableIn (x := 1) (off := 69) (tgt := 80) hx hb dX3_doAct_11 (by decide) (by decide) (by decide) (by decide) ?_
  refine lv_aload_n hx hb dX3_doAct_80 rfl (lv_at hl 0 rfl) ?_
  refine lv_aload_n hx hb dX3_doAct_81 rfl (lv_at hl 1 rfl) ?_
  refine lv_iload_n hx hb dX3_doAct_82 rfl (lv_at hl 2 rfl) ?_
  refine q_cv (va_runV (As := [.ref a, .int (nI ar)]) (rest := []) ⟨hx, hb, hml, hown, hts⟩ (kX3_doAgain l E f n ck k bk hd v b w pn rc ac g BB lo hi RS R d ar a d1 pan rcp pm x lc blk oth nxt D m9 B0 hc hB hG hv (by assumption) (by assumption) (by assumption) (by assumption) (by assumption) (by assumption) (by assumption) (by assumption) (by assumption) (by assumption) (by assumption) hinv.le (by assumption) (by assumption) (by assumption) (by assumption) (by assumption) (by assumption) (by assumption)) (cwV 2 hts gX3_doAct_X3_doAgain rfl rfl rfl (by decide +kernel) ⟨(by show (5 * (d + 6 * R) + 18) + 1 ≤ 5 * (d + 6 * R) + 19; omega), (by show 8 + (5 + 11) + (200 * (d + 6 * R) + 850) ≤ 200 * (d + 6 * R) + 900; omega)⟩) (q_pV hA hW hS (ci := 4) rfl hc) rfl rfl hl.1 rfl (lv_room (Nat.le_of_ble_eq_true rfl)) dX3_doAct_83 ⟨Nat.le_of_ble_eq_true rfl, Nat.le_of_ble_eq_true rfl⟩) hS (fun f_83 n_83 H locs hp hW hS => ?_)
  obtain ⟨rfl, rfl⟩ := hp
  have hW : q_W E (kO E (va_up f ck (some (cCook k (nI (k_again D B0 hd (v, b, w)).2.1) (k_again D B0 hd (v, b, w)).2.2))) k bk hd (k_again D B0 hd (v, b, w)).1) n H := hW
  refine lv_goto (tgt := 199) hx hb dX3_doAct_86 (by decide) ?_
  exact q_vret hx hb hr hlocks hW hS ⟨rfl, rfl⟩ (Nat.le_of_ble_eq_true rfl) (Nat.le_of_ble_eq_true rfl) dX3_doAct_199

set_option maxHeartbeats 4000000 in
set_option maxRecDepth 100000 in
theorem kX3_doAct_16N (l : Launch) (E : q_E) (f : q_H) (n : Nat) (ck k bk : Nat) (hd v : Nat → Int32) (b : Nat) (w : Int32) (pn : Nat) (rc ac : Int32) (g : Nat → Option Nat) (BB lo hi : Nat) (RS : Nat → q_S) (R d ar : Nat) (a : Nat) (pan rcp pm : Int32) (val blk oth nxt : Option Nat) (d1 mc : Nat) (C : q_V → q_V → Bool) (m1 : Nat) (B1 : q_S) (m2 : Nat) (B2 : q_S) (hc : f ck = some (cCook k (nI b) w)) (hB : f bk = some (cBook bk (nI pn) rc ac)) (hG : f (bk + 4) = some (aQ E 3 6 g)) (hv : f a = some (cAct E 16 pan rcp pm val none blk oth nxt)) (hk : KIT E f k bk hd v) (hbo : kOut k bk) (hpn : pn ≤ 8) (hck : kOut k ck) (hbo4 : kOut k (bk + 4)) (hbc : bk ≠ ck) (hb4c : bk + 4 ≠ ck) (hreg : ∀ q, lo ≤ q → q < hi → kOut k q ∧ q ≠ ck) (hB29 : BB ≤ 2 ^ 29) (ha1 : lo ≤ a) (ha2 : a < hi) (hinv : k_inv1 BB (v, b, w)) (hRS : rRS E pn lo hi f RS g R) (hd0 : 1 ≤ d) (har : ar + (d + 6 * R) ≤ 36) (ihB : ∀ d1 R1, d1 + 6 * R1 < d + 6 * R → BLK l E pn lo hi RS R1 d1) (hC : rC E pn lo hi f mc (none) C) (hL1 : rL E lo hi f (rA E pn lo hi f RS R d1) m1 blk B1) (hL2 : rL E lo hi f (rA E pn lo hi f RS R d1) m2 oth B2) (hd1 : 1 ≤ d1) (hd2 : d1 + 1 = d) : Met l yX3_doAct wsX3_doAct ({ frames := 5 * (d + 6 * R) + 19, cells := 0, slots := 0, locals := 200 * (d + 6 * R) + 900 }) (q_P E [.ref ck, .ref a, .int (nI ar)] f n) (q_Qv E (fun f1 n1 => kO E (va_up f ck (some (cCook k (nI (k_if C B1 B2 hd (v, b, w)).2.1) (k_if C B1 B2 hd (v, b, w)).2.2))) k bk hd (k_if C B1 B2 hd (v, b, w)).1 = f1 ∧ n = n1)) 0 0 (q_ge E) := by
  refine Met.ofW (cc := cX3_doAct) (maxL := 3) (ret := none) (by decide) rfl ?_
  intro p e s m args below meth c s₁ B hml hv
  obtain ⟨rfl, hA, hW⟩ := hv
  have hx := B.exec
  have hb := B.bytes
  have hr := B.returns
  have hts := atoms_spec (ws := wsX3_doAct) B.pre
  have hown : s.vm.findClass RX3 = some m.cls := findClass_of_methodNamed B.named
  have hlocks := B.notSynchronized
  have hS : va_S (q_ge E) s.heap s.heap [] := va_S.rf
  have iX1 : ∀ w ∈ wsX10, w ∈ wsX3_doAct := by decide +kernel
  have hl := lv_entry ([.ref ck, .ref a, .int (nI ar)]) (n := 3) (Nat.le_of_ble_eq_true rfl)
  rw [lg_entry_eq]
  generalize (lg_sl ([.ref ck, .ref a, .int (nI ar)]) ++ List.replicate (3 - (lg_sl ([.ref ck, .ref a, .int (nI ar)])).length) Slot.unset).toArray = ls at hl ⊢
  have hl : lv_has ls 3 [(0, .ref ck), (1, .ref a), (2, .int (nI ar))] := hl
  have hok : k_ok v := hinv.le.ok hB29
  refine va_gets hx hb hA.2.2.1.2.2.2.1.1 hS hown (hts (.fieldLink RX3 50 "HighRecipes$1" "$SwitchMap$HighRecipes$Kind" "[I") (by decide +kernel)) (fun _ h9 => h9) dX3_doAct_0 ?_
  refine lv_aload_n hx hb dX3_doAct_3 rfl (lv_at hl 1 rfl) ?_
  refine q_getN hx hb hts hown hA hW iX1 hv rfl 0 (by decide) (va_Nw.use rfl (hA.2.2.2.1 ("HighRecipes$Cooking", 56, "HighRecipes$Act", "kind", "LHighRecipes$Kind;", "HighRecipes") (by decide +kernel))) (fun _ h9 => h9) (v := .ref (E.2.2.2 16)) rfl dX3_doAct_4 ?_
  refine q_ci (va_runU (As := []) (rest := [.ref (E.2.2.2 101)]) ⟨hx, hb, hml, hown, hts⟩ (q_ordinal l E f n 16 (by decide)) (va_cwU 0 hts gX3_doAct_Jx29ce0_ordinal_8abf5_u60X5 rfl rfl rfl rfl (by decide +kernel) ⟨(by show 0 + 1 ≤ 5 * (d + 6 * R) + 19; omega), (by show 8 + (1 + 11) + 0 ≤ 200 * (d + 6 * R) + 900; omega)⟩) ⟨q_P.blind, va_recvE hA.2.2.1.1 (by decide) hS, fun U hU hWm => ⟨rfl, hA.go hS hU hWm, by rw [hU]; exact hW⟩⟩ rfl rfl hl.1 rfl (lv_room (Nat.le_of_ble_eq_true rfl)) dX3_doAct_7 ⟨(Nat.le_of_ble_eq_true rfl), (Nat.le_of_ble_eq_true rfl)⟩) hS (fun r_7 f_7 n_7 H locs hp hW hS => ?_)
  obtain ⟨rfl, rfl, rfl⟩ := hp
  refine va_ti hx hb hA.2.2.1.2.2.2.1.2 hS (vp_in_nI (by decide) (by decide)) (v := .int 2) (by rw [nI_clamp (by decide)]; rfl) dX3_doAct_10 ?_
  refine lv_tableIn (x := 2) (off := 78) (tgt := 89) hx hb dX3_doAct_11 (by decide) (by decide) (by decide) (by decide) ?_
  refine lv_aload_n hx hb dX3_doAct_89 rfl (lv_at hl 0 rfl) ?_
  refine lv_aload_n hx hb dX3_doAct_90 rfl (lv_at hl 0 rfl) ?_
  refine lv_aload_n hx hb dX3_doAct_91 rfl (lv_at hl 1 rfl) ?_
  refine q_getN hx hb hts hown hA hW iX1 hv rfl 5 (by decide) (va_Nw.use rfl (hA.2.2.2.1 ("HighRecipes$Cooking", 72, "HighRecipes$Act", "lastCompare", "LHighRecipes$Value;", "HighRecipes") (by decide +kernel))) (fun _ h9 => h9) (v := .null) rfl dX3_doAct_92 ?_
  refine q_ci (va_runV (As := [.null]) (rest := [.ref ck]) ⟨hx, hb, hml, hown, hts⟩ (kX3_allAreSoN l E f n ck k bk hd v b w pn rc ac lo hi mc C hc hB (by assumption) (by assumption) (by assumption) (by assumption) hC) (cwV 1 hts gX3_doAct_X3_allAreSo rfl rfl rfl (by decide +kernel) ⟨(by show 16 + 1 ≤ 5 * (d + 6 * R) + 19; omega), (by show 8 + (6 + 11) + 600 ≤ 200 * (d + 6 * R) + 900; omega)⟩) (q_pV hA hW hS (ci := 4) rfl hc) rfl rfl hl.1 rfl (lv_room (Nat.le_of_ble_eq_true rfl)) dX3_doAct_95 ⟨Nat.le_of_ble_eq_true rfl, Nat.le_of_ble_eq_true rfl⟩) hS (fun r_95 f_95 n_95 H locs hp hW hS => ?_)
  obtain ⟨rfl, rfl, rfl⟩ := hp
  have hW : q_W E (f) n H := hW
  refine lv_if_eq (tgt := 108) hx hb dX3_doAct_98 (by decide) (fun c_98 => ?_) (fun c_98 => ?_)
  · have eC : ¬ C hd v = true := fun h9 => absurd c_98 (by rw [if_pos h9]; decide)
    refine lv_aload_n hx hb dX3_doAct_108 rfl (lv_at hl 1 rfl) ?_
    refine q_getN hx hb hts hown hA hW iX1 hv rfl 7 (by decide) (va_Nw.use rfl (hA.2.2.2.1 ("HighRecipes$Cooking", 83, "HighRecipes$Act", "otherwise", "LHighRecipes$Act;", "HighRecipes") (by decide +kernel))) (fun _ h9 => h9) (v := va_rf oth) rfl dX3_doAct_109 ?_
    refine lv_iload_n hx hb dX3_doAct_112 rfl (lv_at hl 2 rfl) ?_
    refine lv_iconst (v := 1) hx hb dX3_doAct_113 (by decide) ?_
    refine lv_iadd hx hb dX3_doAct_114 ?_
    rw [nI_1]
    refine q_cv (va_runV (As := [va_rf oth, .int (nI (ar + 1))]) (rest := []) ⟨hx, hb, hml, hown, hts⟩ (ihB d1 R (by omega) f n ck k bk hd v b w rc ac g BB m2 oth B2 (ar + 1) hc hB hG hk hbo hpn hck hbo4 hbc hb4c hreg hB29 hinv.le (rep_RS (fun _ _ _ => rfl) hRS) (rep_L (fun _ _ _ => rfl) hL2) (by omega) (by omega)) (cwV 2 hts gX3_doAct_X3_doBlock rfl rfl rfl (by decide +kernel) ⟨(by show (5 * (d1 + 6 * R) + 20) + 1 ≤ 5 * (d + 6 * R) + 19; omega), (by show 8 + (4 + 11) + (200 * (d1 + 6 * R) + 1000) ≤ 200 * (d + 6 * R) + 900; omega)⟩) (q_pV hA hW hS (ci := 4) rfl hc) rfl rfl hl.1 rfl (lv_room (Nat.le_of_ble_eq_true rfl)) dX3_doAct_115 ⟨Nat.le_of_ble_eq_true rfl, Nat.le_of_ble_eq_true rfl⟩) hS (fun f_115 n_115 H locs hp hW hS => ?_)
    obtain ⟨rfl, rfl⟩ := hp
    have hW : q_W E (kO E (va_up f ck (some (cCook k (nI (B2 hd (v, b, w)).2.1) (B2 hd (v, b, w)).2.2))) k bk hd (B2 hd (v, b, w)).1) n H := hW
    refine lv_goto (tgt := 199) hx hb dX3_doAct_118 (by decide) ?_
    exact q_vret hx hb hr hlocks hW hS ⟨by unfold k_if; rw [show (v, b, w).1 = v from rfl, if_neg eC], rfl⟩ (Nat.le_of_ble_eq_true rfl) (Nat.le_of_ble_eq_true rfl) dX3_doAct_199
  · have eC : C hd v = true := by rcases Classical.em (C hd v = true) with h9 | h9; exact h9; exact absurd (if_neg h9) c_98
    refine lv_aload_n hx hb dX3_doAct_101 rfl (lv_at hl 1 rfl) ?_
    refine q_getN hx hb hts hown hA hW iX1 hv rfl 6 (by decide) (va_Nw.use rfl (hA.2.2.2.1 ("HighRecipes$Cooking", 80, "HighRecipes$Act", "block", "LHighRecipes$Act;", "HighRecipes") (by decide +kernel))) (fun _ h9 => h9) (v := va_rf blk) rfl dX3_doAct_102 ?_
    refine lv_goto (tgt := 112) hx hb dX3_doAct_105 (by decide) ?_
    refine lv_iload_n hx hb dX3_doAct_112 rfl (lv_at hl 2 rfl) ?_
    refine lv_iconst (v := 1) hx hb dX3_doAct_113 (by decide) ?_
    refine lv_iadd hx hb dX3_doAct_114 ?_
    rw [nI_1]
    refine q_cv (va_runV (As := [va_rf blk, .int (nI (ar + 1))]) (rest := []) ⟨hx, hb, hml, hown, hts⟩ (ihB d1 R (by omega) f n ck k bk hd v b w rc ac g BB m1 blk B1 (ar + 1) hc hB hG hk hbo hpn hck hbo4 hbc hb4c hreg hB29 hinv.le (rep_RS (fun _ _ _ => rfl) hRS) (rep_L (fun _ _ _ => rfl) hL1) (by omega) (by omega)) (cwV 2 hts gX3_doAct_X3_doBlock rfl rfl rfl (by decide +kernel) ⟨(by show (5 * (d1 + 6 * R) + 20) + 1 ≤ 5 * (d + 6 * R) + 19; omega), (by show 8 + (4 + 11) + (200 * (d1 + 6 * R) + 1000) ≤ 200 * (d + 6 * R) + 900; omega)⟩) (q_pV hA hW hS (ci := 4) rfl hc) rfl rfl hl.1 rfl (lv_room (Nat.le_of_ble_eq_true rfl)) dX3_doAct_115 ⟨Nat.le_of_ble_eq_true rfl, Nat.le_of_ble_eq_true rfl⟩) hS (fun f_115 n_115 H locs hp hW hS => ?_)
    obtain ⟨rfl, rfl⟩ := hp
    have hW : q_W E (kO E (va_up f ck (some (cCook k (nI (B1 hd (v, b, w)).2.1) (B1 hd (v, b, w)).2.2))) k bk hd (B1 hd (v, b, w)).1) n H := hW
    refine lv_goto (tgt := 199) hx hb dX3_doAct_118 (by decide) ?_
    exact q_vret hx hb hr hlocks hW hS ⟨by unfold k_if; rw [show (v, b, w).1 = v from rfl, if_pos eC], rfl⟩ (Nat.le_of_ble_eq_true rfl) (Nat.le_of_ble_eq_true rfl) dX3_doAct_199

set_option maxHeartbeats 4000000 in
set_option maxRecDepth 100000 in
theorem kX3_doAct_16S (l : Launch) (E : q_E) (f : q_H) (n : Nat) (ck k bk : Nat) (hd v : Nat → Int32) (b : Nat) (w : Int32) (pn : Nat) (rc ac : Int32) (g : Nat → Option Nat) (BB lo hi : Nat) (RS : Nat → q_S) (R d ar : Nat) (a : Nat) (pan rcp pm : Int32) (val blk oth nxt : Option Nat) (a9 : Nat) (d1 mc : Nat) (C : q_V → q_V → Bool) (m1 : Nat) (B1 : q_S) (m2 : Nat) (B2 : q_S) (hc : f ck = some (cCook k (nI b) w)) (hB : f bk = some (cBook bk (nI pn) rc ac)) (hG : f (bk + 4) = some (aQ E 3 6 g)) (hv : f a = some (cAct E 16 pan rcp pm val (some a9) blk oth nxt)) (hk : KIT E f k bk hd v) (hbo : kOut k bk) (hpn : pn ≤ 8) (hck : kOut k ck) (hbo4 : kOut k (bk + 4)) (hbc : bk ≠ ck) (hb4c : bk + 4 ≠ ck) (hreg : ∀ q, lo ≤ q → q < hi → kOut k q ∧ q ≠ ck) (hB29 : BB ≤ 2 ^ 29) (ha1 : lo ≤ a) (ha2 : a < hi) (hinv : k_inv1 BB (v, b, w)) (hRS : rRS E pn lo hi f RS g R) (hd0 : 1 ≤ d) (har : ar + (d + 6 * R) ≤ 36) (ihB : ∀ d1 R1, d1 + 6 * R1 < d + 6 * R → BLK l E pn lo hi RS R1 d1) (hC : rC E pn lo hi f mc (some a9) C) (hL1 : rL E lo hi f (rA E pn lo hi f RS R d1) m1 blk B1) (hL2 : rL E lo hi f (rA E pn lo hi f RS R d1) m2 oth B2) (hd1 : 1 ≤ d1) (hd2 : d1 + 1 = d) : Met l yX3_doAct wsX3_doAct ({ frames := 5 * (d + 6 * R) + 19, cells := 0, slots := 0, locals := 200 * (d + 6 * R) + 900 }) (q_P E [.ref ck, .ref a, .int (nI ar)] f n) (q_Qv E (fun f1 n1 => kO E (va_up f ck (some (cCook k (nI (k_if C B1 B2 hd (v, b, w)).2.1) (k_if C B1 B2 hd (v, b, w)).2.2))) k bk hd (k_if C B1 B2 hd (v, b, w)).1 = f1 ∧ n = n1)) 0 0 (q_ge E) := by
  refine Met.ofW (cc := cX3_doAct) (maxL := 3) (ret := none) (by decide) rfl ?_
  intro p e s m args below meth c s₁ B hml hv
  obtain ⟨rfl, hA, hW⟩ := hv
  have hx := B.exec
  have hb := B.bytes
  have hr := B.returns
  have hts := atoms_spec (ws := wsX3_doAct) B.pre
  have hown : s.vm.findClass RX3 = some m.cls := findClass_of_methodNamed B.named
  have hlocks := B.notSynchronized
  have hS : va_S (q_ge E) s.heap s.heap [] := va_S.rf
  have iX1 : ∀ w ∈ wsX10, w ∈ wsX3_doAct := by decide +kernel
  have hl := lv_entry ([.ref ck, .ref a, .int (nI ar)]) (n := 3) (Nat.le_of_ble_eq_true rfl)
  rw [lg_entry_eq]
  generalize (lg_sl ([.ref ck, .ref a, .int (nI ar)]) ++ List.replicate (3 - (lg_sl ([.ref ck, .ref a, .int (nI ar)])).length) Slot.unset).toArray = ls at hl ⊢
  have hl : lv_has ls 3 [(0, .ref ck), (1, .ref a), (2, .int (nI ar))] := hl
  have hok : k_ok v := hinv.le.ok hB29
  refine va_gets hx hb hA.2.2.1.2.2.2.1.1 hS hown (hts (.fieldLink RX3 50 "HighRecipes$1" "$SwitchMap$HighRecipes$Kind" "[I") (by decide +kernel)) (fun _ h9 => h9) dX3_doAct_0 ?_
  refine lv_aload_n hx hb dX3_doAct_3 rfl (lv_at hl 1 rfl) ?_
  refine q_getN hx hb hts hown hA hW iX1 hv rfl 0 (by decide) (va_Nw.use rfl (hA.2.2.2.1 ("HighRecipes$Cooking", 56, "HighRecipes$Act", "kind", "LHighRecipes$Kind;", "HighRecipes") (by decide +kernel))) (fun _ h9 => h9) (v := .ref (E.2.2.2 16)) rfl dX3_doAct_4 ?_
  refine q_ci (va_runU (As := []) (rest := [.ref (E.2.2.2 101)]) ⟨hx, hb, hml, hown, hts⟩ (q_ordinal l E f n 16 (by decide)) (va_cwU 0 hts gX3_doAct_Jx29ce0_ordinal_8abf5_u60X5 rfl rfl rfl rfl (by decide +kernel) ⟨(by show 0 + 1 ≤ 5 * (d + 6 * R) + 19; omega), (by show 8 + (1 + 11) + 0 ≤ 200 * (d + 6 * R) + 900; omega)⟩) ⟨q_P.blind, va_recvE hA.2.2.1.1 (by decide) hS, fun U hU hWm => ⟨rfl, hA.go hS hU hWm, by rw [hU]; exact hW⟩⟩ rfl rfl hl.1 rfl (lv_room (Nat.le_of_ble_eq_true rfl)) dX3_doAct_7 ⟨(Nat.le_of_ble_eq_true rfl), (Nat.le_of_ble_eq_true rfl)⟩) hS (fun r_7 f_7 n_7 H locs hp hW hS => ?_)
  obtain ⟨rfl, rfl, rfl⟩ := hp
  refine va_ti hx hb hA.2.2.1.2.2.2.1.2 hS (vp_in_nI (by decide) (by decide)) (v := .int 2) (by rw [nI_clamp (by decide)]; rfl) dX3_doAct_10 ?_
  refine lv_tableIn (x := 2) (off := 78) (tgt := 89) hx hb dX3_doAct_11 (by decide) (by decide) (by decide) (by decide) ?_
  refine lv_aload_n hx hb dX3_doAct_89 rfl (lv_at hl 0 rfl) ?_
  refine lv_aload_n hx hb dX3_doAct_90 rfl (lv_at hl 0 rfl) ?_
  refine lv_aload_n hx hb dX3_doAct_91 rfl (lv_at hl 1 rfl) ?_
  refine q_getN hx hb hts hown hA hW iX1 hv rfl 5 (by decide) (va_Nw.use rfl (hA.2.2.2.1 ("HighRecipes$Cooking", 72, "HighRecipes$Act", "lastCompare", "LHighRecipes$Value;", "HighRecipes") (by decide +kernel))) (fun _ h9 => h9) (v := .ref a9) rfl dX3_doAct_92 ?_
  refine q_ci (va_runV (As := [.ref a9]) (rest := [.ref ck]) ⟨hx, hb, hml, hown, hts⟩ (kX3_allAreSoS l E f n ck k bk hd v b w pn rc ac lo hi mc C a9 hc hB (by assumption) (by assumption) (by assumption) (by assumption) hC) (cwV 1 hts gX3_doAct_X3_allAreSo rfl rfl rfl (by decide +kernel) ⟨(by show 16 + 1 ≤ 5 * (d + 6 * R) + 19; omega), (by show 8 + (6 + 11) + 600 ≤ 200 * (d + 6 * R) + 900; omega)⟩) (q_pV hA hW hS (ci := 4) rfl hc) rfl rfl hl.1 rfl (lv_room (Nat.le_of_ble_eq_true rfl)) dX3_doAct_95 ⟨Nat.le_of_ble_eq_true rfl, Nat.le_of_ble_eq_true rfl⟩) hS (fun r_95 f_95 n_95 H locs hp hW hS => ?_)
  obtain ⟨rfl, rfl, rfl⟩ := hp
  have hW : q_W E (f) n H := hW
  refine lv_if_eq (tgt := 108) hx hb dX3_doAct_98 (by decide) (fun c_98 => ?_) (fun c_98 => ?_)
  · have eC : ¬ C hd v = true := fun h9 => absurd c_98 (by rw [if_pos h9]; decide)
    refine lv_aload_n hx hb dX3_doAct_108 rfl (lv_at hl 1 rfl) ?_
    refine q_getN hx hb hts hown hA hW iX1 hv rfl 7 (by decide) (va_Nw.use rfl (hA.2.2.2.1 ("HighRecipes$Cooking", 83, "HighRecipes$Act", "otherwise", "LHighRecipes$Act;", "HighRecipes") (by decide +kernel))) (fun _ h9 => h9) (v := va_rf oth) rfl dX3_doAct_109 ?_
    refine lv_iload_n hx hb dX3_doAct_112 rfl (lv_at hl 2 rfl) ?_
    refine lv_iconst (v := 1) hx hb dX3_doAct_113 (by decide) ?_
    refine lv_iadd hx hb dX3_doAct_114 ?_
    rw [nI_1]
    refine q_cv (va_runV (As := [va_rf oth, .int (nI (ar + 1))]) (rest := []) ⟨hx, hb, hml, hown, hts⟩ (ihB d1 R (by omega) f n ck k bk hd v b w rc ac g BB m2 oth B2 (ar + 1) hc hB hG hk hbo hpn hck hbo4 hbc hb4c hreg hB29 hinv.le (rep_RS (fun _ _ _ => rfl) hRS) (rep_L (fun _ _ _ => rfl) hL2) (by omega) (by omega)) (cwV 2 hts gX3_doAct_X3_doBlock rfl rfl rfl (by decide +kernel) ⟨(by show (5 * (d1 + 6 * R) + 20) + 1 ≤ 5 * (d + 6 * R) + 19; omega), (by show 8 + (4 + 11) + (200 * (d1 + 6 * R) + 1000) ≤ 200 * (d + 6 * R) + 900; omega)⟩) (q_pV hA hW hS (ci := 4) rfl hc) rfl rfl hl.1 rfl (lv_room (Nat.le_of_ble_eq_true rfl)) dX3_doAct_115 ⟨Nat.le_of_ble_eq_true rfl, Nat.le_of_ble_eq_true rfl⟩) hS (fun f_115 n_115 H locs hp hW hS => ?_)
    obtain ⟨rfl, rfl⟩ := hp
    have hW : q_W E (kO E (va_up f ck (some (cCook k (nI (B2 hd (v, b, w)).2.1) (B2 hd (v, b, w)).2.2))) k bk hd (B2 hd (v, b, w)).1) n H := hW
    refine lv_goto (tgt := 199) hx hb dX3_doAct_118 (by decide) ?_
    exact q_vret hx hb hr hlocks hW hS ⟨by unfold k_if; rw [show (v, b, w).1 = v from rfl, if_neg eC], rfl⟩ (Nat.le_of_ble_eq_true rfl) (Nat.le_of_ble_eq_true rfl) dX3_doAct_199
  · have eC : C hd v = true := by rcases Classical.em (C hd v = true) with h9 | h9; exact h9; exact absurd (if_neg h9) c_98
    refine lv_aload_n hx hb dX3_doAct_101 rfl (lv_at hl 1 rfl) ?_
    refine q_getN hx hb hts hown hA hW iX1 hv rfl 6 (by decide) (va_Nw.use rfl (hA.2.2.2.1 ("HighRecipes$Cooking", 80, "HighRecipes$Act", "block", "LHighRecipes$Act;", "HighRecipes") (by decide +kernel))) (fun _ h9 => h9) (v := va_rf blk) rfl dX3_doAct_102 ?_
    refine lv_goto (tgt := 112) hx hb dX3_doAct_105 (by decide) ?_
    refine lv_iload_n hx hb dX3_doAct_112 rfl (lv_at hl 2 rfl) ?_
    refine lv_iconst (v := 1) hx hb dX3_doAct_113 (by decide) ?_
    refine lv_iadd hx hb dX3_doAct_114 ?_
    rw [nI_1]
    refine q_cv (va_runV (As := [va_rf blk, .int (nI (ar + 1))]) (rest := []) ⟨hx, hb, hml, hown, hts⟩ (ihB d1 R (by omega) f n ck k bk hd v b w rc ac g BB m1 blk B1 (ar + 1) hc hB hG hk hbo hpn hck hbo4 hbc hb4c hreg hB29 hinv.le (rep_RS (fun _ _ _ => rfl) hRS) (rep_L (fun _ _ _ => rfl) hL1) (by omega) (by omega)) (cwV 2 hts gX3_doAct_X3_doBlock rfl rfl rfl (by decide +kernel) ⟨(by show (5 * (d1 + 6 * R) + 20) + 1 ≤ 5 * (d + 6 * R) + 19; omega), (by show 8 + (4 + 11) + (200 * (d1 + 6 * R) + 1000) ≤ 200 * (d + 6 * R) + 900; omega)⟩) (q_pV hA hW hS (ci := 4) rfl hc) rfl rfl hl.1 rfl (lv_room (Nat.le_of_ble_eq_true rfl)) dX3_doAct_115 ⟨Nat.le_of_ble_eq_true rfl, Nat.le_of_ble_eq_true rfl⟩) hS (fun f_115 n_115 H locs hp hW hS => ?_)
    obtain ⟨rfl, rfl⟩ := hp
    have hW : q_W E (kO E (va_up f ck (some (cCook k (nI (B1 hd (v, b, w)).2.1) (B1 hd (v, b, w)).2.2))) k bk hd (B1 hd (v, b, w)).1) n H := hW
    refine lv_goto (tgt := 199) hx hb dX3_doAct_118 (by decide) ?_
    exact q_vret hx hb hr hlocks hW hS ⟨by unfold k_if; rw [show (v, b, w).1 = v from rfl, if_pos eC], rfl⟩ (Nat.le_of_ble_eq_true rfl) (Nat.le_of_ble_eq_true rfl) dX3_doAct_199

/-- doAct does what the act says -/
def ACT (l : Launch) (E : q_E) (pn lo hi : Nat) (RS : Nat → q_S) (R d : Nat) : Prop := ∀ (f : q_H) (n : Nat) (ck k bk : Nat) (hd v : Nat → Int32) (b : Nat) (w rc ac : Int32) (g : Nat → Option Nat) (B a : Nat) (S : q_S) (ar : Nat),
  f ck = some (cCook k (nI b) w) → f bk = some (cBook bk (nI pn) rc ac) → f (bk + 4) = some (aQ E 3 6 g) → KIT E f k bk hd v → kOut k bk → pn ≤ 8 → kOut k ck → kOut k (bk + 4) → bk ≠ ck → bk + 4 ≠ ck → (∀ q, lo ≤ q → q < hi → kOut k q ∧ q ≠ ck) → B ≤ 2 ^ 29 → k_inv1 B (v, b, w) → rRS E pn lo hi f RS g R → rA E pn lo hi f RS R d a S → 1 ≤ d → ar + (d + 6 * R) ≤ 36 →
  Met l yX3_doAct wsX3_doAct ({ frames := 5 * (d + 6 * R) + 19, cells := 0, slots := 0, locals := 200 * (d + 6 * R) + 900 }) (q_P E [.ref ck, .ref a, .int (nI ar)] f n) (q_Qv E (fun f1 n1 => kO E (va_up f ck (some (cCook k (nI (S hd (v, b, w)).2.1) (S hd (v, b, w)).2.2))) k bk hd (S hd (v, b, w)).1 = f1 ∧ n = n1)) 0 0 (q_ge E)

set_option maxHeartbeats 4000000 in
set_option maxRecDepth 100000 in
theorem kX3_doBlockN (l : Launch) (E : q_E) (f : q_H) (n : Nat) (ck k bk : Nat) (hd v : Nat → Int32) (b : Nat) (w : Int32) (pn : Nat) (rc ac : Int32) (g : Nat → Option Nat) (BB lo hi : Nat) (RS : Nat → q_S) (R d ar : Nat) (m0 : Nat) (S0 : q_S) (hc : f ck = some (cCook k (nI b) w)) (hB : f bk = some (cBook bk (nI pn) rc ac)) (hG : f (bk + 4) = some (aQ E 3 6 g)) (hk : KIT E f k bk hd v) (hbo : kOut k bk) (hpn : pn ≤ 8) (hck : kOut k ck) (hbo4 : kOut k (bk + 4)) (hbc : bk ≠ ck) (hb4c : bk + 4 ≠ ck) (hreg : ∀ q, lo ≤ q → q < hi → kOut k q ∧ q ≠ ck) (hB29 : BB ≤ 2 ^ 29) (hinv : k_inv BB (v, b, w)) (hRS : rRS E pn lo hi f RS g R) (hL : rL E lo hi f (rA E pn lo hi f RS R d) m0 (none) S0) (hd0 : 1 ≤ d) (har : ar + (d + 6 * R) ≤ 36) (ihB : ∀ d1 R1, d1 + 6 * R1 < d + 6 * R → BLK l E pn lo hi RS R1 d1) (ihA : ACT l E pn lo hi RS R d) : Met l yX3_doBlock wsX3_doBlock ({ frames := 5 * (d + 6 * R) + 20, cells := 0, slots := 0, locals := 200 * (d + 6 * R) + 1000 }) (q_P E [.ref ck, .null, .int (nI ar)] f n) (q_Qv E (fun f1 n1 => kO E (va_up f ck (some (cCook k (nI (S0 hd (v, b, w)).2.1) (S0 hd (v, b, w)).2.2))) k bk hd (S0 hd (v, b, w)).1 = f1 ∧ n = n1)) 0 0 (q_ge E) := by
  refine Met.ofW (cc := cX3_doBlock) (maxL := 4) (ret := none) (by decide) rfl ?_
  intro p e s m args below meth c s₁ B hml hv
  obtain ⟨rfl, hA, hW⟩ := hv
  have hx := B.exec
  have hb := B.bytes
  have hr := B.returns
  have hts := atoms_spec (ws := wsX3_doBlock) B.pre
  have hown : s.vm.findClass RX3 = some m.cls := findClass_of_methodNamed B.named
  have hlocks := B.notSynchronized
  have hS : va_S (q_ge E) s.heap s.heap [] := va_S.rf
  have iX1 : ∀ w ∈ wsX10, w ∈ wsX3_doBlock := by decide +kernel
  have iX3 : ∀ w ∈ wsX30, w ∈ wsX3_doBlock := by decide +kernel
  have hl := lv_entry ([.ref ck, .null, .int (nI ar)]) (n := 4) (Nat.le_of_ble_eq_true rfl)
  rw [lg_entry_eq]
  generalize (lg_sl ([.ref ck, .null, .int (nI ar)]) ++ List.replicate (4 - (lg_sl ([.ref ck, .null, .int (nI ar)])).length) Slot.unset).toArray = ls at hl ⊢
  have hl : lv_has ls 4 [(0, .ref ck), (1, .null), (2, .int (nI ar))] := hl
  rw [hk.eq] at hW
  have K9 : ∀ (mm : Nat) (o : Option Nat) (S1 : q_S) (s9 : q_KS), rL E lo hi f (rA E pn lo hi f RS R d) mm o S1 → S0 hd (v, b, w) = S1 hd s9 → k_inv BB s9 → ∀ (H : Heap) (locs : List Loc) (ls : Array Slot), q_W E (kO E (va_up f ck (some (cCook k (nI s9.2.1) s9.2.2))) k bk hd s9.1) n H → va_S (q_ge E) s.heap H locs → lv_has ls 4 [(0, .ref ck), (2, .int (nI ar)), (3, va_rf o)] → W p l e (headSpec wsX3_doBlock ({ frames := 5 * (d + 6 * R) + 20, cells := 0, slots := 0, locals := 200 * (d + 6 * R) + 1000 })).room s m ([.ref ck, .null, .int (nI ar)] : List Value).toArray below meth c H locs 0 0 (MQ below (q_Qv E (fun f1 n1 => kO E (va_up f ck (some (cCook k (nI (S0 hd (v, b, w)).2.1) (S0 hd (v, b, w)).2.2))) k bk hd (S0 hd (v, b, w)).1 = f1 ∧ n = n1)) ([.ref ck, .null, .int (nI ar)] : List Value).toArray s 0 0 (q_ge E)) (F0 m 9 ls []) := by
    intro mm
    induction mm with
    | zero =>
      intro o S1 s9 hrl hSS hin H locs ls hW hS hl
      obtain ⟨rfl, rfl⟩ := hrl
      refine lv_aload_nN hx hb dX3_doBlock_9 rfl (lv_at hl 2 rfl) ?_
      refine lv_ifnullN (tgt := 46) hx hb dX3_doBlock_10 (by decide) ?_
      exact q_vret hx hb hr hlocks hW hS ⟨by rw [hSS]; rfl, rfl⟩ (Nat.le_of_ble_eq_true rfl) (Nat.le_of_ble_eq_true rfl) dX3_doBlock_46
    | succ mm ih =>
      intro o S1 s9 hrl hSS hin H locs ls hW hS hl
      obtain ⟨a, kd, pan, rcp, pm, val, lc, blk, oth, nxt, Sa, Sb, rfl, ha1, ha2, he, rA1, rL2, rfl⟩ := hrl
      refine lv_aload_n hx hb dX3_doBlock_9 rfl (lv_at hl 2 rfl) ?_
      refine lv_ifnull hx hb dX3_doBlock_10 ?_
      refine lv_aload_n hx hb dX3_doBlock_13 rfl (lv_at hl 0 rfl) ?_
      refine q_get hx hb hts hown hA hW iX3 ((kO_out hck).trans q_eq) rfl 1 (by decide) (hts (.fieldLink RX3 19 "HighRecipes$Cooking" "begun" "I") (by decide +kernel)) (fun _ h9 => h9) (v := .int (nI s9.2.1)) rfl dX3_doBlock_14 ?_
      refine lv_bipush (v := 100) hx hb dX3_doBlock_17 (by decide) ?_
      refine lv_icmp_ge (tgt := 46) hx hb dX3_doBlock_19 (by decide) (fun c_19 => ?_) (fun c_19 => ?_)
      · have hnb : ¬ s9.2.1 < 100 := fun h9 => absurd c_19 (nI_ge h9 (by decide))
        exact q_vret hx hb hr hlocks hW hS ⟨by rw [hSS]; unfold k_cons; rw [if_neg hnb], rfl⟩ (Nat.le_of_ble_eq_true rfl) (Nat.le_of_ble_eq_true rfl) dX3_doBlock_46
      · have hnb : s9.2.1 < 100 := by rcases Nat.lt_or_ge s9.2.1 100 with h9 | h9; exact h9; exact absurd (nI_le h9 (Nat.lt_of_le_of_lt hin.1 (by decide))) c_19
        refine lv_aload_n hx hb dX3_doBlock_22 rfl (lv_at hl 0 rfl) ?_
        refine lv_dup hx hb dX3_doBlock_23 rfl ?_
        refine q_get hx hb hts hown hA hW iX3 ((kO_out hck).trans q_eq) rfl 1 (by decide) (hts (.fieldLink RX3 19 "HighRecipes$Cooking" "begun" "I") (by decide +kernel)) (fun _ h9 => h9) (v := .int (nI s9.2.1)) rfl dX3_doBlock_24 ?_
        refine lv_iconst (v := 1) hx hb dX3_doBlock_27 (by decide) ?_
        refine lv_iadd hx hb dX3_doBlock_28 ?_
        rw [nI_1]
        refine q_put hx hb hts hown hA hW hS iX3 tyX3 tyX3_ok nmX3 ((kO_out hck).trans q_eq) rfl 1 (by decide) (hts (.fieldLink RX3 19 "HighRecipes$Cooking" "begun" "I") (by decide +kernel)) (fun _ h9 => h9) rfl rfl rfl (Nat.le_of_ble_eq_true rfl) dX3_doBlock_29 (fun H locs hW hS => ?_)
        have hW : q_W E (va_up (kO E (va_up f ck (some (cCook k (nI s9.2.1) s9.2.2))) k bk hd s9.1) ck (some (cCook k (nI (s9.2.1 + 1)) s9.2.2))) n H := hW
        rw [kO_iu hck] at hW
        rw [q_upup] at hW
        refine lv_aload_n hx hb dX3_doBlock_32 rfl (lv_at hl 0 rfl) ?_
        refine lv_aload_n hx hb dX3_doBlock_33 rfl (lv_at hl 2 rfl) ?_
        refine lv_iload_n hx hb dX3_doBlock_34 rfl (lv_at hl 1 rfl) ?_
        have hin1 : k_inv1 BB (s9.1, s9.2.1 + 1, s9.2.2) := ⟨hnb, ⟨hin.2.1.1, by have := hin.2.1.2; show k_T s9.1 + 101 ≤ BB + (s9.2.1 + 1); omega⟩, hin.2.2.1, by have := hin.2.2.2; show k_N s9.1 + 101 ≤ BB + (s9.2.1 + 1); omega⟩
        refine q_cv (va_runV (As := [.ref a, .int (nI ar)]) (rest := []) ⟨hx, hb, hml, hown, hts⟩ (ihA (kO E (va_up f ck (some (cCook k (nI (s9.2.1 + 1)) s9.2.2))) k bk hd s9.1) n ck k bk hd s9.1 (s9.2.1 + 1) s9.2.2 rc ac g BB a Sa ar ((kO_out hck).trans q_eq) ((kO_out hbo).trans ((va_up_ne _ _ hbc).trans hB)) ((kO_out hbo4).trans ((va_up_ne _ _ hb4c).trans hG)) kO_K hbo hpn hck hbo4 hbc hb4c hreg hB29 hin1 (rep_RS (fun q h1 h2 => (kO_out (hreg q h1 h2).1).trans (va_up_ne _ _ (hreg q h1 h2).2)) hRS) (rep_A (fun q h1 h2 => (kO_out (hreg q h1 h2).1).trans (va_up_ne _ _ (hreg q h1 h2).2)) rA1) hd0 har) (cwV 2 hts gX3_doBlock_X3_doAct rfl rfl rfl (by decide +kernel) ⟨(by show (5 * (d + 6 * R) + 19) + 1 ≤ 5 * (d + 6 * R) + 20; omega), (by show 8 + (3 + 11) + (200 * (d + 6 * R) + 900) ≤ 200 * (d + 6 * R) + 1000; omega)⟩) (q_pV hA hW hS (ci := 4) rfl ((kO_out hck).trans q_eq)) rfl rfl hl.1 rfl (lv_room (Nat.le_of_ble_eq_true rfl)) dX3_doBlock_35 ⟨Nat.le_of_ble_eq_true rfl, Nat.le_of_ble_eq_true rfl⟩) hS (fun f_35 n_35 H locs hp hW hS => ?_)
        obtain ⟨rfl, rfl⟩ := hp
        have hW : q_W E (kO E (va_up (kO E (va_up f ck (some (cCook k (nI (s9.2.1 + 1)) s9.2.2))) k bk hd s9.1) ck (some (cCook k (nI (Sa hd (s9.1, s9.2.1 + 1, s9.2.2)).2.1) ((Sa hd (s9.1, s9.2.1 + 1, s9.2.2)).2.2)))) k bk hd ((Sa hd (s9.1, s9.2.1 + 1, s9.2.2)).1)) n H := hW
        rw [kO_iu hck] at hW
        rw [q_upup] at hW
        rw [kO_kO] at hW
        have hW : q_W E (kO E (va_up f ck (some (cCook k (nI (Sa hd (s9.1, s9.2.1 + 1, s9.2.2)).2.1) ((Sa hd (s9.1, s9.2.1 + 1, s9.2.2)).2.2)))) k bk hd ((Sa hd (s9.1, s9.2.1 + 1, s9.2.2)).1)) n H := hW
        refine lv_aload_n hx hb dX3_doBlock_38 rfl (lv_at hl 2 rfl) ?_
        refine q_getN hx hb hts hown hA hW iX1 ((kO_out (hreg a ha1 ha2).1).trans (q_ne (hreg a ha1 ha2).2 he)) rfl 8 (by decide) (va_Nw.use rfl (hA.2.2.2.1 ("HighRecipes$Cooking", 44, "HighRecipes$Act", "next", "LHighRecipes$Act;", "HighRecipes") (by decide +kernel))) (fun _ h9 => h9) (v := va_rf nxt) rfl dX3_doBlock_39 ?_
        refine q_astore_nQ (lv' := [(3, va_rf nxt), (0, .ref ck), (2, .int (nI ar))]) hx hb dX3_doBlock_42 rfl hl (by decide) rfl (fun ls hl => ?_)
        refine lv_goto (tgt := 9) hx hb dX3_doBlock_43 (by decide) ?_
        exact ih nxt Sb (Sa hd (s9.1, s9.2.1 + 1, s9.2.2)) rL2 (by rw [hSS]; unfold k_cons; rw [if_pos hnb]) (k_good_A (rRS_good R hRS) d a Sa rA1 BB hd _ hB29 hin1) _ _ _ hW hS (lv_sub hl [1, 2, 0] rfl)
  refine lv_iload_n hx hb dX3_doBlock_0 rfl (lv_at hl 2 rfl) ?_
  refine lv_bipush (v := 36) hx hb dX3_doBlock_1 (by decide) ?_
  refine lv_icmp_lt (tgt := 7) hx hb dX3_doBlock_3 (by decide) (fun c_3 => ?_) (fun c_3 => absurd (nI_lt (a := ar) (b := 36) (by omega) (by decide)) c_3)
  refine lv_aload_nN hx hb dX3_doBlock_7 rfl (lv_at hl 1 rfl) ?_
  refine lv_astore_nN (lv' := [(3, .null), (0, .ref ck), (1, .null), (2, .int (nI ar))]) hx hb dX3_doBlock_8 rfl hl (by decide) rfl (fun ls hl => ?_)
  rw [show kO E f k bk hd v = kO E (va_up f ck (some (cCook k (nI (v, b, w).2.1) (v, b, w).2.2))) k bk hd (v, b, w).1 from congrArg (fun z => kO E z k bk hd v) (q_id hc).symm] at hW
  exact K9 m0 (none) S0 (v, b, w) hL rfl hinv _ _ _ hW hS (lv_sub hl [1, 3, 0] rfl)

set_option maxHeartbeats 4000000 in
set_option maxRecDepth 100000 in
theorem kX3_doBlockS (l : Launch) (E : q_E) (f : q_H) (n : Nat) (ck k bk : Nat) (hd v : Nat → Int32) (b : Nat) (w : Int32) (pn : Nat) (rc ac : Int32) (g : Nat → Option Nat) (BB lo hi : Nat) (RS : Nat → q_S) (R d ar : Nat) (m0 : Nat) (S0 : q_S) (a0 : Nat) (hc : f ck = some (cCook k (nI b) w)) (hB : f bk = some (cBook bk (nI pn) rc ac)) (hG : f (bk + 4) = some (aQ E 3 6 g)) (hk : KIT E f k bk hd v) (hbo : kOut k bk) (hpn : pn ≤ 8) (hck : kOut k ck) (hbo4 : kOut k (bk + 4)) (hbc : bk ≠ ck) (hb4c : bk + 4 ≠ ck) (hreg : ∀ q, lo ≤ q → q < hi → kOut k q ∧ q ≠ ck) (hB29 : BB ≤ 2 ^ 29) (hinv : k_inv BB (v, b, w)) (hRS : rRS E pn lo hi f RS g R) (hL : rL E lo hi f (rA E pn lo hi f RS R d) m0 (some a0) S0) (hd0 : 1 ≤ d) (har : ar + (d + 6 * R) ≤ 36) (ihB : ∀ d1 R1, d1 + 6 * R1 < d + 6 * R → BLK l E pn lo hi RS R1 d1) (ihA : ACT l E pn lo hi RS R d) : Met l yX3_doBlock wsX3_doBlock ({ frames := 5 * (d + 6 * R) + 20, cells := 0, slots := 0, locals := 200 * (d + 6 * R) + 1000 }) (q_P E [.ref ck, .ref a0, .int (nI ar)] f n) (q_Qv E (fun f1 n1 => kO E (va_up f ck (some (cCook k (nI (S0 hd (v, b, w)).2.1) (S0 hd (v, b, w)).2.2))) k bk hd (S0 hd (v, b, w)).1 = f1 ∧ n = n1)) 0 0 (q_ge E) := by
  refine Met.ofW (cc := cX3_doBlock) (maxL := 4) (ret := none) (by decide) rfl ?_
  intro p e s m args below meth c s₁ B hml hv
  obtain ⟨rfl, hA, hW⟩ := hv
  have hx := B.exec
  have hb := B.bytes
  have hr := B.returns
  have hts := atoms_spec (ws := wsX3_doBlock) B.pre
  have hown : s.vm.findClass RX3 = some m.cls := findClass_of_methodNamed B.named
  have hlocks := B.notSynchronized
  have hS : va_S (q_ge E) s.heap s.heap [] := va_S.rf
  have iX1 : ∀ w ∈ wsX10, w ∈ wsX3_doBlock := by decide +kernel
  have iX3 : ∀ w ∈ wsX30, w ∈ wsX3_doBlock := by decide +kernel
  have hl := lv_entry ([.ref ck, .ref a0, .int (nI ar)]) (n := 4) (Nat.le_of_ble_eq_true rfl)
  rw [lg_entry_eq]
  generalize (lg_sl ([.ref ck, .ref a0, .int (nI ar)]) ++ List.replicate (4 - (lg_sl ([.ref ck, .ref a0, .int (nI ar)])).length) Slot.unset).toArray = ls at hl ⊢
  have hl : lv_has ls 4 [(0, .ref ck), (1, .ref a0), (2, .int (nI ar))] := hl
  rw [hk.eq] at hW
  have K9 : ∀ (mm : Nat) (o : Option Nat) (S1 : q_S) (s9 : q_KS), rL E lo hi f (rA E pn lo hi f RS R d) mm o S1 → S0 hd (v, b, w) = S1 hd s9 → k_inv BB s9 → ∀ (H : Heap) (locs : List Loc) (ls : Array Slot), q_W E (kO E (va_up f ck (some (cCook k (nI s9.2.1) s9.2.2))) k bk hd s9.1) n H → va_S (q_ge E) s.heap H locs → lv_has ls 4 [(0, .ref ck), (2, .int (nI ar)), (3, va_rf o)] → W p l e (headSpec wsX3_doBlock ({ frames := 5 * (d + 6 * R) + 20, cells := 0, slots := 0, locals := 200 * (d + 6 * R) + 1000 })).room s m ([.ref ck, .ref a0, .int (nI ar)] : List Value).toArray below meth c H locs 0 0 (MQ below (q_Qv E (fun f1 n1 => kO E (va_up f ck (some (cCook k (nI (S0 hd (v, b, w)).2.1) (S0 hd (v, b, w)).2.2))) k bk hd (S0 hd (v, b, w)).1 = f1 ∧ n = n1)) ([.ref ck, .ref a0, .int (nI ar)] : List Value).toArray s 0 0 (q_ge E)) (F0 m 9 ls []) := by
    intro mm
    induction mm with
    | zero =>
      intro o S1 s9 hrl hSS hin H locs ls hW hS hl
      obtain ⟨rfl, rfl⟩ := hrl
      refine lv_aload_nN hx hb dX3_doBlock_9 rfl (lv_at hl 2 rfl) ?_
      refine lv_ifnullN (tgt := 46) hx hb dX3_doBlock_10 (by decide) ?_
      exact q_vret hx hb hr hlocks hW hS ⟨by rw [hSS]; rfl, rfl⟩ (Nat.le_of_ble_eq_true rfl) (Nat.le_of_ble_eq_true rfl) dX3_doBlock_46
    | succ mm ih =>
      intro o S1 s9 hrl hSS hin H locs ls hW hS hl
      obtain ⟨a, kd, pan, rcp, pm, val, lc, blk, oth, nxt, Sa, Sb, rfl, ha1, ha2, he, rA1, rL2, rfl⟩ := hrl
      refine lv_aload_n hx hb dX3_doBlock_9 rfl (lv_at hl 2 rfl) ?_
      refine lv_ifnull hx hb dX3_doBlock_10 ?_
      refine lv_aload_n hx hb dX3_doBlock_13 rfl (lv_at hl 0 rfl) ?_
      refine q_get hx hb hts hown hA hW iX3 ((kO_out hck).trans q_eq) rfl 1 (by decide) (hts (.fieldLink RX3 19 "HighRecipes$Cooking" "begun" "I") (by decide +kernel)) (fun _ h9 => h9) (v := .int (nI s9.2.1)) rfl dX3_doBlock_14 ?_
      refine lv_bipush (v := 100) hx hb dX3_doBlock_17 (by decide) ?_
      refine lv_icmp_ge (tgt := 46) hx hb dX3_doBlock_19 (by decide) (fun c_19 => ?_) (fun c_19 => ?_)
      · have hnb : ¬ s9.2.1 < 100 := fun h9 => absurd c_19 (nI_ge h9 (by decide))
        exact q_vret hx hb hr hlocks hW hS ⟨by rw [hSS]; unfold k_cons; rw [if_neg hnb], rfl⟩ (Nat.le_of_ble_eq_true rfl) (Nat.le_of_ble_eq_true rfl) dX3_doBlock_46
      · have hnb : s9.2.1 < 100 := by rcases Nat.lt_or_ge s9.2.1 100 with h9 | h9; exact h9; exact absurd (nI_le h9 (Nat.lt_of_le_of_lt hin.1 (by decide))) c_19
        refine lv_aload_n hx hb dX3_doBlock_22 rfl (lv_at hl 0 rfl) ?_
        refine lv_dup hx hb dX3_doBlock_23 rfl ?_
        refine q_get hx hb hts hown hA hW iX3 ((kO_out hck).trans q_eq) rfl 1 (by decide) (hts (.fieldLink RX3 19 "HighRecipes$Cooking" "begun" "I") (by decide +kernel)) (fun _ h9 => h9) (v := .int (nI s9.2.1)) rfl dX3_doBlock_24 ?_
        refine lv_iconst (v := 1) hx hb dX3_doBlock_27 (by decide) ?_
        refine lv_iadd hx hb dX3_doBlock_28 ?_
        rw [nI_1]
        refine q_put hx hb hts hown hA hW hS iX3 tyX3 tyX3_ok nmX3 ((kO_out hck).trans q_eq) rfl 1 (by decide) (hts (.fieldLink RX3 19 "HighRecipes$Cooking" "begun" "I") (by decide +kernel)) (fun _ h9 => h9) rfl rfl rfl (Nat.le_of_ble_eq_true rfl) dX3_doBlock_29 (fun H locs hW hS => ?_)
        have hW : q_W E (va_up (kO E (va_up f ck (some (cCook k (nI s9.2.1) s9.2.2))) k bk hd s9.1) ck (some (cCook k (nI (s9.2.1 + 1)) s9.2.2))) n H := hW
        rw [kO_iu hck] at hW
        rw [q_upup] at hW
        refine lv_aload_n hx hb dX3_doBlock_32 rfl (lv_at hl 0 rfl) ?_
        refine lv_aload_n hx hb dX3_doBlock_33 rfl (lv_at hl 2 rfl) ?_
        refine lv_iload_n hx hb dX3_doBlock_34 rfl (lv_at hl 1 rfl) ?_
        have hin1 : k_inv1 BB (s9.1, s9.2.1 + 1, s9.2.2) := ⟨hnb, ⟨hin.2.1.1, by have := hin.2.1.2; show k_T s9.1 + 101 ≤ BB + (s9.2.1 + 1); omega⟩, hin.2.2.1, by have := hin.2.2.2; show k_N s9.1 + 101 ≤ BB + (s9.2.1 + 1); omega⟩
        refine q_cv (va_runV (As := [.ref a, .int (nI ar)]) (rest := []) ⟨hx, hb, hml, hown, hts⟩ (ihA (kO E (va_up f ck (some (cCook k (nI (s9.2.1 + 1)) s9.2.2))) k bk hd s9.1) n ck k bk hd s9.1 (s9.2.1 + 1) s9.2.2 rc ac g BB a Sa ar ((kO_out hck).trans q_eq) ((kO_out hbo).trans ((va_up_ne _ _ hbc).trans hB)) ((kO_out hbo4).trans ((va_up_ne _ _ hb4c).trans hG)) kO_K hbo hpn hck hbo4 hbc hb4c hreg hB29 hin1 (rep_RS (fun q h1 h2 => (kO_out (hreg q h1 h2).1).trans (va_up_ne _ _ (hreg q h1 h2).2)) hRS) (rep_A (fun q h1 h2 => (kO_out (hreg q h1 h2).1).trans (va_up_ne _ _ (hreg q h1 h2).2)) rA1) hd0 har) (cwV 2 hts gX3_doBlock_X3_doAct rfl rfl rfl (by decide +kernel) ⟨(by show (5 * (d + 6 * R) + 19) + 1 ≤ 5 * (d + 6 * R) + 20; omega), (by show 8 + (3 + 11) + (200 * (d + 6 * R) + 900) ≤ 200 * (d + 6 * R) + 1000; omega)⟩) (q_pV hA hW hS (ci := 4) rfl ((kO_out hck).trans q_eq)) rfl rfl hl.1 rfl (lv_room (Nat.le_of_ble_eq_true rfl)) dX3_doBlock_35 ⟨Nat.le_of_ble_eq_true rfl, Nat.le_of_ble_eq_true rfl⟩) hS (fun f_35 n_35 H locs hp hW hS => ?_)
        obtain ⟨rfl, rfl⟩ := hp
        have hW : q_W E (kO E (va_up (kO E (va_up f ck (some (cCook k (nI (s9.2.1 + 1)) s9.2.2))) k bk hd s9.1) ck (some (cCook k (nI (Sa hd (s9.1, s9.2.1 + 1, s9.2.2)).2.1) ((Sa hd (s9.1, s9.2.1 + 1, s9.2.2)).2.2)))) k bk hd ((Sa hd (s9.1, s9.2.1 + 1, s9.2.2)).1)) n H := hW
        rw [kO_iu hck] at hW
        rw [q_upup] at hW
        rw [kO_kO] at hW
        have hW : q_W E (kO E (va_up f ck (some (cCook k (nI (Sa hd (s9.1, s9.2.1 + 1, s9.2.2)).2.1) ((Sa hd (s9.1, s9.2.1 + 1, s9.2.2)).2.2)))) k bk hd ((Sa hd (s9.1, s9.2.1 + 1, s9.2.2)).1)) n H := hW
        refine lv_aload_n hx hb dX3_doBlock_38 rfl (lv_at hl 2 rfl) ?_
        refine q_getN hx hb hts hown hA hW iX1 ((kO_out (hreg a ha1 ha2).1).trans (q_ne (hreg a ha1 ha2).2 he)) rfl 8 (by decide) (va_Nw.use rfl (hA.2.2.2.1 ("HighRecipes$Cooking", 44, "HighRecipes$Act", "next", "LHighRecipes$Act;", "HighRecipes") (by decide +kernel))) (fun _ h9 => h9) (v := va_rf nxt) rfl dX3_doBlock_39 ?_
        refine q_astore_nQ (lv' := [(3, va_rf nxt), (0, .ref ck), (2, .int (nI ar))]) hx hb dX3_doBlock_42 rfl hl (by decide) rfl (fun ls hl => ?_)
        refine lv_goto (tgt := 9) hx hb dX3_doBlock_43 (by decide) ?_
        exact ih nxt Sb (Sa hd (s9.1, s9.2.1 + 1, s9.2.2)) rL2 (by rw [hSS]; unfold k_cons; rw [if_pos hnb]) (k_good_A (rRS_good R hRS) d a Sa rA1 BB hd _ hB29 hin1) _ _ _ hW hS (lv_sub hl [1, 2, 0] rfl)
  refine lv_iload_n hx hb dX3_doBlock_0 rfl (lv_at hl 2 rfl) ?_
  refine lv_bipush (v := 36) hx hb dX3_doBlock_1 (by decide) ?_
  refine lv_icmp_lt (tgt := 7) hx hb dX3_doBlock_3 (by decide) (fun c_3 => ?_) (fun c_3 => absurd (nI_lt (a := ar) (b := 36) (by omega) (by decide)) c_3)
  refine lv_aload_n hx hb dX3_doBlock_7 rfl (lv_at hl 1 rfl) ?_
  refine lv_astore_n (lv' := [(3, .ref a0), (0, .ref ck), (1, .ref a0), (2, .int (nI ar))]) hx hb dX3_doBlock_8 rfl hl (by decide) rfl (fun ls hl => ?_)
  rw [show kO E f k bk hd v = kO E (va_up f ck (some (cCook k (nI (v, b, w).2.1) (v, b, w).2.2))) k bk hd (v, b, w).1 from congrArg (fun z => kO E z k bk hd v) (q_id hc).symm] at hW
  exact K9 m0 (some a0) S0 (v, b, w) hL rfl hinv _ _ _ hW hS (lv_sub hl [1, 3, 0] rfl)

/-- an act of each kind -/
theorem kX3_act {l : Launch} {E : q_E} {pn lo hi : Nat} {RS : Nat → q_S} {R d : Nat} (ihB : ∀ d1 R1, d1 + 6 * R1 < d + 6 * R → BLK l E pn lo hi RS R1 d1) : ACT l E pn lo hi RS R d := by
  intro f n ck k bk hd v b w rc ac g B a S ar hc hB hG hk hbo hpn hck hbo4 hbc hb4c hreg hB29 hinv hRS hA hd0 har
  obtain ⟨d0, rfl⟩ : ∃ d0, d = d0 + 1 := ⟨d - 1, by omega⟩
  obtain ⟨kd, pan, rcp, pm, val, lc, blk, oth, nxt, ha1, ha2, he, hcs⟩ := hA
  rcases hcs with ⟨rfl, i, x, D, hip, rfl, -, rfl, hD, rfl⟩ | ⟨rfl, i, x, D, hip, rfl, rfl, hD, rfl⟩ | ⟨rfl, i, x, D, hip, rfl, rfl, hD, rfl⟩ | ⟨rfl, i, hip, rfl, rfl⟩ | ⟨rfl, x, D, rfl, hD, rfl⟩ | ⟨rfl, x, D, rfl, hD, rfl⟩ | ⟨rfl, r, hr, rfl, rfl⟩ | ⟨rfl, hd1, x, D, m, B0, rfl, hD, hL, rfl⟩ | ⟨rfl, hd1, mc, C, m1, B1, m2, B2, hC, h1, h2, rfl⟩
  · exact kX3_doAct_3 l E f n ck k bk hd v b w pn rc ac g B lo hi RS R (d0 + 1) ar a rcp pm lc blk oth nxt i x D hc hB hG he hk hbo hpn hck hbo4 hbc hb4c hreg hB29 ha1 ha2 hinv hRS hd0 har ihB hip hD
  · exact kX3_doAct_7 l E f n ck k bk hd v b w pn rc ac g B lo hi RS R (d0 + 1) ar a rcp pm lc blk oth nxt i x D hc hB hG he hk hbo hpn hck hbo4 hbc hb4c hreg hB29 ha1 ha2 hinv hRS hd0 har ihB hip hD
  · exact kX3_doAct_9 l E f n ck k bk hd v b w pn rc ac g B lo hi RS R (d0 + 1) ar a rcp pm lc blk oth nxt i x D hc hB hG he hk hbo hpn hck hbo4 hbc hb4c hreg hB29 ha1 ha2 hinv hRS hd0 har ihB hip hD
  · exact kX3_doAct_11 l E f n ck k bk hd v b w pn rc ac g B lo hi RS R (d0 + 1) ar a rcp pm val lc blk oth nxt i hc hB hG he hk hbo hpn hck hbo4 hbc hb4c hreg hB29 ha1 ha2 hinv hRS hd0 har ihB hip
  · exact kX3_doAct_12 l E f n ck k bk hd v b w pn rc ac g B lo hi RS R (d0 + 1) ar a pan rcp pm lc blk oth nxt x D hc hB hG he hk hbo hpn hck hbo4 hbc hb4c hreg hB29 ha1 ha2 hinv hRS hd0 har ihB hD
  · exact kX3_doAct_13 l E f n ck k bk hd v b w pn rc ac g B lo hi RS R (d0 + 1) ar a pan rcp pm lc blk oth nxt x D hc hB hG he hk hbo hpn hck hbo4 hbc hb4c hreg hB29 ha1 ha2 hinv hRS hd0 har ihB hD
  · obtain ⟨h6, m, hm⟩ := hRS r hr
    exact kX3_doAct_14 l E f n ck k bk hd v b w pn rc ac g B lo hi RS R (d0 + 1) ar a pan pm val lc blk oth nxt r m hc hB hG he hk hbo hpn hck hbo4 hbc hb4c hreg hB29 ha1 ha2 hinv hRS hd0 har ihB hr h6 hm
  · exact kX3_doAct_15 l E f n ck k bk hd v b w pn rc ac g B lo hi RS R (d0 + 1) ar a pan rcp pm lc blk oth nxt d0 x D m B0 hc hB hG he hk hbo hpn hck hbo4 hbc hb4c hreg hB29 ha1 ha2 hinv hRS hd0 har ihB hD hL hd1 rfl
  · cases lc with
    | none => exact kX3_doAct_16N l E f n ck k bk hd v b w pn rc ac g B lo hi RS R (d0 + 1) ar a pan rcp pm val blk oth nxt d0 mc C m1 B1 m2 B2 hc hB hG he hk hbo hpn hck hbo4 hbc hb4c hreg hB29 ha1 ha2 hinv hRS hd0 har ihB hC h1 h2 hd1 rfl
    | some a9 => exact kX3_doAct_16S l E f n ck k bk hd v b w pn rc ac g B lo hi RS R (d0 + 1) ar a pan rcp pm val blk oth nxt a9 d0 mc C m1 B1 m2 B2 hc hB hG he hk hbo hpn hck hbo4 hbc hb4c hreg hB29 ha1 ha2 hinv hRS hd0 har ihB hC h1 h2 hd1 rfl
theorem kX3_block0 {l : Launch} {E : q_E} {pn lo hi : Nat} {RS : Nat → q_S} {R d : Nat} (ihB : ∀ d1 R1, d1 + 6 * R1 < d + 6 * R → BLK l E pn lo hi RS R1 d1) : BLK l E pn lo hi RS R d := by
  intro f n ck k bk hd v b w rc ac g B m o S ar hc hB hG hk hbo hpn hck hbo4 hbc hb4c hreg hB29 hinv hRS hL hd0 har
  cases o with
  | none => exact kX3_doBlockN l E f n ck k bk hd v b w pn rc ac g B lo hi RS R d ar m S hc hB hG hk hbo hpn hck hbo4 hbc hb4c hreg hB29 hinv hRS hL hd0 har ihB (kX3_act ihB)
  | some a0 => exact kX3_doBlockS l E f n ck k bk hd v b w pn rc ac g B lo hi RS R d ar m S a0 hc hB hG hk hbo hpn hck hbo4 hbc hb4c hreg hB29 hinv hRS hL hd0 har ihB (kX3_act ihB)
theorem kX3_block (l : Launch) (E : q_E) (pn lo hi : Nat) (RS : Nat → q_S) : ∀ (M R d : Nat), d + 6 * R ≤ M → BLK l E pn lo hi RS R d
  | 0, R, d, h => kX3_block0 (fun d1 R1 h1 => absurd h1 (by omega))
  | M + 1, R, d, h => kX3_block0 (fun d1 R1 h1 => kX3_block l E pn lo hi RS M R1 d1 (by omega))

