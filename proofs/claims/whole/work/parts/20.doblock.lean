/-- the book's recipes stand in the heap: each by those ahead of it -/
def rRS (E : q_E) (pn lo hi : Nat) (f : q_H) (RS : Nat → q_S) (g : Nat → Option Nat) (R : Nat) : Prop := ∀ r, r < R → r < 6 ∧ ∃ m, rL E lo hi f (rA E pn lo hi f RS r 6) m (g r) (RS r)
theorem rep_A {E : q_E} {pn lo hi : Nat} {f f' : q_H} {RS : Nat → q_S} {R d a : Nat} {S : q_S} (fr : ∀ q, lo ≤ q → q < hi → f' q = f q) (h : rA E pn lo hi f RS R d a S) : rA E pn lo hi f' RS R d a S := rA_frame fr (Nat.le_refl _) (Nat.le_refl _) (Nat.le_refl _) (fun _ _ => rfl) d a S h
theorem rep_L {E : q_E} {pn lo hi : Nat} {f f' : q_H} {RS : Nat → q_S} {R d m : Nat} {o : Option Nat} {S : q_S} (fr : ∀ q, lo ≤ q → q < hi → f' q = f q) (h : rL E lo hi f (rA E pn lo hi f RS R d) m o S) : rL E lo hi f' (rA E pn lo hi f' RS R d) m o S := rL_frame fr (Nat.le_refl _) (Nat.le_refl _) (fun _ _ h => rep_A fr h) m o S h
theorem rep_RS {E : q_E} {pn lo hi : Nat} {f f' : q_H} {RS : Nat → q_S} {g : Nat → Option Nat} {R : Nat} (fr : ∀ q, lo ≤ q → q < hi → f' q = f q) (h : rRS E pn lo hi f RS g R) : rRS E pn lo hi f' RS g R := fun r hr => ⟨(h r hr).1, (h r hr).2.elim fun m z => ⟨m, rep_L fr z⟩⟩
theorem rep_C {E : q_E} {pn lo hi : Nat} {f f' : q_H} {m : Nat} {o : Option Nat} {C : q_V → q_V → Bool} (fr : ∀ q, lo ≤ q → q < hi → f' q = f q) (h : rC E pn lo hi f m o C) : rC E pn lo hi f' m o C := rC_frame fr (Nat.le_refl _) (Nat.le_refl _) m o C h
theorem rRS_good {E : q_E} {pn lo hi : Nat} {f : q_H} {RS : Nat → q_S} {g : Nat → Option Nat} : ∀ (R : Nat), rRS E pn lo hi f RS g R → ∀ r, r < R → k_goodB (RS r)
  | 0, _, r, hr => absurd hr (Nat.not_lt_zero _)
  | R + 1, h, r, hr => by
    have ih := rRS_good R (fun r hr => h r (Nat.lt_succ_of_lt hr))
    obtain ⟨-, m, hm⟩ := h r hr
    exact k_good_L (k_good_A (fun r' hr' => ih r' (by omega)) 6) m _ _ hm
theorem k_iter_s {F : q_KS → q_KS} : ∀ (j : Nat) (s : q_KS), k_iter F (j + 1) s = F (k_iter F j s)
  | 0, _ => rfl
  | j + 1, s => k_iter_s j (F s)
theorem q_cl_le {t : Int32} {j : Nat} (hj : j < 2 ^ 31) (h : t ≤ nI j) : t.toNatClampNeg ≤ j := by
  rw [Int32.le_iff_toInt_le, nI_toInt hj] at h
  show t.toInt.toNat ≤ j
  omega
theorem q_cl_gt {t : Int32} {j : Nat} (hj : j < 2 ^ 31) (h : ¬ t ≤ nI j) : j < t.toNatClampNeg := by
  rw [Int32.le_iff_toInt_le, nI_toInt hj] at h
  show j < t.toInt.toNat
  omega
theorem q_min100 {x : Int32} : (q_min x 100).toNatClampNeg ≤ 100 := by
  refine q_cl_le (t := q_min x 100) (j := 100) (by decide) ?_
  show (if (100 : Int32) < x then (100 : Int32) else x) ≤ nI 100
  split
  · decide
  · next h => exact Int32.not_lt.mp h
/-- doBlock does what the block says: for blocks d deep, in a recipe behind R others -/
def BLK (l : Launch) (E : q_E) (pn lo hi : Nat) (RS : Nat → q_S) (R d : Nat) : Prop := ∀ (f : q_H) (n : Nat) (ck k bk : Nat) (hd v : Nat → Int32) (b : Nat) (w rc ac : Int32) (g : Nat → Option Nat) (B m : Nat) (o : Option Nat) (S : q_S) (ar : Nat),
  f ck = some (cCook k (nI b) w) → f bk = some (cBook bk (nI pn) rc ac) → f (bk + 4) = some (aQ E 3 6 g) → KIT E f k bk hd v → kOut k bk → pn ≤ 8 → kOut k ck → kOut k (bk + 4) → bk ≠ ck → bk + 4 ≠ ck → (∀ q, lo ≤ q → q < hi → kOut k q ∧ q ≠ ck) → B ≤ 2 ^ 29 → k_inv B (v, b, w) → rRS E pn lo hi f RS g R → rL E lo hi f (rA E pn lo hi f RS R d) m o S → 1 ≤ d → ar + (d + 6 * R) ≤ 36 →
  Met l yX3_doBlock wsX3_doBlock ({ frames := 5 * (d + 6 * R) + 20, cells := 0, slots := 0, locals := 200 * (d + 6 * R) + 1000 }) (q_P E [.ref ck, va_rf o, .int (nI ar)] f n) (q_Qv E (fun f1 n1 => kO E (va_up f ck (some (cCook k (nI (S hd (v, b, w)).2.1) (S hd (v, b, w)).2.2))) k bk hd (S hd (v, b, w)).1 = f1 ∧ n = n1)) 0 0 (q_ge E)

set_option maxHeartbeats 4000000 in
set_option maxRecDepth 100000 in
theorem kX3_doAgain (l : Launch) (E : q_E) (f : q_H) (n : Nat) (ck k bk : Nat) (hd v : Nat → Int32) (b : Nat) (w : Int32) (pn : Nat) (rc ac : Int32) (g : Nat → Option Nat) (BB lo hi : Nat) (RS : Nat → q_S) (R d ar : Nat) (a d1 : Nat) (pan rcp pm : Int32) (x : Nat) (lc blk oth nxt : Option Nat) (D : q_D) (m9 : Nat) (B0 : q_S) (hc : f ck = some (cCook k (nI b) w)) (hB : f bk = some (cBook bk (nI pn) rc ac)) (hG : f (bk + 4) = some (aQ E 3 6 g)) (hv : f a = some (cAct E 15 pan rcp pm (some x) lc blk oth nxt)) (hk : KIT E f k bk hd v) (hbo : kOut k bk) (hpn : pn ≤ 8) (hck : kOut k ck) (hbo4 : kOut k (bk + 4)) (hbc : bk ≠ ck) (hb4c : bk + 4 ≠ ck) (hreg : ∀ q, lo ≤ q → q < hi → kOut k q ∧ q ≠ ck) (hB29 : BB ≤ 2 ^ 29) (ha1 : lo ≤ a) (ha2 : a < hi) (hinv : k_inv BB (v, b, w)) (hRS : rRS E pn lo hi f RS g R) (hD : rV E pn lo hi f 5 x D) (hL : rL E lo hi f (rA E pn lo hi f RS R d1) m9 blk B0) (hd1 : 1 ≤ d1) (hd2 : d1 + 1 = d) (har : ar + (d + 6 * R) ≤ 36) (ihB : ∀ d1 R1, d1 + 6 * R1 < d + 6 * R → BLK l E pn lo hi RS R1 d1) : Met l yX3_doAgain wsX3_doAgain ({ frames := 5 * (d + 6 * R) + 18, cells := 0, slots := 0, locals := 200 * (d + 6 * R) + 850 }) (q_P E [.ref ck, .ref a, .int (nI ar)] f n) (q_Qv E (fun f1 n1 => kO E (va_up f ck (some (cCook k (nI (k_again D B0 hd (v, b, w)).2.1) (k_again D B0 hd (v, b, w)).2.2))) k bk hd (k_again D B0 hd (v, b, w)).1 = f1 ∧ n = n1)) 0 0 (q_ge E) := by
  refine Met.ofW (cc := cX3_doAgain) (maxL := 5) (ret := none) (by decide) rfl ?_
  intro p e s m args below meth c s₁ B hml hv
  obtain ⟨rfl, hA, hW⟩ := hv
  have hx := B.exec
  have hb := B.bytes
  have hr := B.returns
  have hts := atoms_spec (ws := wsX3_doAgain) B.pre
  have hown : s.vm.findClass RX3 = some m.cls := findClass_of_methodNamed B.named
  have hlocks := B.notSynchronized
  have hS : va_S (q_ge E) s.heap s.heap [] := va_S.rf
  have iX1 : ∀ w ∈ wsX10, w ∈ wsX3_doAgain := by decide +kernel
  have hl := lv_entry ([.ref ck, .ref a, .int (nI ar)]) (n := 5) (Nat.le_of_ble_eq_true rfl)
  rw [lg_entry_eq]
  generalize (lg_sl ([.ref ck, .ref a, .int (nI ar)]) ++ List.replicate (5 - (lg_sl ([.ref ck, .ref a, .int (nI ar)])).length) Slot.unset).toArray = ls at hl ⊢
  have hl : lv_has ls 5 [(0, .ref ck), (1, .ref a), (2, .int (nI ar))] := hl
  rw [hk.eq] at hW
  refine lv_aload_n hx hb dX3_doAgain_0 rfl (lv_at hl 0 rfl) ?_
  refine lv_aload_n hx hb dX3_doAgain_1 rfl (lv_at hl 1 rfl) ?_
  refine q_getN hx hb hts hown hA hW iX1 ((kO_out (hreg a ha1 ha2).1).trans hv) rfl 4 (by decide) (va_Nw.use rfl (hA.2.2.2.1 ("HighRecipes$Cooking", 99, "HighRecipes$Act", "value", "LHighRecipes$Value;", "HighRecipes") (by decide +kernel))) (fun _ h9 => h9) (v := .ref x) rfl dX3_doAgain_2 ?_
  refine lv_iconst (v := 0) hx hb dX3_doAgain_5 (by decide) ?_
  refine q_ci (va_runV (As := [.ref x, .int 0]) (rest := []) ⟨hx, hb, hml, hown, hts⟩ (kX3_worth l E n (kO E f k bk hd v) ck k bk hd v (nI b) w pn rc ac lo hi ((kO_out hck).trans hc) ((kO_out hbo).trans hB) kO_K hbo hpn 5 x 0 D (rV_frame (fun q h1 h2 => (kO_out (hreg q h1 h2).1).trans rfl) (Nat.le_refl _) (Nat.le_refl _) 5 x D hD) (by decide)) (cwV 2 hts gX3_doAgain_X3_worth rfl rfl rfl (by decide +kernel) ⟨(by show 15 + 1 ≤ 5 * (d + 6 * R) + 18; omega), (by show 8 + (3 + 11) + 500 ≤ 200 * (d + 6 * R) + 850; omega)⟩) (q_pV hA hW hS (ci := 2) rfl ((kO_out hck).trans hc)) rfl rfl hl.1 rfl (lv_room (Nat.le_of_ble_eq_true rfl)) dX3_doAgain_6 ⟨Nat.le_of_ble_eq_true rfl, Nat.le_of_ble_eq_true rfl⟩) hS (fun r_6 f_6 n_6 H locs hp hW hS => ?_)
  obtain ⟨rfl, rfl, rfl⟩ := hp
  have hW : q_W E (kO E f k bk hd v) n H := hW
  refine lv_bipush (v := 100) hx hb dX3_doAgain_9 (by decide) ?_
  refine va_mmin hx hb (hml.trans hl.1.symm) hown (hts (.methodLink RX3 124 Lib.Math.min.name) (by decide +kernel)) (hts (.static Lib.Math.min.name) (by decide +kernel)) (hts (.initialized "java/lang/Math") (by decide +kernel)) (hts (.code Lib.Math.min.name Lib.Math.min.code 2 (some .int)) (by decide +kernel)) (by show 1 ≤ 5 * (d + 6 * R) + 18; omega) (by show 13 ≤ 200 * (d + 6 * R) + 850; omega) (Nat.le_of_ble_eq_true rfl) (Nat.le_of_ble_eq_true rfl) dX3_doAgain_11 ?_
  refine lv_istore_n (lv' := [(3, .int (q_min (D hd v) 100)), (0, .ref ck), (1, .ref a), (2, .int (nI ar))]) hx hb dX3_doAgain_14 rfl hl (by decide) rfl (fun ls hl => ?_)
  refine lv_iconst (v := 0) hx hb dX3_doAgain_15 (by decide) ?_
  refine lv_istore (lv' := [(4, .int 0), (3, .int (q_min (D hd v) 100)), (0, .ref ck), (1, .ref a), (2, .int (nI ar))]) hx hb dX3_doAgain_16 hl (by decide) rfl (fun ls hl => ?_)
  have K18 : ∀ (fu : Nat) (j : Nat) (hj : j ≤ (q_min (D hd v) 100).toNatClampNeg) (hm : (q_min (D hd v) 100).toNatClampNeg - j < fu) (H : Heap) (locs : List Loc) (ls : Array Slot), q_W E (kO E (va_up f ck (some (cCook k (nI (k_iter (B0 hd) j (v, b, w)).2.1) ((k_iter (B0 hd) j (v, b, w)).2.2)))) k bk hd ((k_iter (B0 hd) j (v, b, w)).1)) n H → va_S (q_ge E) s.heap H locs → lv_has ls 5 [(0, .ref ck), (1, .ref a), (2, .int (nI ar)), (3, .int (q_min (D hd v) 100)), (4, .int (nI j))] → W p l e (headSpec wsX3_doAgain ({ frames := 5 * (d + 6 * R) + 18, cells := 0, slots := 0, locals := 200 * (d + 6 * R) + 850 })).room s m ([.ref ck, .ref a, .int (nI ar)] : List Value).toArray below meth c H locs 0 0 (MQ below (q_Qv E (fun f1 n1 => kO E (va_up f ck (some (cCook k (nI (k_again D B0 hd (v, b, w)).2.1) (k_again D B0 hd (v, b, w)).2.2))) k bk hd (k_again D B0 hd (v, b, w)).1 = f1 ∧ n = n1)) ([.ref ck, .ref a, .int (nI ar)] : List Value).toArray s 0 0 (q_ge E)) (F0 m 18 ls []) := by
    intro fu
    induction fu with
    | zero =>
      intro j hj hm
      exact absurd hm (Nat.not_lt_zero _)
    | succ fu ih =>
      intro j hj hm H locs ls hW hS hl
      have h100 := q_min100 (x := D hd v)
      refine lv_iload hx hb dX3_doAgain_18 (lv_at hl 4 rfl) ?_
      refine lv_iload_n hx hb dX3_doAgain_20 rfl (lv_at hl 3 rfl) ?_
      refine lv_icmp_ge (tgt := 41) hx hb dX3_doAgain_21 (by decide) (fun c_21 => ?_) (fun c_21 => ?_)
      · have ej : (q_min (D hd v) 100).toNatClampNeg = j := by have := q_cl_le (by omega) c_21; omega
        exact q_vret hx hb hr hlocks hW hS ⟨by unfold k_again; rw [show (v, b, w).1 = v from rfl, ej], rfl⟩ (Nat.le_of_ble_eq_true rfl) (Nat.le_of_ble_eq_true rfl) dX3_doAgain_41
      · have hlt : j < (q_min (D hd v) 100).toNatClampNeg := q_cl_gt (by omega) c_21
        refine lv_aload_n hx hb dX3_doAgain_24 rfl (lv_at hl 0 rfl) ?_
        refine lv_aload_n hx hb dX3_doAgain_25 rfl (lv_at hl 1 rfl) ?_
        refine q_getN hx hb hts hown hA hW iX1 ((kO_out (hreg a ha1 ha2).1).trans (q_ne (hreg a ha1 ha2).2 hv)) rfl 6 (by decide) (va_Nw.use rfl (hA.2.2.2.1 ("HighRecipes$Cooking", 80, "HighRecipes$Act", "block", "LHighRecipes$Act;", "HighRecipes") (by decide +kernel))) (fun _ h9 => h9) (v := va_rf blk) rfl dX3_doAgain_26 ?_
        refine lv_iload_n hx hb dX3_doAgain_29 rfl (lv_at hl 2 rfl) ?_
        refine lv_iconst (v := 1) hx hb dX3_doAgain_30 (by decide) ?_
        refine lv_iadd hx hb dX3_doAgain_31 ?_
        rw [nI_1]
        refine q_cv (va_runV (As := [va_rf blk, .int (nI (ar + 1))]) (rest := []) ⟨hx, hb, hml, hown, hts⟩ (ihB d1 R (by omega) (kO E (va_up f ck (some (cCook k (nI (k_iter (B0 hd) j (v, b, w)).2.1) ((k_iter (B0 hd) j (v, b, w)).2.2)))) k bk hd ((k_iter (B0 hd) j (v, b, w)).1)) n ck k bk hd ((k_iter (B0 hd) j (v, b, w)).1) ((k_iter (B0 hd) j (v, b, w)).2.1) ((k_iter (B0 hd) j (v, b, w)).2.2) rc ac g BB m9 blk B0 (ar + 1) ((kO_out hck).trans q_eq) ((kO_out hbo).trans ((va_up_ne _ _ hbc).trans hB)) ((kO_out hbo4).trans ((va_up_ne _ _ hb4c).trans hG)) kO_K hbo hpn hck hbo4 hbc hb4c hreg hB29 (k_good_iter (fun s hs => k_good_L (k_good_A (rRS_good R hRS) d1) m9 blk B0 hL BB hd s hB29 hs) j (v, b, w) hinv) (rep_RS (fun q h1 h2 => (kO_out (hreg q h1 h2).1).trans (va_up_ne _ _ (hreg q h1 h2).2)) hRS) (rep_L (fun q h1 h2 => (kO_out (hreg q h1 h2).1).trans (va_up_ne _ _ (hreg q h1 h2).2)) hL) (by omega) (by omega)) (cwV 2 hts gX3_doAgain_X3_doBlock rfl rfl rfl (by decide +kernel) ⟨(by show (5 * (d1 + 6 * R) + 20) + 1 ≤ 5 * (d + 6 * R) + 18; omega), (by show 8 + (4 + 11) + (200 * (d1 + 6 * R) + 1000) ≤ 200 * (d + 6 * R) + 850; omega)⟩) (q_pV hA hW hS (ci := 2) rfl ((kO_out hck).trans q_eq)) rfl rfl hl.1 rfl (lv_room (Nat.le_of_ble_eq_true rfl)) dX3_doAgain_32 ⟨Nat.le_of_ble_eq_true rfl, Nat.le_of_ble_eq_true rfl⟩) hS (fun f_32 n_32 H locs hp hW hS => ?_)
        obtain ⟨rfl, rfl⟩ := hp
        have hW : q_W E (kO E (va_up (kO E (va_up f ck (some (cCook k (nI (k_iter (B0 hd) j (v, b, w)).2.1) ((k_iter (B0 hd) j (v, b, w)).2.2)))) k bk hd ((k_iter (B0 hd) j (v, b, w)).1)) ck (some (cCook k (nI (B0 hd ((k_iter (B0 hd) j (v, b, w)).1, (k_iter (B0 hd) j (v, b, w)).2.1, (k_iter (B0 hd) j (v, b, w)).2.2)).2.1) ((B0 hd ((k_iter (B0 hd) j (v, b, w)).1, (k_iter (B0 hd) j (v, b, w)).2.1, (k_iter (B0 hd) j (v, b, w)).2.2)).2.2)))) k bk hd ((B0 hd ((k_iter (B0 hd) j (v, b, w)).1, (k_iter (B0 hd) j (v, b, w)).2.1, (k_iter (B0 hd) j (v, b, w)).2.2)).1)) n H := hW
        rw [kO_iu hck] at hW
        rw [q_upup] at hW
        rw [kO_kO] at hW
        have hW : q_W E (kO E (va_up f ck (some (cCook k (nI (B0 hd ((k_iter (B0 hd) j (v, b, w)).1, (k_iter (B0 hd) j (v, b, w)).2.1, (k_iter (B0 hd) j (v, b, w)).2.2)).2.1) ((B0 hd ((k_iter (B0 hd) j (v, b, w)).1, (k_iter (B0 hd) j (v, b, w)).2.1, (k_iter (B0 hd) j (v, b, w)).2.2)).2.2)))) k bk hd ((B0 hd ((k_iter (B0 hd) j (v, b, w)).1, (k_iter (B0 hd) j (v, b, w)).2.1, (k_iter (B0 hd) j (v, b, w)).2.2)).1)) n H := hW
        refine lv_iinc (v := nI (j + 1)) (lv' := [(4, .int (nI (j + 1))), (0, .ref ck), (1, .ref a), (2, .int (nI ar)), (3, .int (q_min (D hd v) 100))]) hx hb dX3_doAgain_35 hl (k := 4) rfl (nI_1 j) (by decide) rfl (fun ls hl => ?_)
        refine lv_goto (tgt := 18) hx hb dX3_doAgain_38 (by decide) ?_
        rw [show B0 hd ((k_iter (B0 hd) j (v, b, w)).1, (k_iter (B0 hd) j (v, b, w)).2.1, (k_iter (B0 hd) j (v, b, w)).2.2) = (k_iter (B0 hd) (j + 1) (v, b, w)) from (k_iter_s j (v, b, w)).symm] at hW
        exact ih (j + 1) hlt (by omega) _ _ _ hW hS (lv_sub hl [1, 2, 3, 4, 0] rfl)
  rw [show kO E f k bk hd v = kO E (va_up f ck (some (cCook k (nI (k_iter (B0 hd) 0 (v, b, w)).2.1) (k_iter (B0 hd) 0 (v, b, w)).2.2))) k bk hd (k_iter (B0 hd) 0 (v, b, w)).1 from congrArg (fun z => kO E z k bk hd v) (q_id hc).symm] at hW
  exact K18 _ 0 (Nat.zero_le _) (Nat.lt_succ_self _) _ _ _ hW hS (lv_sub hl [2, 3, 4, 1, 0] rfl)
