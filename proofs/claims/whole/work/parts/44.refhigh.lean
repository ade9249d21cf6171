/-! the reference: how high, for how many; the mean heat; the checksum -/
def z_best1 (P : Nat → Bool) : Nat → Int32
  | 0 => -1
  | k + 1 => if P (k + 1) = true then nI (k + 1) else z_best1 P k
theorem z_move_lo {v : q_V} {to : Int32} {j q : Nat} (h0 : q ≠ 0) (h : ¬ (54 ≤ q ∧ q % 4 = 2)) : z_move v to j q = v q := z_move_n (i := 0) h0 (fun h9 => h ⟨h9.1, h9.2.1⟩)
theorem v_ok_move {pn k j : Nat} {hd v : q_V} (h : v_ok pn hd v) (hk : k ≤ 60) : v_ok pn hd (z_move v (nI k) j) := by
  obtain ⟨-, ⟨sp, b1, b2, b3⟩, hq⟩ := h
  refine ⟨⟨k, hk, if_pos rfl⟩, ⟨sp, b1, b2, (z_move_lo (by omega) (by omega)).trans b3⟩, fun i hi => ?_⟩
  rw [z_move_lo (by omega) (by omega), z_move_lo (by omega) (by omega)]
  exact hq i hi
theorem k_inv_move {BB k j : Nat} {v : q_V} (h : k_inv BB (v, 0, (-1))) : k_inv BB (z_move v (nI k) j, 0, (-1)) := k_inv_same (s' := (z_move v (nI k) j, 0, (-1))) h (z_move_lo (v := v) (to := nI k) (j := j) (q := 4) (by decide) (by decide)) (z_move_lo (v := v) (to := nI k) (j := j) (q := 5) (by decide) (by decide)) rfl
theorem v_ok_up1 {pn : Nat} {hd v : q_V} {x : Int32} (h : v_ok pn hd v) : v_ok pn hd (upd v 1 x) := v_ok_same h (z_un (j := 1) (q := 0) (by decide)) (z_un (j := 1) (q := 2) (by decide)) (fun i _ => ⟨z_un (by omega), z_un (by omega)⟩)
theorem k_inv_up1 {BB : Nat} {v : q_V} {x : Int32} (h : k_inv BB (v, 0, (-1))) : k_inv BB (upd v 1 x, 0, (-1)) := k_inv_same (s' := (upd v 1 x, 0, (-1))) h (z_un (v := v) (x := x) (j := 1) (q := 4) (by decide)) (z_un (v := v) (x := x) (j := 1) (q := 5) (by decide)) rfl
theorem i_subm (k : Nat) : nI k + (-1) = nI k - 1 := by
  rw [Int32.sub_eq_add_neg]
theorem nI_pm (k : Nat) : nI (k + 1) - 1 = nI k := nI_pred k

set_option maxHeartbeats 4000000 in
set_option maxRecDepth 100000 in
theorem kX14_highestSafe (l : Launch) (E : q_E) (f : q_H) (n : Nat) (M : Nat) (r : q_R) (pn BB : Nat) (Bw : q_R) (RS : Nat → q_S) (r9 : Nat) (rc : Nat)  (hm : RM E f M r) (hpn9 : (r 120 0) = nI pn) (hpn : pn ≤ 8) (hB8 : bR r 8 = Bw) (hB29 : BB ≤ 2 ^ 29) (hinv : k_inv BB ((r 42), 0, (-1))) (hvo : v_ok pn (r 9) (r 42)) (hRS : mRS Bw pn 400 400 80 RS (r9 + 1)) (hrc9 : (r 121 0) = nI rc) (hrc : rc ≤ 6) (hrl : r9 < rc) : Met l yX14_highestSafe wsX14_highestSafe ({ frames := 5 * (6 + 6 * r9) + 31, cells := 0, slots := 0, locals := 200 * (6 + 6 * r9) + 1300 }) (q_P E [.ref M, .int (nI r9)] f n) (q_Qi E (fun r0 f1 n1 => z_best (fun h => decide ((RS r9 (r 9) (z_move (r 42) (nI h) pn, 0, (-1))).1 4 = r 42 4)) 61 = r0 ∧ (∃ b9 w9 : Int32, rO E f M (rp (rp (rp (rp r 100 (fun _ => 0)) 43 (r 42)) 110 (fun _ => b9)) 111 (fun _ => w9)) = f1) ∧ n = n1)) 0 0 (q_ge E) := by
  refine Met.ofW (cc := cX14_highestSafe) (maxL := 4) (ret := (some .int)) (by decide) rfl ?_
  intro p e s m args below meth c s₁ B hml hv
  obtain ⟨rfl, hA, hW⟩ := hv
  have hx := B.exec
  have hb := B.bytes
  have hr := B.returns
  have hts := atoms_spec (ws := wsX14_highestSafe) B.pre
  have hown : s.vm.findClass RX14 = some m.cls := findClass_of_methodNamed B.named
  have hlocks := B.notSynchronized
  have hS : va_S (q_ge E) s.heap s.heap [] := va_S.rf
  have iX14 : ∀ w ∈ wsX140, w ∈ wsX14_highestSafe := by decide +kernel
  have hl := lv_entry ([.ref M, .int (nI r9)]) (n := 4) (Nat.le_of_ble_eq_true rfl)
  rw [lg_entry_eq]
  generalize (lg_sl ([.ref M, .int (nI r9)]) ++ List.replicate (4 - (lg_sl ([.ref M, .int (nI r9)])).length) Slot.unset).toArray = ls at hl ⊢
  have hl : lv_has ls 4 [(0, .ref M), (1, .int (nI r9))] := hl
  have hmE := hm.eq
  rw [hm.eq] at hW
  obtain ⟨PP, hPP⟩ : ∃ z, z = (fun h => decide ((RS r9 (r 9) (z_move (r 42) (nI h) pn, 0, (-1))).1 4 = r 42 4)) := ⟨_, rfl⟩
  rw [← hPP]
  have KH : ∀ (k : Nat), k ≤ 61 → z_best PP 61 = z_best PP k → ∀ (b9 w9 : Int32) (H : Heap) (locs : List Loc) (ls : Array Slot), q_W E (rO E f M (rp (rp (rp (rp r 100 (fun _ => 0)) 43 (r 42)) 110 (fun _ => b9)) 111 (fun _ => w9))) n H → va_S (q_ge E) s.heap H locs → lv_has ls 4 [(0, .ref M), (1, .int (nI r9)), (2, .int (-1)), (3, .int (nI k - 1))] → W p l e (headSpec wsX14_highestSafe ({ frames := 5 * (6 + 6 * r9) + 31, cells := 0, slots := 0, locals := 200 * (6 + 6 * r9) + 1300 })).room s m ([.ref M, .int (nI r9)] : List Value).toArray below meth c H locs 0 0 (MQ below (q_Qi E (fun r0 f1 n1 => z_best PP 61 = r0 ∧ (∃ b9 w9 : Int32, rO E f M (rp (rp (rp (rp r 100 (fun _ => 0)) 43 (r 42)) 110 (fun _ => b9)) 111 (fun _ => w9)) = f1) ∧ n = n1)) ([.ref M, .int (nI r9)] : List Value).toArray s 0 0 (q_ge E)) (F0 m 28 ls []) := by
    intro k
    induction k with
    | zero =>
      intro hk hR b9 w9 H locs ls hW hS hl
      refine lv_iload_n hx hb dX14_highestSafe_28 rfl (lv_at hl 3 rfl) ?_
      refine lv_if_lt (tgt := 74) hx hb dX14_highestSafe_29 (by decide) (fun c_29 => ?_) (fun c_29 => False.elim ((fun h9 => h9 (by decide)) c_29))
      refine lv_iload_n hx hb dX14_highestSafe_74 rfl (lv_at hl 2 rfl) ?_
      exact q_iret hx hb hr hlocks hW hS ⟨hR, ⟨_, _, rfl⟩, rfl⟩ (Nat.le_of_ble_eq_true rfl) (Nat.le_of_ble_eq_true rfl) dX14_highestSafe_75
    | succ k ih =>
      intro hk hR b9 w9 H locs ls hW hS hl
      rw [nI_pm] at hl
      refine lv_iload_n hx hb dX14_highestSafe_28 rfl (lv_at hl 3 rfl) ?_
      refine lv_if_lt (tgt := 74) hx hb dX14_highestSafe_29 (by decide) (fun c_29 => False.elim ((fun h9 => absurd h9 (nI_pos (by omega))) c_29)) (fun c_29 => ?_)
      refine lv_iload_n hx hb dX14_highestSafe_32 rfl (lv_at hl 2 rfl) ?_
      refine lv_iconst (v := (-1)) hx hb dX14_highestSafe_33 (by decide) ?_
      refine lv_icmp_ne (tgt := 74) hx hb dX14_highestSafe_34 (by decide) (fun c_34 => False.elim ((fun h9 => h9 rfl) c_34)) (fun c_34 => ?_)
      refine lv_aload_n hx hb dX14_highestSafe_37 rfl (lv_at hl 0 rfl) ?_
      refine lv_iload_n hx hb dX14_highestSafe_38 rfl (lv_at hl 3 rfl) ?_
      refine q_cv (va_runV (As := [.int (nI k)]) (rest := []) ⟨hx, hb, hml, hown, hts⟩ (kX14_climb l E (rO E f M (rp (rp (rp (rp r 100 (fun _ => 0)) 43 (r 42)) 110 (fun _ => b9)) 111 (fun _ => w9))) n M (rp (rp (rp (rp r 100 (fun _ => 0)) 43 (r 42)) 110 (fun _ => b9)) 111 (fun _ => w9)) pn (nI k) rO_K hpn9 (by assumption)) (cwV 1 hts gX14_highestSafe_X14_climb rfl rfl rfl (by decide +kernel) ⟨(by show 2 + 1 ≤ 5 * (6 + 6 * r9) + 31; omega), (by show 8 + (3 + 11) + 40 ≤ 200 * (6 + 6 * r9) + 1300; omega)⟩) (q_pV hA hW hS (ci := 12) rfl rO_0) rfl rfl hl.1 rfl (lv_room (Nat.le_of_ble_eq_true rfl)) dX14_highestSafe_39 ⟨Nat.le_of_ble_eq_true rfl, Nat.le_of_ble_eq_true rfl⟩) hS (fun f_39 n_39 H locs hp hW hS => ?_)
      obtain ⟨rfl, rfl⟩ := hp
      have hW : q_W E (rO E f M (rp (rp (rp (rp (rp r 100 (fun _ => 0)) 43 (r 42)) 110 (fun _ => b9)) 111 (fun _ => w9)) 42 (z_move (r 42) (nI k) pn))) n H := by rw [rO_rO] at hW; exact hW
      have hW : q_W E (rO E f M (rp (rp (rp (rp (rp r 100 (fun _ => 0)) 43 (r 42)) 110 (fun _ => b9)) 111 (fun _ => w9)) 42 (z_move (r 42) (nI k) pn))) n H := hW
      refine lv_aload_n hx hb dX14_highestSafe_42 rfl (lv_at hl 0 rfl) ?_
      refine lv_iload_n hx hb dX14_highestSafe_43 rfl (lv_at hl 1 rfl) ?_
      refine q_cv (va_runV (As := [.int (nI r9)]) (rest := []) ⟨hx, hb, hml, hown, hts⟩ (kX14_run l E (rO E f M (rp (rp (rp (rp (rp r 100 (fun _ => 0)) 43 (r 42)) 110 (fun _ => b9)) 111 (fun _ => w9)) 42 (z_move (r 42) (nI k) pn))) n M (rp (rp (rp (rp (rp r 100 (fun _ => 0)) 43 (r 42)) 110 (fun _ => b9)) 111 (fun _ => w9)) 42 (z_move (r 42) (nI k) pn)) pn BB Bw RS r9 rO_K hpn9 hpn (by rw [bR8 (by decide), bR8 (by decide), bR8 (by decide), bR8 (by decide), bR8 (by decide)]; exact hB8) hB29 (k_inv_move hinv) (v_ok_move hvo (by omega)) hRS (by omega)) (cwV 1 hts gX14_highestSafe_X14_run rfl rfl rfl (by decide +kernel) ⟨(by show (5 * (6 + 6 * r9) + 25) + 1 ≤ 5 * (6 + 6 * r9) + 31; omega), (by show 8 + (2 + 11) + (200 * (6 + 6 * r9) + 1100) ≤ 200 * (6 + 6 * r9) + 1300; omega)⟩) (q_pV hA hW hS (ci := 12) rfl rO_0) rfl rfl hl.1 rfl (lv_room (Nat.le_of_ble_eq_true rfl)) dX14_highestSafe_44 ⟨Nat.le_of_ble_eq_true rfl, Nat.le_of_ble_eq_true rfl⟩) hS (fun f_44 n_44 H locs hp hW hS => ?_)
      obtain ⟨rfl, rfl⟩ := hp
      have hW : q_W E (rO E f M (rp (rp (rp (rp (rp (rp (rp (rp r 100 (fun _ => 0)) 43 (r 42)) 110 (fun _ => b9)) 111 (fun _ => w9)) 42 (z_move (r 42) (nI k) pn)) 42 ((RS r9 (r 9) ((z_move (r 42) (nI k) pn), 0, (-1))).1)) 110 (fun _ => nI (RS r9 (r 9) ((z_move (r 42) (nI k) pn), 0, (-1))).2.1)) 111 (fun _ => (RS r9 (r 9) ((z_move (r 42) (nI k) pn), 0, (-1))).2.2))) n H := by rw [rO_rO] at hW; exact hW
      rw [rp_d3] at hW
      rw [rp_d2] at hW
      rw [rp_d0] at hW
      have hW : q_W E (rO E f M (rp (rp (rp (rp (rp r 100 (fun _ => 0)) 43 (r 42)) 42 ((RS r9 (r 9) ((z_move (r 42) (nI k) pn), 0, (-1))).1)) 110 (fun _ => nI (RS r9 (r 9) ((z_move (r 42) (nI k) pn), 0, (-1))).2.1)) 111 (fun _ => (RS r9 (r 9) ((z_move (r 42) (nI k) pn), 0, (-1))).2.2))) n H := hW
      refine lv_aload_n hx hb dX14_highestSafe_47 rfl (lv_at hl 0 rfl) ?_
      refine q_get hx hb hts hown hA hW iX14 rO_0 rfl 19 (by decide) (hts (.fieldLink RX14 45 "HighRecipesModel" "now" "[I") (by decide +kernel)) (fun _ h9 => h9) (v := .ref (M + 42)) rfl dX14_highestSafe_48 ?_
      refine lv_iconst (v := 4) hx hb dX14_highestSafe_51 (by decide) ?_
      refine q_ald hx hb hA hW (rO_42 (g := (RS r9 (r 9) ((z_move (r 42) (nI k) pn), 0, (-1))).1) rfl) 4 rfl (by decide) (by decide) (x := ((RS r9 (r 9) ((z_move (r 42) (nI k) pn), 0, (-1))).1) 4) rfl dX14_highestSafe_52 ?_
      refine lv_aload_n hx hb dX14_highestSafe_53 rfl (lv_at hl 0 rfl) ?_
      refine q_get hx hb hts hown hA hW iX14 rO_0 rfl 20 (by decide) (hts (.fieldLink RX14 48 "HighRecipesModel" "kept" "[I") (by decide +kernel)) (fun _ h9 => h9) (v := .ref (M + 43)) rfl dX14_highestSafe_54 ?_
      refine lv_iconst (v := 4) hx hb dX14_highestSafe_57 (by decide) ?_
      refine q_ald hx hb hA hW (rO_43 (g := r 42) rfl) 4 rfl (by decide) (by decide) (x := (r 42) 4) rfl dX14_highestSafe_58 ?_
      refine lv_icmp_ne (tgt := 64) hx hb dX14_highestSafe_59 (by decide) (fun c_59 => ?_) (fun c_59 => ?_)
      · have hPk : ¬ PP k = true := by rw [hPP]; intro h9; exact c_59 (of_decide_eq_true h9)
        refine lv_aload_n hx hb dX14_highestSafe_64 rfl (lv_at hl 0 rfl) ?_
        refine q_cv (va_runV (As := []) (rest := []) ⟨hx, hb, hml, hown, hts⟩ (kX14_bringBack l E (rO E f M (rp (rp (rp (rp (rp r 100 (fun _ => 0)) 43 (r 42)) 42 ((RS r9 (r 9) ((z_move (r 42) (nI k) pn), 0, (-1))).1)) 110 (fun _ => nI (RS r9 (r 9) ((z_move (r 42) (nI k) pn), 0, (-1))).2.1)) 111 (fun _ => (RS r9 (r 9) ((z_move (r 42) (nI k) pn), 0, (-1))).2.2))) n M (rp (rp (rp (rp (rp r 100 (fun _ => 0)) 43 (r 42)) 42 ((RS r9 (r 9) ((z_move (r 42) (nI k) pn), 0, (-1))).1)) 110 (fun _ => nI (RS r9 (r 9) ((z_move (r 42) (nI k) pn), 0, (-1))).2.1)) 111 (fun _ => (RS r9 (r 9) ((z_move (r 42) (nI k) pn), 0, (-1))).2.2)) rO_K) (cwV 0 hts gX14_highestSafe_X14_bringBack rfl rfl rfl (by decide +kernel) ⟨(by show 1 + 1 ≤ 5 * (6 + 6 * r9) + 31; omega), (by show 8 + (1 + 11) + 60 ≤ 200 * (6 + 6 * r9) + 1300; omega)⟩) (q_pV hA hW hS (ci := 12) rfl rO_0) rfl rfl hl.1 rfl (lv_room (Nat.le_of_ble_eq_true rfl)) dX14_highestSafe_65 ⟨Nat.le_of_ble_eq_true rfl, Nat.le_of_ble_eq_true rfl⟩) hS (fun f_65 n_65 H locs hp hW hS => ?_)
        obtain ⟨rfl, rfl⟩ := hp
        have hW : q_W E (rO E f M (rp (rp (rp (rp (rp (rp r 100 (fun _ => 0)) 43 (r 42)) 42 ((RS r9 (r 9) ((z_move (r 42) (nI k) pn), 0, (-1))).1)) 110 (fun _ => nI (RS r9 (r 9) ((z_move (r 42) (nI k) pn), 0, (-1))).2.1)) 111 (fun _ => (RS r9 (r 9) ((z_move (r 42) (nI k) pn), 0, (-1))).2.2)) 42 (r 42))) n H := by rw [rO_rO] at hW; exact hW
        rw [rp_d2] at hW
        have hW : q_W E (rO E f M (rp (rp (rp (rp (rp r 100 (fun _ => 0)) 43 (r 42)) 110 (fun _ => nI (RS r9 (r 9) ((z_move (r 42) (nI k) pn), 0, (-1))).2.1)) 111 (fun _ => (RS r9 (r 9) ((z_move (r 42) (nI k) pn), 0, (-1))).2.2)) 42 (r 42))) n H := hW
        have hW := q_sc 110 (x := nI (RS r9 (r 9) ((z_move (r 42) (nI k) pn), 0, (-1))).2.1) hW rfl (by decide)
        rw [rp_d2] at hW
        have hW := q_sc 111 (x := (RS r9 (r 9) ((z_move (r 42) (nI k) pn), 0, (-1))).2.2) hW rfl (by decide)
        rw [rp_d2] at hW
        have hW := q_rr 42 (g := (r 42)) hW rfl
        rw [rp_d2] at hW
        rw [show rp (rp (rp (rp (rp r 100 (fun _ => 0)) 43 (r 42)) 110 (fun _ => nI (RS r9 (r 9) ((z_move (r 42) (nI k) pn), 0, (-1))).2.1)) 111 (fun _ => (RS r9 (r 9) ((z_move (r 42) (nI k) pn), 0, (-1))).2.2)) 42 (r 42) = rp (rp (rp (rp r 100 (fun _ => 0)) 43 (r 42)) 110 (fun _ => nI (RS r9 (r 9) ((z_move (r 42) (nI k) pn), 0, (-1))).2.1)) 111 (fun _ => (RS r9 (r 9) ((z_move (r 42) (nI k) pn), 0, (-1))).2.2) from rp_tr rfl] at hW
        refine lv_iinc (v := nI k - 1) (lv' := [(3, .int (nI k - 1)), (0, .ref M), (1, .int (nI r9)), (2, .int (-1))]) hx hb dX14_highestSafe_68 hl (k := 3) rfl (i_subm k) (by decide) rfl (fun ls hl => ?_)
        refine lv_goto (tgt := 28) hx hb dX14_highestSafe_71 (by decide) ?_
        exact ih (by omega) (hR.trans (if_neg hPk)) _ _ _ _ _ hW hS (lv_sub hl [1, 2, 3, 0] rfl)
      · have hPk : PP k = true := by rw [hPP]; exact decide_eq_true c_59
        refine lv_iload_n hx hb dX14_highestSafe_62 rfl (lv_at hl 3 rfl) ?_
        refine lv_istore_n (lv' := [(2, .int (nI k)), (0, .ref M), (1, .int (nI r9)), (3, .int (nI k))]) hx hb dX14_highestSafe_63 rfl hl (by decide) rfl (fun ls hl => ?_)
        refine lv_aload_n hx hb dX14_highestSafe_64 rfl (lv_at hl 1 rfl) ?_
        refine q_cv (va_runV (As := []) (rest := []) ⟨hx, hb, hml, hown, hts⟩ (kX14_bringBack l E (rO E f M (rp (rp (rp (rp (rp r 100 (fun _ => 0)) 43 (r 42)) 42 ((RS r9 (r 9) ((z_move (r 42) (nI k) pn), 0, (-1))).1)) 110 (fun _ => nI (RS r9 (r 9) ((z_move (r 42) (nI k) pn), 0, (-1))).2.1)) 111 (fun _ => (RS r9 (r 9) ((z_move (r 42) (nI k) pn), 0, (-1))).2.2))) n M (rp (rp (rp (rp (rp r 100 (fun _ => 0)) 43 (r 42)) 42 ((RS r9 (r 9) ((z_move (r 42) (nI k) pn), 0, (-1))).1)) 110 (fun _ => nI (RS r9 (r 9) ((z_move (r 42) (nI k) pn), 0, (-1))).2.1)) 111 (fun _ => (RS r9 (r 9) ((z_move (r 42) (nI k) pn), 0, (-1))).2.2)) rO_K) (cwV 0 hts gX14_highestSafe_X14_bringBack rfl rfl rfl (by decide +kernel) ⟨(by show 1 + 1 ≤ 5 * (6 + 6 * r9) + 31; omega), (by show 8 + (1 + 11) + 60 ≤ 200 * (6 + 6 * r9) + 1300; omega)⟩) (q_pV hA hW hS (ci := 12) rfl rO_0) rfl rfl hl.1 rfl (lv_room (Nat.le_of_ble_eq_true rfl)) dX14_highestSafe_65 ⟨Nat.le_of_ble_eq_true rfl, Nat.le_of_ble_eq_true rfl⟩) hS (fun f_65 n_65 H locs hp hW hS => ?_)
        obtain ⟨rfl, rfl⟩ := hp
        have hW : q_W E (rO E f M (rp (rp (rp (rp (rp (rp r 100 (fun _ => 0)) 43 (r 42)) 42 ((RS r9 (r 9) ((z_move (r 42) (nI k) pn), 0, (-1))).1)) 110 (fun _ => nI (RS r9 (r 9) ((z_move (r 42) (nI k) pn), 0, (-1))).2.1)) 111 (fun _ => (RS r9 (r 9) ((z_move (r 42) (nI k) pn), 0, (-1))).2.2)) 42 (r 42))) n H := by rw [rO_rO] at hW; exact hW
        rw [rp_d2] at hW
        have hW : q_W E (rO E f M (rp (rp (rp (rp (rp r 100 (fun _ => 0)) 43 (r 42)) 110 (fun _ => nI (RS r9 (r 9) ((z_move (r 42) (nI k) pn), 0, (-1))).2.1)) 111 (fun _ => (RS r9 (r 9) ((z_move (r 42) (nI k) pn), 0, (-1))).2.2)) 42 (r 42))) n H := hW
        have hW := q_sc 110 (x := nI (RS r9 (r 9) ((z_move (r 42) (nI k) pn), 0, (-1))).2.1) hW rfl (by decide)
        rw [rp_d2] at hW
        have hW := q_sc 111 (x := (RS r9 (r 9) ((z_move (r 42) (nI k) pn), 0, (-1))).2.2) hW rfl (by decide)
        rw [rp_d2] at hW
        have hW := q_rr 42 (g := (r 42)) hW rfl
        rw [rp_d2] at hW
        rw [show rp (rp (rp (rp (rp r 100 (fun _ => 0)) 43 (r 42)) 110 (fun _ => nI (RS r9 (r 9) ((z_move (r 42) (nI k) pn), 0, (-1))).2.1)) 111 (fun _ => (RS r9 (r 9) ((z_move (r 42) (nI k) pn), 0, (-1))).2.2)) 42 (r 42) = rp (rp (rp (rp r 100 (fun _ => 0)) 43 (r 42)) 110 (fun _ => nI (RS r9 (r 9) ((z_move (r 42) (nI k) pn), 0, (-1))).2.1)) 111 (fun _ => (RS r9 (r 9) ((z_move (r 42) (nI k) pn), 0, (-1))).2.2) from rp_tr rfl] at hW
        refine lv_iinc (v := nI k - 1) (lv' := [(3, .int (nI k - 1)), (2, .int (nI k)), (0, .ref M), (1, .int (nI r9))]) hx hb dX14_highestSafe_68 hl (k := 3) rfl (i_subm k) (by decide) rfl (fun ls hl => ?_)
        refine lv_goto (tgt := 28) hx hb dX14_highestSafe_71 (by decide) ?_
        refine lv_iload_n hx hb dX14_highestSafe_28 rfl (lv_at hl 0 rfl) ?_
        refine lv_if_lt (tgt := 74) hx hb dX14_highestSafe_29 (by decide) (fun c_29 => ?_) (fun c_29 => ?_)
        · refine lv_iload_n hx hb dX14_highestSafe_74 rfl (lv_at hl 1 rfl) ?_
          exact q_iret hx hb hr hlocks hW hS ⟨hR.trans (if_pos hPk), ⟨_, _, rfl⟩, rfl⟩ (Nat.le_of_ble_eq_true rfl) (Nat.le_of_ble_eq_true rfl) dX14_highestSafe_75
        · refine lv_iload_n hx hb dX14_highestSafe_32 rfl (lv_at hl 1 rfl) ?_
          refine lv_iconst (v := (-1)) hx hb dX14_highestSafe_33 (by decide) ?_
          refine lv_icmp_ne (tgt := 74) hx hb dX14_highestSafe_34 (by decide) (fun c_34 => ?_) (fun c_34 => False.elim ((fun h9 => absurd (show nI k < 0 from by rw [show nI k = -1 from h9]; decide) (nI_pos (by omega))) c_34))
          refine lv_iload_n hx hb dX14_highestSafe_74 rfl (lv_at hl 1 rfl) ?_
          exact q_iret hx hb hr hlocks hW hS ⟨hR.trans (if_pos hPk), ⟨_, _, rfl⟩, rfl⟩ (Nat.le_of_ble_eq_true rfl) (Nat.le_of_ble_eq_true rfl) dX14_highestSafe_75
  refine lv_aload_n hx hb dX14_highestSafe_0 rfl (lv_at hl 0 rfl) ?_
  refine lv_iconst (v := 0) hx hb dX14_highestSafe_1 (by decide) ?_
  refine q_put hx hb hts hown hA hW hS iX14 tyX14 tyX14_ok nmX14 rO_0 rfl 0 (by decide) (hts (.fieldLink RX14 54 "HighRecipesModel" "thrown" "I") (by decide +kernel)) (fun _ h9 => h9) rfl rfl rfl (Nat.le_of_ble_eq_true rfl) dX14_highestSafe_2 (fun H locs hW hS => ?_)
  have hW := q_s0 100 (0) hW rfl (by decide)
  refine lv_aload_n hx hb dX14_highestSafe_5 rfl (lv_at hl 0 rfl) ?_
  refine lv_iload_n hx hb dX14_highestSafe_6 rfl (lv_at hl 1 rfl) ?_
  refine q_ci (va_runV (As := [.int (nI r9)]) (rest := []) ⟨hx, hb, hml, hown, hts⟩ (kX14_isRecipe l E (rO E f M (rp r 100 (fun _ => 0))) n M (rp r 100 (fun _ => 0)) rc (nI r9) rO_K hrc9) (cwV 1 hts gX14_highestSafe_X14_isRecipe rfl rfl rfl (by decide +kernel) ⟨(by show 1 + 1 ≤ 5 * (6 + 6 * r9) + 31; omega), (by show 8 + (2 + 11) + 22 ≤ 200 * (6 + 6 * r9) + 1300; omega)⟩) (q_pV hA hW hS (ci := 12) rfl rO_0) rfl rfl hl.1 rfl (lv_room (Nat.le_of_ble_eq_true rfl)) dX14_highestSafe_7 ⟨Nat.le_of_ble_eq_true rfl, Nat.le_of_ble_eq_true rfl⟩) hS (fun r_7 f_7 n_7 H locs hp hW hS => ?_)
  obtain ⟨rfl, rfl, rfl⟩ := hp
  have hW : q_W E (rO E f M (rp r 100 (fun _ => 0))) n H := hW
  refine lv_if_ne (tgt := 19) hx hb dX14_highestSafe_10 (by decide) (fun c_10 => ?_) (fun c_10 => False.elim ((fun h9 => absurd h9 (b01_T (b_in_ix hrl (by omega)))) c_10))
  refine lv_aload_n hx hb dX14_highestSafe_19 rfl (lv_at hl 0 rfl) ?_
  refine q_cv (va_runV (As := []) (rest := []) ⟨hx, hb, hml, hown, hts⟩ (kX14_keep l E (rO E f M (rp r 100 (fun _ => 0))) n M (rp r 100 (fun _ => 0)) rO_K) (cwV 0 hts gX14_highestSafe_X14_keep rfl rfl rfl (by decide +kernel) ⟨(by show 1 + 1 ≤ 5 * (6 + 6 * r9) + 31; omega), (by show 8 + (1 + 11) + 60 ≤ 200 * (6 + 6 * r9) + 1300; omega)⟩) (q_pV hA hW hS (ci := 12) rfl rO_0) rfl rfl hl.1 rfl (lv_room (Nat.le_of_ble_eq_true rfl)) dX14_highestSafe_20 ⟨Nat.le_of_ble_eq_true rfl, Nat.le_of_ble_eq_true rfl⟩) hS (fun f_20 n_20 H locs hp hW hS => ?_)
  obtain ⟨rfl, rfl⟩ := hp
  have hW : q_W E (rO E f M (rp (rp r 100 (fun _ => 0)) 43 (r 42))) n H := by rw [rO_rO] at hW; exact hW
  have hW : q_W E (rO E f M (rp (rp r 100 (fun _ => 0)) 43 (r 42))) n H := hW
  refine lv_iconst (v := (-1)) hx hb dX14_highestSafe_23 (by decide) ?_
  refine lv_istore_n (lv' := [(2, .int (-1)), (0, .ref M), (1, .int (nI r9))]) hx hb dX14_highestSafe_24 rfl hl (by decide) rfl (fun ls hl => ?_)
  refine lv_bipush (v := 60) hx hb dX14_highestSafe_25 (by decide) ?_
  refine lv_istore_n (lv' := [(3, .int 60), (2, .int (-1)), (0, .ref M), (1, .int (nI r9))]) hx hb dX14_highestSafe_27 rfl hl (by decide) rfl (fun ls hl => ?_)
  have hW := q_sc 110 (x := r 110 0) hW rfl (by decide)
  have hW := q_sc 111 (x := r 111 0) hW rfl (by decide)
  exact KH 61 (Nat.le_refl _) rfl _ _ _ _ _ hW hS (lv_sub hl [2, 3, 1, 0] rfl)

set_option maxHeartbeats 4000000 in
set_option maxRecDepth 100000 in
theorem kX14_highestSafe_F (l : Launch) (E : q_E) (f : q_H) (n : Nat) (M : Nat) (r : q_R) (rc : Nat) (x : Int32)  (hm : RM E f M r) (hrc9 : (r 121 0) = nI rc) (hrc : rc ≤ 6) (hno : x < 0 ∨ nI rc ≤ x) : Met l yX14_highestSafe wsX14_highestSafe ({ frames := 2, cells := 0, slots := 0, locals := 43 }) (q_P E [.ref M, .int x] f n) (q_Qi E (fun r0 f1 n1 => 0 = r0 ∧ rO E f M (rp r 100 (fun _ => 1)) = f1 ∧ n = n1)) 0 0 (q_ge E) := by
  refine Met.ofW (cc := cX14_highestSafe) (maxL := 4) (ret := (some .int)) (by decide) rfl ?_
  intro p e s m args below meth c s₁ B hml hv
  obtain ⟨rfl, hA, hW⟩ := hv
  have hx := B.exec
  have hb := B.bytes
  have hr := B.returns
  have hts := atoms_spec (ws := wsX14_highestSafe) B.pre
  have hown : s.vm.findClass RX14 = some m.cls := findClass_of_methodNamed B.named
  have hlocks := B.notSynchronized
  have hS : va_S (q_ge E) s.heap s.heap [] := va_S.rf
  have iX14 : ∀ w ∈ wsX140, w ∈ wsX14_highestSafe := by decide +kernel
  have hl := lv_entry ([.ref M, .int x]) (n := 4) (Nat.le_of_ble_eq_true rfl)
  rw [lg_entry_eq]
  generalize (lg_sl ([.ref M, .int x]) ++ List.replicate (4 - (lg_sl ([.ref M, .int x])).length) Slot.unset).toArray = ls at hl ⊢
  have hl : lv_has ls 4 [(0, .ref M), (1, .int x)] := hl
  have hmE := hm.eq
  rw [hm.eq] at hW
  refine lv_aload_n hx hb dX14_highestSafe_0 rfl (lv_at hl 0 rfl) ?_
  refine lv_iconst (v := 0) hx hb dX14_highestSafe_1 (by decide) ?_
  refine q_put hx hb hts hown hA hW hS iX14 tyX14 tyX14_ok nmX14 rO_0 rfl 0 (by decide) (hts (.fieldLink RX14 54 "HighRecipesModel" "thrown" "I") (by decide +kernel)) (fun _ h9 => h9) rfl rfl rfl (Nat.le_of_ble_eq_true rfl) dX14_highestSafe_2 (fun H locs hW hS => ?_)
  have hW := q_s0 100 (0) hW rfl (by decide)
  refine lv_aload_n hx hb dX14_highestSafe_5 rfl (lv_at hl 0 rfl) ?_
  refine lv_iload_n hx hb dX14_highestSafe_6 rfl (lv_at hl 1 rfl) ?_
  refine q_ci (va_runV (As := [.int x]) (rest := []) ⟨hx, hb, hml, hown, hts⟩ (kX14_isRecipe l E (rO E f M (rp r 100 (fun _ => 0))) n M (rp r 100 (fun _ => 0)) rc x rO_K hrc9) (cwV 1 hts gX14_highestSafe_X14_isRecipe rfl rfl rfl (by decide +kernel) ⟨(Nat.le_of_ble_eq_true rfl), (Nat.le_of_ble_eq_true rfl)⟩) (q_pV hA hW hS (ci := 12) rfl rO_0) rfl rfl hl.1 rfl (lv_room (Nat.le_of_ble_eq_true rfl)) dX14_highestSafe_7 ⟨Nat.le_of_ble_eq_true rfl, Nat.le_of_ble_eq_true rfl⟩) hS (fun r_7 f_7 n_7 H locs hp hW hS => ?_)
  obtain ⟨rfl, rfl, rfl⟩ := hp
  have hW : q_W E (rO E f M (rp r 100 (fun _ => 0))) n H := hW
  refine lv_if_ne (tgt := 19) hx hb dX14_highestSafe_10 (by decide) (fun c_10 => False.elim ((fun h9 => h9 (b01_F (b_in_no hno (by omega)))) c_10)) (fun c_10 => ?_)
  refine lv_aload_n hx hb dX14_highestSafe_13 rfl (lv_at hl 0 rfl) ?_
  refine lv_iconst (v := 1) hx hb dX14_highestSafe_14 (by decide) ?_
  refine q_ci (va_runV (As := [.int 1]) (rest := []) ⟨hx, hb, hml, hown, hts⟩ (kX14_no l E (rO E f M (rp r 100 (fun _ => 0))) n M (rp r 100 (fun _ => 0)) 1 rO_K) (cwV 1 hts gX14_highestSafe_X14_no rfl rfl rfl (by decide +kernel) ⟨(Nat.le_of_ble_eq_true rfl), (Nat.le_of_ble_eq_true rfl)⟩) (q_pV hA hW hS (ci := 12) rfl rO_0) rfl rfl hl.1 rfl (lv_room (Nat.le_of_ble_eq_true rfl)) dX14_highestSafe_15 ⟨Nat.le_of_ble_eq_true rfl, Nat.le_of_ble_eq_true rfl⟩) hS (fun r_15 f_15 n_15 H locs hp hW hS => ?_)
  obtain ⟨rfl, rfl, rfl⟩ := hp
  have hW : q_W E (rO E f M (rp (rp r 100 (fun _ => 0)) 100 (fun _ => 1))) n H := by rw [rO_rO] at hW; exact hW
  rw [rp_d0] at hW
  have hW : q_W E (rO E f M (rp r 100 (fun _ => 1))) n H := hW
  exact q_iret hx hb hr hlocks hW hS ⟨rfl, rfl, rfl⟩ (Nat.le_of_ble_eq_true rfl) (Nat.le_of_ble_eq_true rfl) dX14_highestSafe_18

set_option maxHeartbeats 4000000 in
set_option maxRecDepth 100000 in
theorem kX14_mostServings (l : Launch) (E : q_E) (f : q_H) (n : Nat) (M : Nat) (r : q_R) (pn BB : Nat) (Bw : q_R) (RS : Nat → q_S) (r9 : Nat) (rc : Nat)  (hm : RM E f M r) (hpn9 : (r 120 0) = nI pn) (hpn : pn ≤ 8) (hB8 : bR r 8 = Bw) (hB29 : BB ≤ 2 ^ 29) (hinv : k_inv BB ((r 42), 0, (-1))) (hvo : v_ok pn (r 9) (r 42)) (hRS : mRS Bw pn 400 400 80 RS (r9 + 1)) (hrc9 : (r 121 0) = nI rc) (hrc : rc ≤ 6) (hrl : r9 < rc) : Met l yX14_mostServings wsX14_mostServings ({ frames := 5 * (6 + 6 * r9) + 31, cells := 0, slots := 0, locals := 200 * (6 + 6 * r9) + 1300 }) (q_P E [.ref M, .int (nI r9)] f n) (q_Qi E (fun r0 f1 n1 => z_best1 (fun h => decide ((RS r9 (r 9) (upd (r 42) 1 (nI h), 0, (-1))).1 7 = r 42 7)) 12 = r0 ∧ (∃ b9 w9 : Int32, rO E f M (rp (rp (rp (rp r 100 (fun _ => 0)) 43 (r 42)) 110 (fun _ => b9)) 111 (fun _ => w9)) = f1) ∧ n = n1)) 0 0 (q_ge E) := by
  refine Met.ofW (cc := cX14_mostServings) (maxL := 4) (ret := (some .int)) (by decide) rfl ?_
  intro p e s m args below meth c s₁ B hml hv
  obtain ⟨rfl, hA, hW⟩ := hv
  have hx := B.exec
  have hb := B.bytes
  have hr := B.returns
  have hts := atoms_spec (ws := wsX14_mostServings) B.pre
  have hown : s.vm.findClass RX14 = some m.cls := findClass_of_methodNamed B.named
  have hlocks := B.notSynchronized
  have hS : va_S (q_ge E) s.heap s.heap [] := va_S.rf
  have iX14 : ∀ w ∈ wsX140, w ∈ wsX14_mostServings := by decide +kernel
  have hl := lv_entry ([.ref M, .int (nI r9)]) (n := 4) (Nat.le_of_ble_eq_true rfl)
  rw [lg_entry_eq]
  generalize (lg_sl ([.ref M, .int (nI r9)]) ++ List.replicate (4 - (lg_sl ([.ref M, .int (nI r9)])).length) Slot.unset).toArray = ls at hl ⊢
  have hl : lv_has ls 4 [(0, .ref M), (1, .int (nI r9))] := hl
  have hmE := hm.eq
  rw [hm.eq] at hW
  obtain ⟨PP, hPP⟩ : ∃ z, z = (fun h => decide ((RS r9 (r 9) (upd (r 42) 1 (nI h), 0, (-1))).1 7 = r 42 7)) := ⟨_, rfl⟩
  rw [← hPP]
  have KH : ∀ (k : Nat), k ≤ 12 → z_best1 PP 12 = z_best1 PP k → ∀ (b9 w9 : Int32) (H : Heap) (locs : List Loc) (ls : Array Slot), q_W E (rO E f M (rp (rp (rp (rp r 100 (fun _ => 0)) 43 (r 42)) 110 (fun _ => b9)) 111 (fun _ => w9))) n H → va_S (q_ge E) s.heap H locs → lv_has ls 4 [(0, .ref M), (1, .int (nI r9)), (2, .int (-1)), (3, .int (nI k))] → W p l e (headSpec wsX14_mostServings ({ frames := 5 * (6 + 6 * r9) + 31, cells := 0, slots := 0, locals := 200 * (6 + 6 * r9) + 1300 })).room s m ([.ref M, .int (nI r9)] : List Value).toArray below meth c H locs 0 0 (MQ below (q_Qi E (fun r0 f1 n1 => z_best1 PP 12 = r0 ∧ (∃ b9 w9 : Int32, rO E f M (rp (rp (rp (rp r 100 (fun _ => 0)) 43 (r 42)) 110 (fun _ => b9)) 111 (fun _ => w9)) = f1) ∧ n = n1)) ([.ref M, .int (nI r9)] : List Value).toArray s 0 0 (q_ge E)) (F0 m 28 ls []) := by
    intro k
    induction k with
    | zero =>
      intro hk hR b9 w9 H locs ls hW hS hl
      refine lv_iload_n hx hb dX14_mostServings_28 rfl (lv_at hl 3 rfl) ?_
      refine lv_if_le (tgt := 78) hx hb dX14_mostServings_29 (by decide) (fun c_29 => ?_) (fun c_29 => False.elim ((fun h9 => h9 (by decide)) c_29))
      refine lv_iload_n hx hb dX14_mostServings_78 rfl (lv_at hl 2 rfl) ?_
      exact q_iret hx hb hr hlocks hW hS ⟨hR, ⟨_, _, rfl⟩, rfl⟩ (Nat.le_of_ble_eq_true rfl) (Nat.le_of_ble_eq_true rfl) dX14_mostServings_79
    | succ k ih =>
      intro hk hR b9 w9 H locs ls hW hS hl
      refine lv_iload_n hx hb dX14_mostServings_28 rfl (lv_at hl 3 rfl) ?_
      refine lv_if_le (tgt := 78) hx hb dX14_mostServings_29 (by decide) (fun c_29 => False.elim ((fun h9 => absurd h9 (nI_nle (by omega) (by omega))) c_29)) (fun c_29 => ?_)
      refine lv_iload_n hx hb dX14_mostServings_32 rfl (lv_at hl 2 rfl) ?_
      refine lv_iconst (v := (-1)) hx hb dX14_mostServings_33 (by decide) ?_
      refine lv_icmp_ne (tgt := 78) hx hb dX14_mostServings_34 (by decide) (fun c_34 => False.elim ((fun h9 => h9 rfl) c_34)) (fun c_34 => ?_)
      refine lv_aload_n hx hb dX14_mostServings_37 rfl (lv_at hl 0 rfl) ?_
      refine q_get hx hb hts hown hA hW iX14 rO_0 rfl 19 (by decide) (hts (.fieldLink RX14 45 "HighRecipesModel" "now" "[I") (by decide +kernel)) (fun _ h9 => h9) (v := .ref (M + 42)) rfl dX14_mostServings_38 ?_
      refine lv_iconst (v := 1) hx hb dX14_mostServings_41 (by decide) ?_
      refine lv_iload_n hx hb dX14_mostServings_42 rfl (lv_at hl 3 rfl) ?_
      refine q_ast hx hb hA hW hS (rO_42 (g := r 42) rfl) 1 rfl (by decide) (by decide) dX14_mostServings_43 (fun H locs hW hS => ?_)
      have hW := q_sa 42 hW rfl rfl
      refine lv_aload_n hx hb dX14_mostServings_44 rfl (lv_at hl 0 rfl) ?_
      refine lv_iload_n hx hb dX14_mostServings_45 rfl (lv_at hl 1 rfl) ?_
      refine q_cv (va_runV (As := [.int (nI r9)]) (rest := []) ⟨hx, hb, hml, hown, hts⟩ (kX14_run l E (rO E f M (rp (rp (rp (rp (rp r 100 (fun _ => 0)) 43 (r 42)) 110 (fun _ => b9)) 111 (fun _ => w9)) 42 (upd (r 42) 1 (nI (k + 1))))) n M (rp (rp (rp (rp (rp r 100 (fun _ => 0)) 43 (r 42)) 110 (fun _ => b9)) 111 (fun _ => w9)) 42 (upd (r 42) 1 (nI (k + 1)))) pn BB Bw RS r9 rO_K hpn9 hpn (by rw [bR8 (by decide), bR8 (by decide), bR8 (by decide), bR8 (by decide), bR8 (by decide)]; exact hB8) hB29 (k_inv_up1 hinv) (v_ok_up1 hvo) hRS (by omega)) (cwV 1 hts gX14_mostServings_X14_run rfl rfl rfl (by decide +kernel) ⟨(by show (5 * (6 + 6 * r9) + 25) + 1 ≤ 5 * (6 + 6 * r9) + 31; omega), (by show 8 + (2 + 11) + (200 * (6 + 6 * r9) + 1100) ≤ 200 * (6 + 6 * r9) + 1300; omega)⟩) (q_pV hA hW hS (ci := 12) rfl rO_0) rfl rfl hl.1 rfl (lv_room (Nat.le_of_ble_eq_true rfl)) dX14_mostServings_46 ⟨Nat.le_of_ble_eq_true rfl, Nat.le_of_ble_eq_true rfl⟩) hS (fun f_46 n_46 H locs hp hW hS => ?_)
      obtain ⟨rfl, rfl⟩ := hp
      have hW : q_W E (rO E f M (rp (rp (rp (rp (rp (rp (rp (rp r 100 (fun _ => 0)) 43 (r 42)) 110 (fun _ => b9)) 111 (fun _ => w9)) 42 (upd (r 42) 1 (nI (k + 1)))) 42 ((RS r9 (r 9) ((upd (r 42) 1 (nI (k + 1))), 0, (-1))).1)) 110 (fun _ => nI (RS r9 (r 9) ((upd (r 42) 1 (nI (k + 1))), 0, (-1))).2.1)) 111 (fun _ => (RS r9 (r 9) ((upd (r 42) 1 (nI (k + 1))), 0, (-1))).2.2))) n H := by rw [rO_rO] at hW; exact hW
      rw [rp_d3] at hW
      rw [rp_d2] at hW
      rw [rp_d0] at hW
      have hW : q_W E (rO E f M (rp (rp (rp (rp (rp r 100 (fun _ => 0)) 43 (r 42)) 42 ((RS r9 (r 9) ((upd (r 42) 1 (nI (k + 1))), 0, (-1))).1)) 110 (fun _ => nI (RS r9 (r 9) ((upd (r 42) 1 (nI (k + 1))), 0, (-1))).2.1)) 111 (fun _ => (RS r9 (r 9) ((upd (r 42) 1 (nI (k + 1))), 0, (-1))).2.2))) n H := hW
      refine lv_aload_n hx hb dX14_mostServings_49 rfl (lv_at hl 0 rfl) ?_
      refine q_get hx hb hts hown hA hW iX14 rO_0 rfl 19 (by decide) (hts (.fieldLink RX14 45 "HighRecipesModel" "now" "[I") (by decide +kernel)) (fun _ h9 => h9) (v := .ref (M + 42)) rfl dX14_mostServings_50 ?_
      refine lv_bipush (v := 7) hx hb dX14_mostServings_53 (by decide) ?_
      refine q_ald hx hb hA hW (rO_42 (g := (RS r9 (r 9) ((upd (r 42) 1 (nI (k + 1))), 0, (-1))).1) rfl) 7 rfl (by decide) (by decide) (x := ((RS r9 (r 9) ((upd (r 42) 1 (nI (k + 1))), 0, (-1))).1) 7) rfl dX14_mostServings_55 ?_
      refine lv_aload_n hx hb dX14_mostServings_56 rfl (lv_at hl 0 rfl) ?_
      refine q_get hx hb hts hown hA hW iX14 rO_0 rfl 20 (by decide) (hts (.fieldLink RX14 48 "HighRecipesModel" "kept" "[I") (by decide +kernel)) (fun _ h9 => h9) (v := .ref (M + 43)) rfl dX14_mostServings_57 ?_
      refine lv_bipush (v := 7) hx hb dX14_mostServings_60 (by decide) ?_
      refine q_ald hx hb hA hW (rO_43 (g := r 42) rfl) 7 rfl (by decide) (by decide) (x := (r 42) 7) rfl dX14_mostServings_62 ?_
      refine lv_icmp_ne (tgt := 68) hx hb dX14_mostServings_63 (by decide) (fun c_63 => ?_) (fun c_63 => ?_)
      · have hPk : ¬ PP (k + 1) = true := by rw [hPP]; intro h9; exact c_63 (of_decide_eq_true h9)
        refine lv_aload_n hx hb dX14_mostServings_68 rfl (lv_at hl 0 rfl) ?_
        refine q_cv (va_runV (As := []) (rest := []) ⟨hx, hb, hml, hown, hts⟩ (kX14_bringBack l E (rO E f M (rp (rp (rp (rp (rp r 100 (fun _ => 0)) 43 (r 42)) 42 ((RS r9 (r 9) ((upd (r 42) 1 (nI (k + 1))), 0, (-1))).1)) 110 (fun _ => nI (RS r9 (r 9) ((upd (r 42) 1 (nI (k + 1))), 0, (-1))).2.1)) 111 (fun _ => (RS r9 (r 9) ((upd (r 42) 1 (nI (k + 1))), 0, (-1))).2.2))) n M (rp (rp (rp (rp (rp r 100 (fun _ => 0)) 43 (r 42)) 42 ((RS r9 (r 9) ((upd (r 42) 1 (nI (k + 1))), 0, (-1))).1)) 110 (fun _ => nI (RS r9 (r 9) ((upd (r 42) 1 (nI (k + 1))), 0, (-1))).2.1)) 111 (fun _ => (RS r9 (r 9) ((upd (r 42) 1 (nI (k + 1))), 0, (-1))).2.2)) rO_K) (cwV 0 hts gX14_mostServings_X14_bringBack rfl rfl rfl (by decide +kernel) ⟨(by show 1 + 1 ≤ 5 * (6 + 6 * r9) + 31; omega), (by show 8 + (1 + 11) + 60 ≤ 200 * (6 + 6 * r9) + 1300; omega)⟩) (q_pV hA hW hS (ci := 12) rfl rO_0) rfl rfl hl.1 rfl (lv_room (Nat.le_of_ble_eq_true rfl)) dX14_mostServings_69 ⟨Nat.le_of_ble_eq_true rfl, Nat.le_of_ble_eq_true rfl⟩) hS (fun f_69 n_69 H locs hp hW hS => ?_)
        obtain ⟨rfl, rfl⟩ := hp
        have hW : q_W E (rO E f M (rp (rp (rp (rp (rp (rp r 100 (fun _ => 0)) 43 (r 42)) 42 ((RS r9 (r 9) ((upd (r 42) 1 (nI (k + 1))), 0, (-1))).1)) 110 (fun _ => nI (RS r9 (r 9) ((upd (r 42) 1 (nI (k + 1))), 0, (-1))).2.1)) 111 (fun _ => (RS r9 (r 9) ((upd (r 42) 1 (nI (k + 1))), 0, (-1))).2.2)) 42 (r 42))) n H := by rw [rO_rO] at hW; exact hW
        rw [rp_d2] at hW
        have hW : q_W E (rO E f M (rp (rp (rp (rp (rp r 100 (fun _ => 0)) 43 (r 42)) 110 (fun _ => nI (RS r9 (r 9) ((upd (r 42) 1 (nI (k + 1))), 0, (-1))).2.1)) 111 (fun _ => (RS r9 (r 9) ((upd (r 42) 1 (nI (k + 1))), 0, (-1))).2.2)) 42 (r 42))) n H := hW
        have hW := q_sc 110 (x := nI (RS r9 (r 9) ((upd (r 42) 1 (nI (k + 1))), 0, (-1))).2.1) hW rfl (by decide)
        rw [rp_d2] at hW
        have hW := q_sc 111 (x := (RS r9 (r 9) ((upd (r 42) 1 (nI (k + 1))), 0, (-1))).2.2) hW rfl (by decide)
        rw [rp_d2] at hW
        have hW := q_rr 42 (g := (r 42)) hW rfl
        rw [rp_d2] at hW
        rw [show rp (rp (rp (rp (rp r 100 (fun _ => 0)) 43 (r 42)) 110 (fun _ => nI (RS r9 (r 9) ((upd (r 42) 1 (nI (k + 1))), 0, (-1))).2.1)) 111 (fun _ => (RS r9 (r 9) ((upd (r 42) 1 (nI (k + 1))), 0, (-1))).2.2)) 42 (r 42) = rp (rp (rp (rp r 100 (fun _ => 0)) 43 (r 42)) 110 (fun _ => nI (RS r9 (r 9) ((upd (r 42) 1 (nI (k + 1))), 0, (-1))).2.1)) 111 (fun _ => (RS r9 (r 9) ((upd (r 42) 1 (nI (k + 1))), 0, (-1))).2.2) from rp_tr rfl] at hW
        refine lv_iinc (v := nI k) (lv' := [(3, .int (nI k)), (0, .ref M), (1, .int (nI r9)), (2, .int (-1))]) hx hb dX14_mostServings_72 hl (k := 3) rfl ((i_subm (k + 1)).trans (nI_pm k)) (by decide) rfl (fun ls hl => ?_)
        refine lv_goto (tgt := 28) hx hb dX14_mostServings_75 (by decide) ?_
        exact ih (by omega) (hR.trans (if_neg hPk)) _ _ _ _ _ hW hS (lv_sub hl [1, 2, 3, 0] rfl)
      · have hPk : PP (k + 1) = true := by rw [hPP]; exact decide_eq_true c_63
        refine lv_iload_n hx hb dX14_mostServings_66 rfl (lv_at hl 3 rfl) ?_
        refine lv_istore_n (lv' := [(2, .int (nI (k + 1))), (0, .ref M), (1, .int (nI r9)), (3, .int (nI (k + 1)))]) hx hb dX14_mostServings_67 rfl hl (by decide) rfl (fun ls hl => ?_)
        refine lv_aload_n hx hb dX14_mostServings_68 rfl (lv_at hl 1 rfl) ?_
        refine q_cv (va_runV (As := []) (rest := []) ⟨hx, hb, hml, hown, hts⟩ (kX14_bringBack l E (rO E f M (rp (rp (rp (rp (rp r 100 (fun _ => 0)) 43 (r 42)) 42 ((RS r9 (r 9) ((upd (r 42) 1 (nI (k + 1))), 0, (-1))).1)) 110 (fun _ => nI (RS r9 (r 9) ((upd (r 42) 1 (nI (k + 1))), 0, (-1))).2.1)) 111 (fun _ => (RS r9 (r 9) ((upd (r 42) 1 (nI (k + 1))), 0, (-1))).2.2))) n M (rp (rp (rp (rp (rp r 100 (fun _ => 0)) 43 (r 42)) 42 ((RS r9 (r 9) ((upd (r 42) 1 (nI (k + 1))), 0, (-1))).1)) 110 (fun _ => nI (RS r9 (r 9) ((upd (r 42) 1 (nI (k + 1))), 0, (-1))).2.1)) 111 (fun _ => (RS r9 (r 9) ((upd (r 42) 1 (nI (k + 1))), 0, (-1))).2.2)) rO_K) (cwV 0 hts gX14_mostServings_X14_bringBack rfl rfl rfl (by decide +kernel) ⟨(by show 1 + 1 ≤ 5 * (6 + 6 * r9) + 31; omega), (by show 8 + (1 + 11) + 60 ≤ 200 * (6 + 6 * r9) + 1300; omega)⟩) (q_pV hA hW hS (ci := 12) rfl rO_0) rfl rfl hl.1 rfl (lv_room (Nat.le_of_ble_eq_true rfl)) dX14_mostServings_69 ⟨Nat.le_of_ble_eq_true rfl, Nat.le_of_ble_eq_true rfl⟩) hS (fun f_69 n_69 H locs hp hW hS => ?_)
        obtain ⟨rfl, rfl⟩ := hp
        have hW : q_W E (rO E f M (rp (rp (rp (rp (rp (rp r 100 (fun _ => 0)) 43 (r 42)) 42 ((RS r9 (r 9) ((upd (r 42) 1 (nI (k + 1))), 0, (-1))).1)) 110 (fun _ => nI (RS r9 (r 9) ((upd (r 42) 1 (nI (k + 1))), 0, (-1))).2.1)) 111 (fun _ => (RS r9 (r 9) ((upd (r 42) 1 (nI (k + 1))), 0, (-1))).2.2)) 42 (r 42))) n H := by rw [rO_rO] at hW; exact hW
        rw [rp_d2] at hW
        have hW : q_W E (rO E f M (rp (rp (rp (rp (rp r 100 (fun _ => 0)) 43 (r 42)) 110 (fun _ => nI (RS r9 (r 9) ((upd (r 42) 1 (nI (k + 1))), 0, (-1))).2.1)) 111 (fun _ => (RS r9 (r 9) ((upd (r 42) 1 (nI (k + 1))), 0, (-1))).2.2)) 42 (r 42))) n H := hW
        have hW := q_sc 110 (x := nI (RS r9 (r 9) ((upd (r 42) 1 (nI (k + 1))), 0, (-1))).2.1) hW rfl (by decide)
        rw [rp_d2] at hW
        have hW := q_sc 111 (x := (RS r9 (r 9) ((upd (r 42) 1 (nI (k + 1))), 0, (-1))).2.2) hW rfl (by decide)
        rw [rp_d2] at hW
        have hW := q_rr 42 (g := (r 42)) hW rfl
        rw [rp_d2] at hW
        rw [show rp (rp (rp (rp (rp r 100 (fun _ => 0)) 43 (r 42)) 110 (fun _ => nI (RS r9 (r 9) ((upd (r 42) 1 (nI (k + 1))), 0, (-1))).2.1)) 111 (fun _ => (RS r9 (r 9) ((upd (r 42) 1 (nI (k + 1))), 0, (-1))).2.2)) 42 (r 42) = rp (rp (rp (rp r 100 (fun _ => 0)) 43 (r 42)) 110 (fun _ => nI (RS r9 (r 9) ((upd (r 42) 1 (nI (k + 1))), 0, (-1))).2.1)) 111 (fun _ => (RS r9 (r 9) ((upd (r 42) 1 (nI (k + 1))), 0, (-1))).2.2) from rp_tr rfl] at hW
        refine lv_iinc (v := nI k) (lv' := [(3, .int (nI k)), (2, .int (nI (k + 1))), (0, .ref M), (1, .int (nI r9))]) hx hb dX14_mostServings_72 hl (k := 3) rfl ((i_subm (k + 1)).trans (nI_pm k)) (by decide) rfl (fun ls hl => ?_)
        refine lv_goto (tgt := 28) hx hb dX14_mostServings_75 (by decide) ?_
        refine lv_iload_n hx hb dX14_mostServings_28 rfl (lv_at hl 0 rfl) ?_
        refine lv_if_le (tgt := 78) hx hb dX14_mostServings_29 (by decide) (fun c_29 => ?_) (fun c_29 => ?_)
        · refine lv_iload_n hx hb dX14_mostServings_78 rfl (lv_at hl 1 rfl) ?_
          exact q_iret hx hb hr hlocks hW hS ⟨hR.trans (if_pos hPk), ⟨_, _, rfl⟩, rfl⟩ (Nat.le_of_ble_eq_true rfl) (Nat.le_of_ble_eq_true rfl) dX14_mostServings_79
        · refine lv_iload_n hx hb dX14_mostServings_32 rfl (lv_at hl 1 rfl) ?_
          refine lv_iconst (v := (-1)) hx hb dX14_mostServings_33 (by decide) ?_
          refine lv_icmp_ne (tgt := 78) hx hb dX14_mostServings_34 (by decide) (fun c_34 => ?_) (fun c_34 => False.elim ((fun h9 => absurd (show nI (k + 1) < 0 from by rw [show nI (k + 1) = -1 from h9]; decide) (nI_pos (by omega))) c_34))
          refine lv_iload_n hx hb dX14_mostServings_78 rfl (lv_at hl 1 rfl) ?_
          exact q_iret hx hb hr hlocks hW hS ⟨hR.trans (if_pos hPk), ⟨_, _, rfl⟩, rfl⟩ (Nat.le_of_ble_eq_true rfl) (Nat.le_of_ble_eq_true rfl) dX14_mostServings_79
  refine lv_aload_n hx hb dX14_mostServings_0 rfl (lv_at hl 0 rfl) ?_
  refine lv_iconst (v := 0) hx hb dX14_mostServings_1 (by decide) ?_
  refine q_put hx hb hts hown hA hW hS iX14 tyX14 tyX14_ok nmX14 rO_0 rfl 0 (by decide) (hts (.fieldLink RX14 54 "HighRecipesModel" "thrown" "I") (by decide +kernel)) (fun _ h9 => h9) rfl rfl rfl (Nat.le_of_ble_eq_true rfl) dX14_mostServings_2 (fun H locs hW hS => ?_)
  have hW := q_s0 100 (0) hW rfl (by decide)
  refine lv_aload_n hx hb dX14_mostServings_5 rfl (lv_at hl 0 rfl) ?_
  refine lv_iload_n hx hb dX14_mostServings_6 rfl (lv_at hl 1 rfl) ?_
  refine q_ci (va_runV (As := [.int (nI r9)]) (rest := []) ⟨hx, hb, hml, hown, hts⟩ (kX14_isRecipe l E (rO E f M (rp r 100 (fun _ => 0))) n M (rp r 100 (fun _ => 0)) rc (nI r9) rO_K hrc9) (cwV 1 hts gX14_mostServings_X14_isRecipe rfl rfl rfl (by decide +kernel) ⟨(by show 1 + 1 ≤ 5 * (6 + 6 * r9) + 31; omega), (by show 8 + (2 + 11) + 22 ≤ 200 * (6 + 6 * r9) + 1300; omega)⟩) (q_pV hA hW hS (ci := 12) rfl rO_0) rfl rfl hl.1 rfl (lv_room (Nat.le_of_ble_eq_true rfl)) dX14_mostServings_7 ⟨Nat.le_of_ble_eq_true rfl, Nat.le_of_ble_eq_true rfl⟩) hS (fun r_7 f_7 n_7 H locs hp hW hS => ?_)
  obtain ⟨rfl, rfl, rfl⟩ := hp
  have hW : q_W E (rO E f M (rp r 100 (fun _ => 0))) n H := hW
  refine lv_if_ne (tgt := 19) hx hb dX14_mostServings_10 (by decide) (fun c_10 => ?_) (fun c_10 => False.elim ((fun h9 => absurd h9 (b01_T (b_in_ix hrl (by omega)))) c_10))
  refine lv_aload_n hx hb dX14_mostServings_19 rfl (lv_at hl 0 rfl) ?_
  refine q_cv (va_runV (As := []) (rest := []) ⟨hx, hb, hml, hown, hts⟩ (kX14_keep l E (rO E f M (rp r 100 (fun _ => 0))) n M (rp r 100 (fun _ => 0)) rO_K) (cwV 0 hts gX14_mostServings_X14_keep rfl rfl rfl (by decide +kernel) ⟨(by show 1 + 1 ≤ 5 * (6 + 6 * r9) + 31; omega), (by show 8 + (1 + 11) + 60 ≤ 200 * (6 + 6 * r9) + 1300; omega)⟩) (q_pV hA hW hS (ci := 12) rfl rO_0) rfl rfl hl.1 rfl (lv_room (Nat.le_of_ble_eq_true rfl)) dX14_mostServings_20 ⟨Nat.le_of_ble_eq_true rfl, Nat.le_of_ble_eq_true rfl⟩) hS (fun f_20 n_20 H locs hp hW hS => ?_)
  obtain ⟨rfl, rfl⟩ := hp
  have hW : q_W E (rO E f M (rp (rp r 100 (fun _ => 0)) 43 (r 42))) n H := by rw [rO_rO] at hW; exact hW
  have hW : q_W E (rO E f M (rp (rp r 100 (fun _ => 0)) 43 (r 42))) n H := hW
  refine lv_iconst (v := (-1)) hx hb dX14_mostServings_23 (by decide) ?_
  refine lv_istore_n (lv' := [(2, .int (-1)), (0, .ref M), (1, .int (nI r9))]) hx hb dX14_mostServings_24 rfl hl (by decide) rfl (fun ls hl => ?_)
  refine lv_bipush (v := 12) hx hb dX14_mostServings_25 (by decide) ?_
  refine lv_istore_n (lv' := [(3, .int 12), (2, .int (-1)), (0, .ref M), (1, .int (nI r9))]) hx hb dX14_mostServings_27 rfl hl (by decide) rfl (fun ls hl => ?_)
  have hW := q_sc 110 (x := r 110 0) hW rfl (by decide)
  have hW := q_sc 111 (x := r 111 0) hW rfl (by decide)
  exact KH 12 (Nat.le_refl _) rfl _ _ _ _ _ hW hS (lv_sub hl [2, 3, 1, 0] rfl)

set_option maxHeartbeats 4000000 in
set_option maxRecDepth 100000 in
theorem kX14_mostServings_F (l : Launch) (E : q_E) (f : q_H) (n : Nat) (M : Nat) (r : q_R) (rc : Nat) (x : Int32)  (hm : RM E f M r) (hrc9 : (r 121 0) = nI rc) (hrc : rc ≤ 6) (hno : x < 0 ∨ nI rc ≤ x) : Met l yX14_mostServings wsX14_mostServings ({ frames := 2, cells := 0, slots := 0, locals := 43 }) (q_P E [.ref M, .int x] f n) (q_Qi E (fun r0 f1 n1 => 0 = r0 ∧ rO E f M (rp r 100 (fun _ => 1)) = f1 ∧ n = n1)) 0 0 (q_ge E) := by
  refine Met.ofW (cc := cX14_mostServings) (maxL := 4) (ret := (some .int)) (by decide) rfl ?_
  intro p e s m args below meth c s₁ B hml hv
  obtain ⟨rfl, hA, hW⟩ := hv
  have hx := B.exec
  have hb := B.bytes
  have hr := B.returns
  have hts := atoms_spec (ws := wsX14_mostServings) B.pre
  have hown : s.vm.findClass RX14 = some m.cls := findClass_of_methodNamed B.named
  have hlocks := B.notSynchronized
  have hS : va_S (q_ge E) s.heap s.heap [] := va_S.rf
  have iX14 : ∀ w ∈ wsX140, w ∈ wsX14_mostServings := by decide +kernel
  have hl := lv_entry ([.ref M, .int x]) (n := 4) (Nat.le_of_ble_eq_true rfl)
  rw [lg_entry_eq]
  generalize (lg_sl ([.ref M, .int x]) ++ List.replicate (4 - (lg_sl ([.ref M, .int x])).length) Slot.unset).toArray = ls at hl ⊢
  have hl : lv_has ls 4 [(0, .ref M), (1, .int x)] := hl
  have hmE := hm.eq
  rw [hm.eq] at hW
  refine lv_aload_n hx hb dX14_mostServings_0 rfl (lv_at hl 0 rfl) ?_
  refine lv_iconst (v := 0) hx hb dX14_mostServings_1 (by decide) ?_
  refine q_put hx hb hts hown hA hW hS iX14 tyX14 tyX14_ok nmX14 rO_0 rfl 0 (by decide) (hts (.fieldLink RX14 54 "HighRecipesModel" "thrown" "I") (by decide +kernel)) (fun _ h9 => h9) rfl rfl rfl (Nat.le_of_ble_eq_true rfl) dX14_mostServings_2 (fun H locs hW hS => ?_)
  have hW := q_s0 100 (0) hW rfl (by decide)
  refine lv_aload_n hx hb dX14_mostServings_5 rfl (lv_at hl 0 rfl) ?_
  refine lv_iload_n hx hb dX14_mostServings_6 rfl (lv_at hl 1 rfl) ?_
  refine q_ci (va_runV (As := [.int x]) (rest := []) ⟨hx, hb, hml, hown, hts⟩ (kX14_isRecipe l E (rO E f M (rp r 100 (fun _ => 0))) n M (rp r 100 (fun _ => 0)) rc x rO_K hrc9) (cwV 1 hts gX14_mostServings_X14_isRecipe rfl rfl rfl (by decide +kernel) ⟨(Nat.le_of_ble_eq_true rfl), (Nat.le_of_ble_eq_true rfl)⟩) (q_pV hA hW hS (ci := 12) rfl rO_0) rfl rfl hl.1 rfl (lv_room (Nat.le_of_ble_eq_true rfl)) dX14_mostServings_7 ⟨Nat.le_of_ble_eq_true rfl, Nat.le_of_ble_eq_true rfl⟩) hS (fun r_7 f_7 n_7 H locs hp hW hS => ?_)
  obtain ⟨rfl, rfl, rfl⟩ := hp
  have hW : q_W E (rO E f M (rp r 100 (fun _ => 0))) n H := hW
  refine lv_if_ne (tgt := 19) hx hb dX14_mostServings_10 (by decide) (fun c_10 => False.elim ((fun h9 => h9 (b01_F (b_in_no hno (by omega)))) c_10)) (fun c_10 => ?_)
  refine lv_aload_n hx hb dX14_mostServings_13 rfl (lv_at hl 0 rfl) ?_
  refine lv_iconst (v := 1) hx hb dX14_mostServings_14 (by decide) ?_
  refine q_ci (va_runV (As := [.int 1]) (rest := []) ⟨hx, hb, hml, hown, hts⟩ (kX14_no l E (rO E f M (rp r 100 (fun _ => 0))) n M (rp r 100 (fun _ => 0)) 1 rO_K) (cwV 1 hts gX14_mostServings_X14_no rfl rfl rfl (by decide +kernel) ⟨(Nat.le_of_ble_eq_true rfl), (Nat.le_of_ble_eq_true rfl)⟩) (q_pV hA hW hS (ci := 12) rfl rO_0) rfl rfl hl.1 rfl (lv_room (Nat.le_of_ble_eq_true rfl)) dX14_mostServings_15 ⟨Nat.le_of_ble_eq_true rfl, Nat.le_of_ble_eq_true rfl⟩) hS (fun r_15 f_15 n_15 H locs hp hW hS => ?_)
  obtain ⟨rfl, rfl, rfl⟩ := hp
  have hW : q_W E (rO E f M (rp (rp r 100 (fun _ => 0)) 100 (fun _ => 1))) n H := by rw [rO_rO] at hW; exact hW
  rw [rp_d0] at hW
  have hW : q_W E (rO E f M (rp r 100 (fun _ => 1))) n H := hW
  exact q_iret hx hb hr hlocks hW hS ⟨rfl, rfl, rfl⟩ (Nat.le_of_ble_eq_true rfl) (Nat.le_of_ble_eq_true rfl) dX14_mostServings_18
