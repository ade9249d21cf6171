/-! the class: cooking, and what would be -/
/-- a trial kitchen has counted from 0, the other from c on -/
def X_D (c v v' : q_V) : Prop := v 4 + c 4 = v' 4 ∧ ∀ j, j < 6 → v (6 + j) + c (6 + j) = v' (6 + j)
theorem i_swap (a b : Int32) : a + 1 + b = a + b + 1 := by rw [Int32.add_assoc, Int32.add_comm 1 b, ← Int32.add_assoc]
theorem X_D_ok {c : q_V} : x_ok (X_D c) := by
  refine ⟨fun v v' w w' h hw => ?_, fun v v' kd hk o o' h => ?_, fun v v' x o o' h => ?_⟩
  · refine ⟨?_, fun j hj => ?_⟩
    · rw [(hw 4 (by decide) (by decide)).1, (hw 4 (by decide) (by decide)).2]; exact h.1
    · rw [(hw (6 + j) (by omega) (by omega)).1, (hw (6 + j) (by omega) (by omega)).2]; exact h.2 j hj
  · refine ⟨?_, fun j hj => ?_⟩
    · rw [z_warn_4, z_warn_4, ← o.1.1, ← o'.1.1, i_swap, h.1]
    · rw [z_warn_k hk hj, z_warn_k hk hj]
      split
      · rw [i_swap, h.2 j hj]
      · exact h.2 j hj
  · have e : ∀ (u : q_V) (T q : Nat), q ≠ 5 → q < 12 → z_note u T x q = u q := fun u T q h1 h2 => by unfold z_note; rw [z_un (by omega), z_un (by omega)]
    refine ⟨?_, fun j hj => ?_⟩
    · rw [e _ _ _ (by decide) (by decide), e _ _ _ (by decide) (by decide)]; exact h.1
    · rw [e _ _ _ (by omega) (by omega), e _ _ _ (by omega) (by omega)]; exact h.2 j hj
theorem z_bec_lt {v v2 : q_V} {j q : Nat} (h : q < 4) : z_bec v v2 j q = v2 q := if_pos h
theorem z_bec_0' {v v2 : q_V} {j q : Nat} (h : 4 ≤ q) (h2 : q < 12) : z_bec v v2 j q = 0 := by unfold z_bec; rw [if_neg (by omega), if_pos h2]
theorem z_bec_p {v v2 : q_V} {j q : Nat} (h : 52 ≤ q) (h2 : q < 52 + 4 * j) : z_bec v v2 j q = v2 q := by unfold z_bec; rw [if_neg (by omega), if_neg (by omega), if_pos ⟨h, h2⟩]
theorem v_rel_bec {pn : Nat} {hdt hd vt v : q_V} : v_rel pn (z_hdn hdt hd pn) hd (z_bec vt v pn) v :=
  ⟨fun i hi => if_pos hi, fun q hq => z_bec_lt hq, fun i hi => ⟨z_bec_p (by omega) (by omega), z_bec_p (by omega) (by omega), z_bec_p (by omega) (by omega), z_bec_p (by omega) (by omega)⟩⟩
theorem X_D_bec {pn : Nat} {vt v : q_V} : X_D v (z_bec vt v pn) v :=
  ⟨by rw [z_bec_0' (by decide) (by decide), Int32.zero_add], fun j hj => by rw [z_bec_0' (by omega) (by omega), Int32.zero_add]⟩
theorem k_inv_0 {B : Nat} {w : q_V} (hB : 100 ≤ B) (h4 : w 4 = 0) (h5 : w 5 = 0) : k_inv B (w, 0, (-1)) := by
  have e4 : k_T w = 0 := by unfold k_T; rw [h4]; rfl
  have e5 : k_N w = 0 := by unfold k_N; rw [h5]; rfl
  refine ⟨Nat.zero_le _, ⟨?_, ?_⟩, ?_, ?_⟩
  · show w 4 = nI (k_T w)
    rw [e4, h4]; rfl
  · show k_T w + 100 ≤ B + 0
    omega
  · show w 5 = nI (k_N w)
    rw [e5, h5]; rfl
  · show k_N w + 100 ≤ B + 0
    omega
theorem k_inv_100 {B : Nat} {w : q_V} (h : k_inv B (w, 0, (-1))) : 100 ≤ B := by
  have := h.2.1.2
  have : k_T w + 100 ≤ B + 0 := this
  omega
theorem k_inv_bec {B pn : Nat} {vt v : q_V} (h : k_inv B (v, 0, (-1))) : k_inv B (z_bec vt v pn, 0, (-1)) := k_inv_0 (k_inv_100 h) (z_bec_0' (by decide) (by decide)) (z_bec_0' (by decide) (by decide))
/-- what is done in the trial kitchen is what would be done in the other -/
theorem t_rel {pn BB : Nat} {S : q_S} {hdt hd v w w' : q_V} (hS : s_blk pn S) (hB : BB ≤ 2 ^ 29) (hr : v_rel pn hdt hd w' w) (hx : X_D v w' w) (i' : k_inv BB (w', 0, (-1))) (i : k_inv BB (w, 0, (-1))) : s_rel (X_D v) pn hdt hd (S hdt (w', 0, (-1))) (S hd (w, 0, (-1))) := hS.2.2.2.2 (X_D v) X_D_ok BB hdt hd (w', 0, (-1)) (w, 0, (-1)) hB i' i ⟨hr, hx, rfl⟩
theorem t_base {pn BB : Nat} {S : q_S} {hdt hd vt v : q_V} (hS : s_blk pn S) (hB : BB ≤ 2 ^ 29) (i : k_inv BB (v, 0, (-1))) : s_rel (X_D v) pn (z_hdn hdt hd pn) hd (S (z_hdn hdt hd pn) (z_bec vt v pn, 0, (-1))) (S hd (v, 0, (-1))) := t_rel hS hB v_rel_bec X_D_bec (k_inv_bec i) i
theorem i_cs {a b c : Int32} (h : a + c = b) : a = b - c := by rw [← h, Int32.add_sub_cancel]
theorem i_c0 {a b c : Int32} (h : a + c = b) : a = 0 ↔ b = c := by
  constructor
  · intro e
    rw [← h, e, Int32.zero_add]
  · intro e
    rw [i_cs h, e, Int32.sub_self]
theorem v_rel_move {pn : Nat} {hd hd' v v' : q_V} {to : Int32} (h : v_rel pn hd hd' v v') : v_rel pn hd hd' (z_move v to pn) (z_move v' to pn) := by
  obtain ⟨h1, h2, h3⟩ := h
  refine ⟨h1, fun q hq => ?_, fun i hi => ?_⟩
  · by_cases e : q = 0
    · subst e
      unfold z_move
      rw [if_pos rfl, if_pos rfl]
    · rw [z_move_n (i := 0) e (by omega), z_move_n (i := 0) e (by omega)]
      exact h2 q hq
  · obtain ⟨a0, a1, a2, a3⟩ := h3 i hi
    refine ⟨?_, ?_, ?_, ?_⟩
    · rw [z_move_n (i := 0) (by omega) (by omega), z_move_n (i := 0) (by omega) (by omega)]; exact a0
    · rw [z_move_n (i := 0) (by omega) (by omega), z_move_n (i := 0) (by omega) (by omega)]; exact a1
    · unfold z_move
      rw [show 54 + 4 * i - 2 = 52 + 4 * i by omega, a0, a2, if_neg (show ¬ 54 + 4 * i = 0 by omega)]
    · rw [z_move_n (i := 0) (by omega) (by omega), z_move_n (i := 0) (by omega) (by omega)]; exact a3
theorem X_D_move {c v v' : q_V} {pn : Nat} {to : Int32} (h : X_D c v v') : X_D c (z_move v to pn) (z_move v' to pn) := by
  refine ⟨?_, fun j hj => ?_⟩
  · rw [z_move_n (i := 0) (by omega) (by omega), z_move_n (i := 0) (by omega) (by omega)]; exact h.1
  · rw [z_move_n (i := 0) (by omega) (by omega), z_move_n (i := 0) (by omega) (by omega)]; exact h.2 j hj
theorem k_inv_mv {BB : Nat} {v : q_V} {to : Int32} {j : Nat} (h : k_inv BB (v, 0, (-1))) : k_inv BB (z_move v to j, 0, (-1)) := k_inv_same (s' := (z_move v to j, 0, (-1))) h (z_move_lo (v := v) (to := to) (j := j) (q := 4) (by decide) (by decide)) (z_move_lo (v := v) (to := to) (j := j) (q := 5) (by decide) (by decide)) rfl
theorem v_rel_u1 {pn : Nat} {hd hd' v v' : q_V} {x : Int32} (h : v_rel pn hd hd' v v') : v_rel pn hd hd' (upd v 1 x) (upd v' 1 x) := by
  obtain ⟨h1, h2, h3⟩ := h
  refine ⟨h1, fun q hq => ?_, fun i hi => ?_⟩
  · by_cases e : q = 1
    · subst e
      rw [z_us, z_us]
    · rw [z_un e, z_un e]
      exact h2 q hq
  · rw [z_un (by omega), z_un (by omega), z_un (by omega), z_un (by omega), z_un (by omega), z_un (by omega), z_un (by omega), z_un (by omega)]
    exact h3 i hi
theorem X_D_u1 {c v v' : q_V} {x : Int32} (h : X_D c v v') : X_D c (upd v 1 x) (upd v' 1 x) := by
  refine ⟨?_, fun j hj => ?_⟩
  · rw [z_un (by omega), z_un (by omega)]; exact h.1
  · rw [z_un (by omega), z_un (by omega)]; exact h.2 j hj
/-- at the altitude h no warning: the same in both -/
theorem t_high {pn BB h : Nat} {S : q_S} {hdt hd vt v : q_V} (hS : s_blk pn S) (hB : BB ≤ 2 ^ 29) (i : k_inv BB (v, 0, (-1))) : (S (z_hdn hdt hd pn) (z_move (z_bec vt v pn) (nI h) pn, 0, (-1))).1 4 = 0 ↔ (S hd (z_move v (nI h) pn, 0, (-1))).1 4 = v 4 :=
  i_c0 (t_rel hS hB (v_rel_move v_rel_bec) (X_D_move X_D_bec) (k_inv_mv (k_inv_bec i)) (k_inv_mv i)).2.1.1
theorem t_most {pn BB h : Nat} {S : q_S} {hdt hd vt v : q_V} (hS : s_blk pn S) (hB : BB ≤ 2 ^ 29) (i : k_inv BB (v, 0, (-1))) : (S (z_hdn hdt hd pn) (upd (z_bec vt v pn) 1 (nI h), 0, (-1))).1 7 = 0 ↔ (S hd (upd v 1 (nI h), 0, (-1))).1 7 = v 7 :=
  i_c0 ((t_rel hS hB (v_rel_u1 v_rel_bec) (X_D_u1 X_D_bec) (k_inv_up1 (k_inv_bec i)) (k_inv_up1 i)).2.1.2 1 (by decide))

set_option maxHeartbeats 4000000 in
set_option maxRecDepth 100000 in
theorem kX12_cook (l : Launch) (E : q_E) (f : q_H) (n : Nat) (x tp pr k ck tr tk : Nat) (ep : Int32) (bk : Nat) (hd v : Nat → Int32) (pn rc : Nat) (ac : Int32) (w : Int32) (b0 : Int32) (g : Nat → Option Nat) (BB lo hi i : Nat) (RS : Nat → q_S) (hX : f x = some (rX12 (some tp) (some pr) (some k) (some ck) (some tr) (some tk) ep)) (hB : f bk = some (cBook bk (nI pn) (nI rc) ac)) (hc : f ck = some (cCook k b0 w)) (hG : f (bk + 4) = some (aQ E 3 6 g)) (hk : KIT E f k bk hd v) (hbo : kOut k bk) (hxo : kOut k x) (hpn : pn ≤ 8) (hrc : rc ≤ 6) (hck : kOut k ck) (hbo4 : kOut k (bk + 4)) (hbc : bk ≠ ck) (hb4c : bk + 4 ≠ ck) (hreg : ∀ q, lo ≤ q → q < hi → kOut k q ∧ q ≠ ck) (hB29 : BB ≤ 2 ^ 29) (hinv : k_inv BB (v, 0, (-1))) (hi9 : i < rc) (hRS : rRS E pn lo hi f RS g rc) : Met l yX12_cook wsX12_cook ({ frames := 230 + 0, cells := 0, slots := 0, locals := 9000 + 0 }) (q_P E [.ref x, .int (nI i)] f n) (q_Qi E (fun r f1 n1 => (RS i hd (v, 0, (-1))).1 3 - v 3 = r ∧ kO E (va_up f ck (some (cCook k (nI (RS i hd (v, 0, (-1))).2.1) ((RS i hd (v, 0, (-1))).2.2)))) k bk hd ((RS i hd (v, 0, (-1))).1) = f1 ∧ n = n1)) 0 0 (q_ge E) := by
  refine Met.ofW (cc := cX12_cook) (maxL := 2) (ret := (some .int)) (by decide) rfl ?_
  intro p e s m args below meth c s₁ B hml hv
  obtain ⟨rfl, hA, hW⟩ := hv
  have hx := B.exec
  have hb := B.bytes
  have hr := B.returns
  have hts := atoms_spec (ws := wsX12_cook) B.pre
  have hown : s.vm.findClass RX12 = some m.cls := findClass_of_methodNamed B.named
  have hlocks := B.notSynchronized
  have hS : va_S (q_ge E) s.heap s.heap [] := va_S.rf
  have iX12 : ∀ w ∈ wsX120, w ∈ wsX12_cook := by decide +kernel
  have hl := lv_entry ([.ref x, .int (nI i)]) (n := 2) (Nat.le_of_ble_eq_true rfl)
  rw [lg_entry_eq]
  generalize (lg_sl ([.ref x, .int (nI i)]) ++ List.replicate (2 - (lg_sl ([.ref x, .int (nI i)])).length) Slot.unset).toArray = ls at hl ⊢
  have hl : lv_has ls 2 [(0, .ref x), (1, .int (nI i))] := hl
  rw [hk.eq] at hW
  refine lv_aload_n hx hb dX12_cook_0 rfl (lv_at hl 0 rfl) ?_
  refine lv_iload_n hx hb dX12_cook_1 rfl (lv_at hl 1 rfl) ?_
  refine q_cv (va_runV (As := [.int (nI i)]) (rest := []) ⟨hx, hb, hml, hown, hts⟩ (kX12_requireRecipe l E (kO E f k bk hd v) n x tp pr k ck tr tk ep bk hd v pn rc ac i ((kO_out hxo).trans hX) ((kO_out hbo).trans hB) kO_K (by assumption) (by assumption) (by assumption) (by assumption) hi9) (cwV 1 hts gX12_cook_X12_requireRecipe rfl rfl rfl (by decide +kernel) ⟨(by show 1 + 1 ≤ 230 + 0; omega), (by show 8 + (2 + 11) + 21 ≤ 9000 + 0; omega)⟩) (q_pV hA hW hS (ci := 12) rfl ((kO_out hxo).trans hX)) rfl rfl hl.1 rfl (lv_room (Nat.le_of_ble_eq_true rfl)) dX12_cook_2 ⟨Nat.le_of_ble_eq_true rfl, Nat.le_of_ble_eq_true rfl⟩) hS (fun f_2 n_2 H locs hp hW hS => ?_)
  obtain ⟨rfl, rfl⟩ := hp
  have hW : q_W E (kO E f k bk hd v) n H := hW
  refine lv_aload_n hx hb dX12_cook_5 rfl (lv_at hl 0 rfl) ?_
  refine q_get hx hb hts hown hA hW iX12 ((kO_out hxo).trans hX) rfl 3 (by decide) (hts (.fieldLink RX12 35 "HighRecipes" "cooking" "LHighRecipes$Cooking;") (by decide +kernel)) (fun _ h9 => h9) (v := .ref ck) rfl dX12_cook_6 ?_
  refine lv_iload_n hx hb dX12_cook_9 rfl (lv_at hl 1 rfl) ?_
  refine q_ci (va_runV (As := [.int (nI i)]) (rest := []) ⟨hx, hb, hml, hown, hts⟩ (kX3_run l E (kO E f k bk hd v) n ck k bk hd v w pn (nI rc) ac b0 g BB lo hi i RS ((kO_out hck).trans hc) ((kO_out hbo).trans hB) ((kO_out hbo4).trans hG) kO_K (by assumption) (by assumption) (by assumption) (by assumption) (by assumption) (by assumption) (by assumption) (by assumption) (by assumption) (by omega) (fun r9 h9 => rep_RS (fun q h1 h2 => kO_out (hreg q h1 h2).1) hRS r9 (by omega))) (cwV 1 hts gX12_cook_X3_run rfl rfl rfl (by decide +kernel) ⟨(by show (5 * (6 + 6 * i) + 25) + 1 ≤ 230 + 0; omega), (by show 8 + (3 + 11) + (200 * (6 + 6 * i) + 1200) ≤ 9000 + 0; omega)⟩) (q_pV hA hW hS (ci := 4) rfl ((kO_out hck).trans hc)) rfl rfl hl.1 rfl (lv_room (Nat.le_of_ble_eq_true rfl)) dX12_cook_10 ⟨Nat.le_of_ble_eq_true rfl, Nat.le_of_ble_eq_true rfl⟩) hS (fun r_10 f_10 n_10 H locs hp hW hS => ?_)
  obtain ⟨rfl, rfl, rfl⟩ := hp
  have hW : q_W E (kO E (va_up (kO E f k bk hd v) ck (some (cCook k (nI (RS i hd (v, 0, (-1))).2.1) ((RS i hd (v, 0, (-1))).2.2)))) k bk hd ((RS i hd (v, 0, (-1))).1)) n H := hW
  rw [kO_iu hck] at hW
  rw [kO_kO] at hW
  have hW : q_W E (kO E (va_up f ck (some (cCook k (nI (RS i hd (v, 0, (-1))).2.1) ((RS i hd (v, 0, (-1))).2.2)))) k bk hd ((RS i hd (v, 0, (-1))).1)) n H := hW
  exact q_iret hx hb hr hlocks hW hS ⟨rfl, rfl, rfl⟩ (Nat.le_of_ble_eq_true rfl) (Nat.le_of_ble_eq_true rfl) dX12_cook_13

set_option maxHeartbeats 4000000 in
set_option maxRecDepth 100000 in
theorem kX12_minutesOfRecipe (l : Launch) (E : q_E) (f : q_H) (n : Nat) (x tp pr k ck tr tk : Nat) (ep : Int32) (bk : Nat) (hd v : Nat → Int32) (pn rc : Nat) (ac : Int32) (bt : Nat) (hdt vt : Nat → Int32) (w : Int32) (b0 : Int32) (g : Nat → Option Nat) (BB lo hi i : Nat) (RS : Nat → q_S) (hX : f x = some (rX12 (some tp) (some pr) (some k) (some ck) (some tr) (some tk) ep)) (hB : f bk = some (cBook bk (nI pn) (nI rc) ac)) (hc : f tk = some (cCook tr b0 w)) (hG : f (bk + 4) = some (aQ E 3 6 g)) (hk : KIT E f k bk hd v) (hkt : KIT E f tr bt hdt vt) (hbo : kOut k bk) (hxo : kOut k x) (hpn : pn ≤ 8) (hrc : rc ≤ 6) (hdis : tr + 20 ≤ k ∨ k + 20 ≤ tr) (hbt : kOut tr bk) (hbt4 : kOut tr (bk + 4)) (hxt : kOut tr x) (htk : kOut tr tk) (hbc : bk ≠ tk) (hb4c : bk + 4 ≠ tk) (hxk : x ≠ tk) (hreg : ∀ q, lo ≤ q → q < hi → kOut tr q ∧ q ≠ tk) (hB29 : BB ≤ 2 ^ 29) (hinv : k_inv BB (v, 0, (-1))) (hi9 : i < rc) (hRS : rRS E pn lo hi f RS g rc) (hsb : s_blk pn (RS i)) (hktk : kOut k tk) : Met l yX12_minutesOfRecipe wsX12_minutesOfRecipe ({ frames := 240 + 0, cells := 0, slots := 0, locals := 9000 + 0 }) (q_P E [.ref x, .int (nI i)] f n) (q_Qi E (fun r f1 n1 => (RS i hd (v, 0, (-1))).1 3 - v 3 = r ∧ kO E (va_up f tk (some (cCook tr (nI (RS i (z_hdn hdt hd pn) (z_bec vt v pn, 0, (-1))).2.1) (RS i (z_hdn hdt hd pn) (z_bec vt v pn, 0, (-1))).2.2))) tr bk (z_hdn hdt hd pn) (RS i (z_hdn hdt hd pn) (z_bec vt v pn, 0, (-1))).1 = f1 ∧ n = n1)) 0 0 (q_ge E) := by
  refine Met.ofW (cc := cX12_minutesOfRecipe) (maxL := 2) (ret := (some .int)) (by decide) rfl ?_
  intro p e s m args below meth c s₁ B hml hv
  obtain ⟨rfl, hA, hW⟩ := hv
  have hx := B.exec
  have hb := B.bytes
  have hr := B.returns
  have hts := atoms_spec (ws := wsX12_minutesOfRecipe) B.pre
  have hown : s.vm.findClass RX12 = some m.cls := findClass_of_methodNamed B.named
  have hlocks := B.notSynchronized
  have hS : va_S (q_ge E) s.heap s.heap [] := va_S.rf
  have iX12 : ∀ w ∈ wsX120, w ∈ wsX12_minutesOfRecipe := by decide +kernel
  have hl := lv_entry ([.ref x, .int (nI i)]) (n := 2) (Nat.le_of_ble_eq_true rfl)
  rw [lg_entry_eq]
  generalize (lg_sl ([.ref x, .int (nI i)]) ++ List.replicate (2 - (lg_sl ([.ref x, .int (nI i)])).length) Slot.unset).toArray = ls at hl ⊢
  have hl : lv_has ls 2 [(0, .ref x), (1, .int (nI i))] := hl
  rw [hkt.eq] at hW
  refine lv_aload_n hx hb dX12_minutesOfRecipe_0 rfl (lv_at hl 0 rfl) ?_
  refine lv_iload_n hx hb dX12_minutesOfRecipe_1 rfl (lv_at hl 1 rfl) ?_
  refine q_cv (va_runV (As := [.int (nI i)]) (rest := []) ⟨hx, hb, hml, hown, hts⟩ (kX12_requireRecipe l E (kO E f tr bt hdt vt) n x tp pr k ck tr tk ep bk hd v pn rc ac i ((kO_out hxt).trans hX) ((kO_out hbt).trans hB) (hk.other (fun q hq => kO_out (by unfold kOut at *; omega))) hbo hxo (by assumption) (by assumption) hi9) (cwV 1 hts gX12_minutesOfRecipe_X12_requireRecipe rfl rfl rfl (by decide +kernel) ⟨(by show 1 + 1 ≤ 240 + 0; omega), (by show 8 + (2 + 11) + 21 ≤ 9000 + 0; omega)⟩) (q_pV hA hW hS (ci := 12) rfl ((kO_out hxt).trans hX)) rfl rfl hl.1 rfl (lv_room (Nat.le_of_ble_eq_true rfl)) dX12_minutesOfRecipe_2 ⟨Nat.le_of_ble_eq_true rfl, Nat.le_of_ble_eq_true rfl⟩) hS (fun f_2 n_2 H locs hp hW hS => ?_)
  obtain ⟨rfl, rfl⟩ := hp
  have hW : q_W E (kO E f tr bt hdt vt) n H := hW
  refine lv_aload_n hx hb dX12_minutesOfRecipe_5 rfl (lv_at hl 0 rfl) ?_
  refine q_get hx hb hts hown hA hW iX12 ((kO_out hxt).trans hX) rfl 4 (by decide) (hts (.fieldLink RX12 39 "HighRecipes" "trial" "LHighRecipes$Kitchen;") (by decide +kernel)) (fun _ h9 => h9) (v := .ref tr) rfl dX12_minutesOfRecipe_6 ?_
  refine lv_aload_n hx hb dX12_minutesOfRecipe_9 rfl (lv_at hl 0 rfl) ?_
  refine q_get hx hb hts hown hA hW iX12 ((kO_out hxt).trans hX) rfl 2 (by decide) (hts (.fieldLink RX12 26 "HighRecipes" "kitchen" "LHighRecipes$Kitchen;") (by decide +kernel)) (fun _ h9 => h9) (v := .ref k) rfl dX12_minutesOfRecipe_10 ?_
  refine q_cv (va_runV (As := [.ref k]) (rest := []) ⟨hx, hb, hml, hown, hts⟩ (kX6_become l E (kO E f tr bt hdt vt) n tr bt hdt vt k bk hd v pn (nI rc) ac ((kO_out hbt).trans hB) kO_K (hk.other (fun q hq => kO_out (by unfold kOut at *; omega))) hbt hbo hdis (by assumption)) (cwV 1 hts gX12_minutesOfRecipe_X6_become rfl rfl rfl (by decide +kernel) ⟨(by show 2 + 1 ≤ 240 + 0; omega), (by show 8 + (5 + 11) + 41 ≤ 9000 + 0; omega)⟩) (q_pV hA hW hS (ci := 6) rfl kO_0) rfl rfl hl.1 rfl (lv_room (Nat.le_of_ble_eq_true rfl)) dX12_minutesOfRecipe_13 ⟨Nat.le_of_ble_eq_true rfl, Nat.le_of_ble_eq_true rfl⟩) hS (fun f_13 n_13 H locs hp hW hS => ?_)
  obtain ⟨rfl, rfl⟩ := hp
  rw [kO_kO] at hW
  have hW : q_W E (kO E f tr bk (z_hdn hdt hd pn) (z_bec vt v pn)) n H := hW
  refine lv_aload_n hx hb dX12_minutesOfRecipe_16 rfl (lv_at hl 0 rfl) ?_
  refine q_get hx hb hts hown hA hW iX12 ((kO_out hxt).trans hX) rfl 5 (by decide) (hts (.fieldLink RX12 42 "HighRecipes" "trying" "LHighRecipes$Cooking;") (by decide +kernel)) (fun _ h9 => h9) (v := .ref tk) rfl dX12_minutesOfRecipe_17 ?_
  refine lv_iload_n hx hb dX12_minutesOfRecipe_20 rfl (lv_at hl 1 rfl) ?_
  refine q_ci (va_runV (As := [.int (nI i)]) (rest := []) ⟨hx, hb, hml, hown, hts⟩ (kX3_run l E (kO E f tr bk (z_hdn hdt hd pn) (z_bec vt v pn)) n tk tr bk (z_hdn hdt hd pn) (z_bec vt v pn) w pn (nI rc) ac b0 g BB lo hi i RS ((kO_out htk).trans hc) ((kO_out hbt).trans hB) ((kO_out hbt4).trans hG) kO_K hbt (by assumption) htk hbt4 (by assumption) (by assumption) (by assumption) (by assumption) (k_inv_bec hinv) (by omega) (fun r9 h9 => rep_RS (fun q h1 h2 => (kO_out (hreg q h1 h2).1).trans rfl) hRS r9 (by omega))) (cwV 1 hts gX12_minutesOfRecipe_X3_run rfl rfl rfl (by decide +kernel) ⟨(by show (5 * (6 + 6 * i) + 25) + 1 ≤ 240 + 0; omega), (by show 8 + (3 + 11) + (200 * (6 + 6 * i) + 1200) ≤ 9000 + 0; omega)⟩) (q_pV hA hW hS (ci := 4) rfl ((kO_out htk).trans hc)) rfl rfl hl.1 rfl (lv_room (Nat.le_of_ble_eq_true rfl)) dX12_minutesOfRecipe_21 ⟨Nat.le_of_ble_eq_true rfl, Nat.le_of_ble_eq_true rfl⟩) hS (fun r_21 f_21 n_21 H locs hp hW hS => ?_)
  obtain ⟨rfl, rfl, rfl⟩ := hp
  have hW : q_W E (kO E (va_up (kO E f tr bk (z_hdn hdt hd pn) (z_bec vt v pn)) tk (some (cCook tr (nI (RS i (z_hdn hdt hd pn) ((z_bec vt v pn), 0, (-1))).2.1) ((RS i (z_hdn hdt hd pn) ((z_bec vt v pn), 0, (-1))).2.2)))) tr bk (z_hdn hdt hd pn) ((RS i (z_hdn hdt hd pn) ((z_bec vt v pn), 0, (-1))).1)) n H := hW
  rw [kO_iu htk] at hW
  rw [kO_kO] at hW
  have hW : q_W E (kO E (va_up f tk (some (cCook tr (nI (RS i (z_hdn hdt hd pn) ((z_bec vt v pn), 0, (-1))).2.1) ((RS i (z_hdn hdt hd pn) ((z_bec vt v pn), 0, (-1))).2.2)))) tr bk (z_hdn hdt hd pn) ((RS i (z_hdn hdt hd pn) ((z_bec vt v pn), 0, (-1))).1)) n H := hW
  exact q_iret hx hb hr hlocks hW hS ⟨(by rw [(t_base (hdt := hdt) (vt := vt) hsb hB29 hinv).1.2.1 3 (by decide), z_bec_lt (q := 3) (by decide)]), rfl, rfl⟩ (Nat.le_of_ble_eq_true rfl) (Nat.le_of_ble_eq_true rfl) dX12_minutesOfRecipe_24

set_option maxHeartbeats 4000000 in
set_option maxRecDepth 100000 in
theorem kX12_warningsOfRecipe (l : Launch) (E : q_E) (f : q_H) (n : Nat) (x tp pr k ck tr tk : Nat) (ep : Int32) (bk : Nat) (hd v : Nat → Int32) (pn rc : Nat) (ac : Int32) (bt : Nat) (hdt vt : Nat → Int32) (w : Int32) (b0 : Int32) (g : Nat → Option Nat) (BB lo hi i : Nat) (RS : Nat → q_S) (hX : f x = some (rX12 (some tp) (some pr) (some k) (some ck) (some tr) (some tk) ep)) (hB : f bk = some (cBook bk (nI pn) (nI rc) ac)) (hc : f tk = some (cCook tr b0 w)) (hG : f (bk + 4) = some (aQ E 3 6 g)) (hk : KIT E f k bk hd v) (hkt : KIT E f tr bt hdt vt) (hbo : kOut k bk) (hxo : kOut k x) (hpn : pn ≤ 8) (hrc : rc ≤ 6) (hdis : tr + 20 ≤ k ∨ k + 20 ≤ tr) (hbt : kOut tr bk) (hbt4 : kOut tr (bk + 4)) (hxt : kOut tr x) (htk : kOut tr tk) (hbc : bk ≠ tk) (hb4c : bk + 4 ≠ tk) (hxk : x ≠ tk) (hreg : ∀ q, lo ≤ q → q < hi → kOut tr q ∧ q ≠ tk) (hB29 : BB ≤ 2 ^ 29) (hinv : k_inv BB (v, 0, (-1))) (hi9 : i < rc) (hRS : rRS E pn lo hi f RS g rc) (hsb : s_blk pn (RS i)) (hktk : kOut k tk) : Met l yX12_warningsOfRecipe wsX12_warningsOfRecipe ({ frames := 240 + 0, cells := 0, slots := 0, locals := 9000 + 0 }) (q_P E [.ref x, .int (nI i)] f n) (q_Qi E (fun r f1 n1 => (RS i hd (v, 0, (-1))).1 4 - v 4 = r ∧ kO E (va_up f tk (some (cCook tr (nI (RS i (z_hdn hdt hd pn) (z_bec vt v pn, 0, (-1))).2.1) (RS i (z_hdn hdt hd pn) (z_bec vt v pn, 0, (-1))).2.2))) tr bk (z_hdn hdt hd pn) (RS i (z_hdn hdt hd pn) (z_bec vt v pn, 0, (-1))).1 = f1 ∧ n = n1)) 0 0 (q_ge E) := by
  refine Met.ofW (cc := cX12_warningsOfRecipe) (maxL := 2) (ret := (some .int)) (by decide) rfl ?_
  intro p e s m args below meth c s₁ B hml hv
  obtain ⟨rfl, hA, hW⟩ := hv
  have hx := B.exec
  have hb := B.bytes
  have hr := B.returns
  have hts := atoms_spec (ws := wsX12_warningsOfRecipe) B.pre
  have hown : s.vm.findClass RX12 = some m.cls := findClass_of_methodNamed B.named
  have hlocks := B.notSynchronized
  have hS : va_S (q_ge E) s.heap s.heap [] := va_S.rf
  have iX12 : ∀ w ∈ wsX120, w ∈ wsX12_warningsOfRecipe := by decide +kernel
  have iX4 : ∀ w ∈ wsX40, w ∈ wsX12_warningsOfRecipe := by decide +kernel
  have iX6 : ∀ w ∈ wsX60, w ∈ wsX12_warningsOfRecipe := by decide +kernel
  have hl := lv_entry ([.ref x, .int (nI i)]) (n := 2) (Nat.le_of_ble_eq_true rfl)
  rw [lg_entry_eq]
  generalize (lg_sl ([.ref x, .int (nI i)]) ++ List.replicate (2 - (lg_sl ([.ref x, .int (nI i)])).length) Slot.unset).toArray = ls at hl ⊢
  have hl : lv_has ls 2 [(0, .ref x), (1, .int (nI i))] := hl
  rw [hkt.eq] at hW
  refine lv_aload_n hx hb dX12_warningsOfRecipe_0 rfl (lv_at hl 0 rfl) ?_
  refine lv_iload_n hx hb dX12_warningsOfRecipe_1 rfl (lv_at hl 1 rfl) ?_
  refine q_cv (va_runV (As := [.int (nI i)]) (rest := []) ⟨hx, hb, hml, hown, hts⟩ (kX12_requireRecipe l E (kO E f tr bt hdt vt) n x tp pr k ck tr tk ep bk hd v pn rc ac i ((kO_out hxt).trans hX) ((kO_out hbt).trans hB) (hk.other (fun q hq => kO_out (by unfold kOut at *; omega))) hbo hxo (by assumption) (by assumption) hi9) (cwV 1 hts gX12_warningsOfRecipe_X12_requireRecipe rfl rfl rfl (by decide +kernel) ⟨(by show 1 + 1 ≤ 240 + 0; omega), (by show 8 + (2 + 11) + 21 ≤ 9000 + 0; omega)⟩) (q_pV hA hW hS (ci := 12) rfl ((kO_out hxt).trans hX)) rfl rfl hl.1 rfl (lv_room (Nat.le_of_ble_eq_true rfl)) dX12_warningsOfRecipe_2 ⟨Nat.le_of_ble_eq_true rfl, Nat.le_of_ble_eq_true rfl⟩) hS (fun f_2 n_2 H locs hp hW hS => ?_)
  obtain ⟨rfl, rfl⟩ := hp
  have hW : q_W E (kO E f tr bt hdt vt) n H := hW
  refine lv_aload_n hx hb dX12_warningsOfRecipe_5 rfl (lv_at hl 0 rfl) ?_
  refine q_get hx hb hts hown hA hW iX12 ((kO_out hxt).trans hX) rfl 4 (by decide) (hts (.fieldLink RX12 39 "HighRecipes" "trial" "LHighRecipes$Kitchen;") (by decide +kernel)) (fun _ h9 => h9) (v := .ref tr) rfl dX12_warningsOfRecipe_6 ?_
  refine lv_aload_n hx hb dX12_warningsOfRecipe_9 rfl (lv_at hl 0 rfl) ?_
  refine q_get hx hb hts hown hA hW iX12 ((kO_out hxt).trans hX) rfl 2 (by decide) (hts (.fieldLink RX12 26 "HighRecipes" "kitchen" "LHighRecipes$Kitchen;") (by decide +kernel)) (fun _ h9 => h9) (v := .ref k) rfl dX12_warningsOfRecipe_10 ?_
  refine q_cv (va_runV (As := [.ref k]) (rest := []) ⟨hx, hb, hml, hown, hts⟩ (kX6_become l E (kO E f tr bt hdt vt) n tr bt hdt vt k bk hd v pn (nI rc) ac ((kO_out hbt).trans hB) kO_K (hk.other (fun q hq => kO_out (by unfold kOut at *; omega))) hbt hbo hdis (by assumption)) (cwV 1 hts gX12_warningsOfRecipe_X6_become rfl rfl rfl (by decide +kernel) ⟨(by show 2 + 1 ≤ 240 + 0; omega), (by show 8 + (5 + 11) + 41 ≤ 9000 + 0; omega)⟩) (q_pV hA hW hS (ci := 6) rfl kO_0) rfl rfl hl.1 rfl (lv_room (Nat.le_of_ble_eq_true rfl)) dX12_warningsOfRecipe_13 ⟨Nat.le_of_ble_eq_true rfl, Nat.le_of_ble_eq_true rfl⟩) hS (fun f_13 n_13 H locs hp hW hS => ?_)
  obtain ⟨rfl, rfl⟩ := hp
  rw [kO_kO] at hW
  have hW : q_W E (kO E f tr bk (z_hdn hdt hd pn) (z_bec vt v pn)) n H := hW
  refine lv_aload_n hx hb dX12_warningsOfRecipe_16 rfl (lv_at hl 0 rfl) ?_
  refine q_get hx hb hts hown hA hW iX12 ((kO_out hxt).trans hX) rfl 5 (by decide) (hts (.fieldLink RX12 42 "HighRecipes" "trying" "LHighRecipes$Cooking;") (by decide +kernel)) (fun _ h9 => h9) (v := .ref tk) rfl dX12_warningsOfRecipe_17 ?_
  refine lv_iload_n hx hb dX12_warningsOfRecipe_20 rfl (lv_at hl 1 rfl) ?_
  refine q_ci (va_runV (As := [.int (nI i)]) (rest := []) ⟨hx, hb, hml, hown, hts⟩ (kX3_run l E (kO E f tr bk (z_hdn hdt hd pn) (z_bec vt v pn)) n tk tr bk (z_hdn hdt hd pn) (z_bec vt v pn) w pn (nI rc) ac b0 g BB lo hi i RS ((kO_out htk).trans hc) ((kO_out hbt).trans hB) ((kO_out hbt4).trans hG) kO_K hbt (by assumption) htk hbt4 (by assumption) (by assumption) (by assumption) (by assumption) (k_inv_bec hinv) (by omega) (fun r9 h9 => rep_RS (fun q h1 h2 => (kO_out (hreg q h1 h2).1).trans rfl) hRS r9 (by omega))) (cwV 1 hts gX12_warningsOfRecipe_X3_run rfl rfl rfl (by decide +kernel) ⟨(by show (5 * (6 + 6 * i) + 25) + 1 ≤ 240 + 0; omega), (by show 8 + (3 + 11) + (200 * (6 + 6 * i) + 1200) ≤ 9000 + 0; omega)⟩) (q_pV hA hW hS (ci := 4) rfl ((kO_out htk).trans hc)) rfl rfl hl.1 rfl (lv_room (Nat.le_of_ble_eq_true rfl)) dX12_warningsOfRecipe_21 ⟨Nat.le_of_ble_eq_true rfl, Nat.le_of_ble_eq_true rfl⟩) hS (fun r_21 f_21 n_21 H locs hp hW hS => ?_)
  obtain ⟨rfl, rfl, rfl⟩ := hp
  have hW : q_W E (kO E (va_up (kO E f tr bk (z_hdn hdt hd pn) (z_bec vt v pn)) tk (some (cCook tr (nI (RS i (z_hdn hdt hd pn) ((z_bec vt v pn), 0, (-1))).2.1) ((RS i (z_hdn hdt hd pn) ((z_bec vt v pn), 0, (-1))).2.2)))) tr bk (z_hdn hdt hd pn) ((RS i (z_hdn hdt hd pn) ((z_bec vt v pn), 0, (-1))).1)) n H := hW
  rw [kO_iu htk] at hW
  rw [kO_kO] at hW
  have hW : q_W E (kO E (va_up f tk (some (cCook tr (nI (RS i (z_hdn hdt hd pn) ((z_bec vt v pn), 0, (-1))).2.1) ((RS i (z_hdn hdt hd pn) ((z_bec vt v pn), 0, (-1))).2.2)))) tr bk (z_hdn hdt hd pn) ((RS i (z_hdn hdt hd pn) ((z_bec vt v pn), 0, (-1))).1)) n H := hW
  refine lv_pop hx hb dX12_warningsOfRecipe_24 rfl ?_
  refine lv_aload_n hx hb dX12_warningsOfRecipe_25 rfl (lv_at hl 0 rfl) ?_
  refine q_get hx hb hts hown hA hW iX12 ((kO_out hxt).trans (q_ne (by omega) hX)) rfl 4 (by decide) (hts (.fieldLink RX12 39 "HighRecipes" "trial" "LHighRecipes$Kitchen;") (by decide +kernel)) (fun _ h9 => h9) (v := .ref tr) rfl dX12_warningsOfRecipe_26 ?_
  refine q_getN hx hb hts hown hA hW iX6 kO_0 rfl 1 (by decide) (va_Nw.use rfl (hA.2.2.2.1 ("HighRecipes", 144, "HighRecipes$Kitchen", "warnings", "LHighRecipes$History;", "HighRecipes") (by decide +kernel))) (fun _ h9 => h9) (v := .ref (tr + 2)) rfl dX12_warningsOfRecipe_29 ?_
  refine q_getN hx hb hts hown hA hW iX4 kO_2 rfl 1 (by decide) (va_Nw.use rfl (hA.2.2.2.1 ("HighRecipes", 148, "HighRecipes$History", "total", "I", "HighRecipes") (by decide +kernel))) (fun _ h9 => h9) (v := .int (((RS i (z_hdn hdt hd pn) ((z_bec vt v pn), 0, (-1))).1) 4)) rfl dX12_warningsOfRecipe_32 ?_
  exact q_iret hx hb hr hlocks hW hS ⟨(i_cs (t_base (hdt := hdt) (vt := vt) hsb hB29 hinv).2.1.1).symm, rfl, rfl⟩ (Nat.le_of_ble_eq_true rfl) (Nat.le_of_ble_eq_true rfl) dX12_warningsOfRecipe_35

set_option maxHeartbeats 4000000 in
set_option maxRecDepth 100000 in
theorem kX12_firstWarning (l : Launch) (E : q_E) (f : q_H) (n : Nat) (x tp pr k ck tr tk : Nat) (ep : Int32) (bk : Nat) (hd v : Nat → Int32) (pn rc : Nat) (ac : Int32) (bt : Nat) (hdt vt : Nat → Int32) (w : Int32) (b0 : Int32) (g : Nat → Option Nat) (BB lo hi i : Nat) (RS : Nat → q_S) (hX : f x = some (rX12 (some tp) (some pr) (some k) (some ck) (some tr) (some tk) ep)) (hB : f bk = some (cBook bk (nI pn) (nI rc) ac)) (hc : f tk = some (cCook tr b0 w)) (hG : f (bk + 4) = some (aQ E 3 6 g)) (hk : KIT E f k bk hd v) (hkt : KIT E f tr bt hdt vt) (hbo : kOut k bk) (hxo : kOut k x) (hpn : pn ≤ 8) (hrc : rc ≤ 6) (hdis : tr + 20 ≤ k ∨ k + 20 ≤ tr) (hbt : kOut tr bk) (hbt4 : kOut tr (bk + 4)) (hxt : kOut tr x) (htk : kOut tr tk) (hbc : bk ≠ tk) (hb4c : bk + 4 ≠ tk) (hxk : x ≠ tk) (hreg : ∀ q, lo ≤ q → q < hi → kOut tr q ∧ q ≠ tk) (hB29 : BB ≤ 2 ^ 29) (hinv : k_inv BB (v, 0, (-1))) (hi9 : i < rc) (hRS : rRS E pn lo hi f RS g rc) (hsb : s_blk pn (RS i)) (hktk : kOut k tk) : Met l yX12_firstWarning wsX12_firstWarning ({ frames := 240 + 0, cells := 0, slots := 0, locals := 9000 + 0 }) (q_P E [.ref x, .int (nI i)] f n) (q_Qi E (fun r f1 n1 => (RS i hd (v, 0, (-1))).2.2 = r ∧ kO E (va_up f tk (some (cCook tr (nI (RS i (z_hdn hdt hd pn) (z_bec vt v pn, 0, (-1))).2.1) (RS i (z_hdn hdt hd pn) (z_bec vt v pn, 0, (-1))).2.2))) tr bk (z_hdn hdt hd pn) (RS i (z_hdn hdt hd pn) (z_bec vt v pn, 0, (-1))).1 = f1 ∧ n = n1)) 0 0 (q_ge E) := by
  refine Met.ofW (cc := cX12_firstWarning) (maxL := 2) (ret := (some .int)) (by decide) rfl ?_
  intro p e s m args below meth c s₁ B hml hv
  obtain ⟨rfl, hA, hW⟩ := hv
  have hx := B.exec
  have hb := B.bytes
  have hr := B.returns
  have hts := atoms_spec (ws := wsX12_firstWarning) B.pre
  have hown : s.vm.findClass RX12 = some m.cls := findClass_of_methodNamed B.named
  have hlocks := B.notSynchronized
  have hS : va_S (q_ge E) s.heap s.heap [] := va_S.rf
  have iX12 : ∀ w ∈ wsX120, w ∈ wsX12_firstWarning := by decide +kernel
  have iX3 : ∀ w ∈ wsX30, w ∈ wsX12_firstWarning := by decide +kernel
  have hl := lv_entry ([.ref x, .int (nI i)]) (n := 2) (Nat.le_of_ble_eq_true rfl)
  rw [lg_entry_eq]
  generalize (lg_sl ([.ref x, .int (nI i)]) ++ List.replicate (2 - (lg_sl ([.ref x, .int (nI i)])).length) Slot.unset).toArray = ls at hl ⊢
  have hl : lv_has ls 2 [(0, .ref x), (1, .int (nI i))] := hl
  rw [hkt.eq] at hW
  refine lv_aload_n hx hb dX12_firstWarning_0 rfl (lv_at hl 0 rfl) ?_
  refine lv_iload_n hx hb dX12_firstWarning_1 rfl (lv_at hl 1 rfl) ?_
  refine q_cv (va_runV (As := [.int (nI i)]) (rest := []) ⟨hx, hb, hml, hown, hts⟩ (kX12_requireRecipe l E (kO E f tr bt hdt vt) n x tp pr k ck tr tk ep bk hd v pn rc ac i ((kO_out hxt).trans hX) ((kO_out hbt).trans hB) (hk.other (fun q hq => kO_out (by unfold kOut at *; omega))) hbo hxo (by assumption) (by assumption) hi9) (cwV 1 hts gX12_firstWarning_X12_requireRecipe rfl rfl rfl (by decide +kernel) ⟨(by show 1 + 1 ≤ 240 + 0; omega), (by show 8 + (2 + 11) + 21 ≤ 9000 + 0; omega)⟩) (q_pV hA hW hS (ci := 12) rfl ((kO_out hxt).trans hX)) rfl rfl hl.1 rfl (lv_room (Nat.le_of_ble_eq_true rfl)) dX12_firstWarning_2 ⟨Nat.le_of_ble_eq_true rfl, Nat.le_of_ble_eq_true rfl⟩) hS (fun f_2 n_2 H locs hp hW hS => ?_)
  obtain ⟨rfl, rfl⟩ := hp
  have hW : q_W E (kO E f tr bt hdt vt) n H := hW
  refine lv_aload_n hx hb dX12_firstWarning_5 rfl (lv_at hl 0 rfl) ?_
  refine q_get hx hb hts hown hA hW iX12 ((kO_out hxt).trans hX) rfl 4 (by decide) (hts (.fieldLink RX12 39 "HighRecipes" "trial" "LHighRecipes$Kitchen;") (by decide +kernel)) (fun _ h9 => h9) (v := .ref tr) rfl dX12_firstWarning_6 ?_
  refine lv_aload_n hx hb dX12_firstWarning_9 rfl (lv_at hl 0 rfl) ?_
  refine q_get hx hb hts hown hA hW iX12 ((kO_out hxt).trans hX) rfl 2 (by decide) (hts (.fieldLink RX12 26 "HighRecipes" "kitchen" "LHighRecipes$Kitchen;") (by decide +kernel)) (fun _ h9 => h9) (v := .ref k) rfl dX12_firstWarning_10 ?_
  refine q_cv (va_runV (As := [.ref k]) (rest := []) ⟨hx, hb, hml, hown, hts⟩ (kX6_become l E (kO E f tr bt hdt vt) n tr bt hdt vt k bk hd v pn (nI rc) ac ((kO_out hbt).trans hB) kO_K (hk.other (fun q hq => kO_out (by unfold kOut at *; omega))) hbt hbo hdis (by assumption)) (cwV 1 hts gX12_firstWarning_X6_become rfl rfl rfl (by decide +kernel) ⟨(by show 2 + 1 ≤ 240 + 0; omega), (by show 8 + (5 + 11) + 41 ≤ 9000 + 0; omega)⟩) (q_pV hA hW hS (ci := 6) rfl kO_0) rfl rfl hl.1 rfl (lv_room (Nat.le_of_ble_eq_true rfl)) dX12_firstWarning_13 ⟨Nat.le_of_ble_eq_true rfl, Nat.le_of_ble_eq_true rfl⟩) hS (fun f_13 n_13 H locs hp hW hS => ?_)
  obtain ⟨rfl, rfl⟩ := hp
  rw [kO_kO] at hW
  have hW : q_W E (kO E f tr bk (z_hdn hdt hd pn) (z_bec vt v pn)) n H := hW
  refine lv_aload_n hx hb dX12_firstWarning_16 rfl (lv_at hl 0 rfl) ?_
  refine q_get hx hb hts hown hA hW iX12 ((kO_out hxt).trans hX) rfl 5 (by decide) (hts (.fieldLink RX12 42 "HighRecipes" "trying" "LHighRecipes$Cooking;") (by decide +kernel)) (fun _ h9 => h9) (v := .ref tk) rfl dX12_firstWarning_17 ?_
  refine lv_iload_n hx hb dX12_firstWarning_20 rfl (lv_at hl 1 rfl) ?_
  refine q_ci (va_runV (As := [.int (nI i)]) (rest := []) ⟨hx, hb, hml, hown, hts⟩ (kX3_run l E (kO E f tr bk (z_hdn hdt hd pn) (z_bec vt v pn)) n tk tr bk (z_hdn hdt hd pn) (z_bec vt v pn) w pn (nI rc) ac b0 g BB lo hi i RS ((kO_out htk).trans hc) ((kO_out hbt).trans hB) ((kO_out hbt4).trans hG) kO_K hbt (by assumption) htk hbt4 (by assumption) (by assumption) (by assumption) (by assumption) (k_inv_bec hinv) (by omega) (fun r9 h9 => rep_RS (fun q h1 h2 => (kO_out (hreg q h1 h2).1).trans rfl) hRS r9 (by omega))) (cwV 1 hts gX12_firstWarning_X3_run rfl rfl rfl (by decide +kernel) ⟨(by show (5 * (6 + 6 * i) + 25) + 1 ≤ 240 + 0; omega), (by show 8 + (3 + 11) + (200 * (6 + 6 * i) + 1200) ≤ 9000 + 0; omega)⟩) (q_pV hA hW hS (ci := 4) rfl ((kO_out htk).trans hc)) rfl rfl hl.1 rfl (lv_room (Nat.le_of_ble_eq_true rfl)) dX12_firstWarning_21 ⟨Nat.le_of_ble_eq_true rfl, Nat.le_of_ble_eq_true rfl⟩) hS (fun r_21 f_21 n_21 H locs hp hW hS => ?_)
  obtain ⟨rfl, rfl, rfl⟩ := hp
  have hW : q_W E (kO E (va_up (kO E f tr bk (z_hdn hdt hd pn) (z_bec vt v pn)) tk (some (cCook tr (nI (RS i (z_hdn hdt hd pn) ((z_bec vt v pn), 0, (-1))).2.1) ((RS i (z_hdn hdt hd pn) ((z_bec vt v pn), 0, (-1))).2.2)))) tr bk (z_hdn hdt hd pn) ((RS i (z_hdn hdt hd pn) ((z_bec vt v pn), 0, (-1))).1)) n H := hW
  rw [kO_iu htk] at hW
  rw [kO_kO] at hW
  have hW : q_W E (kO E (va_up f tk (some (cCook tr (nI (RS i (z_hdn hdt hd pn) ((z_bec vt v pn), 0, (-1))).2.1) ((RS i (z_hdn hdt hd pn) ((z_bec vt v pn), 0, (-1))).2.2)))) tr bk (z_hdn hdt hd pn) ((RS i (z_hdn hdt hd pn) ((z_bec vt v pn), 0, (-1))).1)) n H := hW
  refine lv_pop hx hb dX12_firstWarning_24 rfl ?_
  refine lv_aload_n hx hb dX12_firstWarning_25 rfl (lv_at hl 0 rfl) ?_
  refine q_get hx hb hts hown hA hW iX12 ((kO_out hxt).trans (q_ne (by omega) hX)) rfl 5 (by decide) (hts (.fieldLink RX12 42 "HighRecipes" "trying" "LHighRecipes$Cooking;") (by decide +kernel)) (fun _ h9 => h9) (v := .ref tk) rfl dX12_firstWarning_26 ?_
  refine q_getN hx hb hts hown hA hW iX3 ((kO_out htk).trans q_eq) rfl 2 (by decide) (va_Nw.use rfl (hA.2.2.2.1 ("HighRecipes", 198, "HighRecipes$Cooking", "firstWarningAct", "I", "HighRecipes") (by decide +kernel))) (fun _ h9 => h9) (v := .int ((RS i (z_hdn hdt hd pn) ((z_bec vt v pn), 0, (-1))).2.2)) rfl dX12_firstWarning_29 ?_
  exact q_iret hx hb hr hlocks hW hS ⟨(congrArg Prod.snd (t_base (hdt := hdt) (vt := vt) hsb hB29 hinv).2.2).symm, rfl, rfl⟩ (Nat.le_of_ble_eq_true rfl) (Nat.le_of_ble_eq_true rfl) dX12_firstWarning_32

set_option maxHeartbeats 4000000 in
set_option maxRecDepth 100000 in
theorem kX12_doneBehind (l : Launch) (E : q_E) (f : q_H) (n : Nat) (x tp pr k ck tr tk : Nat) (ep : Int32) (bk : Nat) (hd v : Nat → Int32) (pn rc : Nat) (ac : Int32) (bt : Nat) (hdt vt : Nat → Int32) (w : Int32) (b0 : Int32) (g : Nat → Option Nat) (BB lo hi i : Nat) (RS : Nat → q_S) (j : Nat) (hX : f x = some (rX12 (some tp) (some pr) (some k) (some ck) (some tr) (some tk) ep)) (hB : f bk = some (cBook bk (nI pn) (nI rc) ac)) (hc : f tk = some (cCook tr b0 w)) (hG : f (bk + 4) = some (aQ E 3 6 g)) (hk : KIT E f k bk hd v) (hkt : KIT E f tr bt hdt vt) (hbo : kOut k bk) (hxo : kOut k x) (hpn : pn ≤ 8) (hrc : rc ≤ 6) (hdis : tr + 20 ≤ k ∨ k + 20 ≤ tr) (hbt : kOut tr bk) (hbt4 : kOut tr (bk + 4)) (hxt : kOut tr x) (htk : kOut tr tk) (hbc : bk ≠ tk) (hb4c : bk + 4 ≠ tk) (hxk : x ≠ tk) (hreg : ∀ q, lo ≤ q → q < hi → kOut tr q ∧ q ≠ tk) (hB29 : BB ≤ 2 ^ 29) (hinv : k_inv BB (v, 0, (-1))) (hi9 : i < rc) (hRS : rRS E pn lo hi f RS g rc) (hsb : s_blk pn (RS i)) (hktk : kOut k tk) (hj : j < pn) : Met l yX12_doneBehind wsX12_doneBehind ({ frames := 240 + 0, cells := 0, slots := 0, locals := 9000 + 0 }) (q_P E [.ref x, .int (nI i), .int (nI j)] f n) (q_Qi E (fun r f1 n1 => (RS i hd (v, 0, (-1))).1 (55 + 4 * j) = r ∧ kO E (va_up f tk (some (cCook tr (nI (RS i (z_hdn hdt hd pn) (z_bec vt v pn, 0, (-1))).2.1) (RS i (z_hdn hdt hd pn) (z_bec vt v pn, 0, (-1))).2.2))) tr bk (z_hdn hdt hd pn) (RS i (z_hdn hdt hd pn) (z_bec vt v pn, 0, (-1))).1 = f1 ∧ n = n1)) 0 0 (q_ge E) := by
  refine Met.ofW (cc := cX12_doneBehind) (maxL := 4) (ret := (some .int)) (by decide) rfl ?_
  intro p e s m args below meth c s₁ B hml hv
  obtain ⟨rfl, hA, hW⟩ := hv
  have hx := B.exec
  have hb := B.bytes
  have hr := B.returns
  have hts := atoms_spec (ws := wsX12_doneBehind) B.pre
  have hown : s.vm.findClass RX12 = some m.cls := findClass_of_methodNamed B.named
  have hlocks := B.notSynchronized
  have hS : va_S (q_ge E) s.heap s.heap [] := va_S.rf
  have iX12 : ∀ w ∈ wsX120, w ∈ wsX12_doneBehind := by decide +kernel
  have iX2 : ∀ w ∈ wsX20, w ∈ wsX12_doneBehind := by decide +kernel
  have iX6 : ∀ w ∈ wsX60, w ∈ wsX12_doneBehind := by decide +kernel
  have iX7 : ∀ w ∈ wsX70, w ∈ wsX12_doneBehind := by decide +kernel
  have hl := lv_entry ([.ref x, .int (nI i), .int (nI j)]) (n := 4) (Nat.le_of_ble_eq_true rfl)
  rw [lg_entry_eq]
  generalize (lg_sl ([.ref x, .int (nI i), .int (nI j)]) ++ List.replicate (4 - (lg_sl ([.ref x, .int (nI i), .int (nI j)])).length) Slot.unset).toArray = ls at hl ⊢
  have hl : lv_has ls 4 [(0, .ref x), (1, .int (nI i)), (2, .int (nI j))] := hl
  rw [hkt.eq] at hW
  refine lv_aload_n hx hb dX12_doneBehind_0 rfl (lv_at hl 0 rfl) ?_
  refine lv_iload_n hx hb dX12_doneBehind_1 rfl (lv_at hl 1 rfl) ?_
  refine q_cv (va_runV (As := [.int (nI i)]) (rest := []) ⟨hx, hb, hml, hown, hts⟩ (kX12_requireRecipe l E (kO E f tr bt hdt vt) n x tp pr k ck tr tk ep bk hd v pn rc ac i ((kO_out hxt).trans hX) ((kO_out hbt).trans hB) (hk.other (fun q hq => kO_out (by unfold kOut at *; omega))) hbo hxo (by assumption) (by assumption) hi9) (cwV 1 hts gX12_doneBehind_X12_requireRecipe rfl rfl rfl (by decide +kernel) ⟨(by show 1 + 1 ≤ 240 + 0; omega), (by show 8 + (2 + 11) + 21 ≤ 9000 + 0; omega)⟩) (q_pV hA hW hS (ci := 12) rfl ((kO_out hxt).trans hX)) rfl rfl hl.1 rfl (lv_room (Nat.le_of_ble_eq_true rfl)) dX12_doneBehind_2 ⟨Nat.le_of_ble_eq_true rfl, Nat.le_of_ble_eq_true rfl⟩) hS (fun f_2 n_2 H locs hp hW hS => ?_)
  obtain ⟨rfl, rfl⟩ := hp
  have hW : q_W E (kO E f tr bt hdt vt) n H := hW
  refine lv_iload_n hx hb dX12_doneBehind_5 rfl (lv_at hl 2 rfl) ?_
  refine lv_aload_n hx hb dX12_doneBehind_6 rfl (lv_at hl 0 rfl) ?_
  refine q_get hx hb hts hown hA hW iX12 ((kO_out hxt).trans hX) rfl 2 (by decide) (hts (.fieldLink RX12 26 "HighRecipes" "kitchen" "LHighRecipes$Kitchen;") (by decide +kernel)) (fun _ h9 => h9) (v := .ref k) rfl dX12_doneBehind_7 ?_
  refine q_getN hx hb hts hown hA hW iX6 ((kO_out (by unfold kOut; omega)).trans hk.g0) rfl 4 (by decide) (va_Nw.use rfl (hA.2.2.2.1 ("HighRecipes", 82, "HighRecipes$Kitchen", "book", "LHighRecipes$Book;", "HighRecipes") (by decide +kernel))) (fun _ h9 => h9) (v := .ref bk) rfl dX12_doneBehind_10 ?_
  refine q_getN hx hb hts hown hA hW iX2 ((kO_out hbt).trans hB) rfl 4 (by decide) (va_Nw.use rfl (hA.2.2.2.1 ("HighRecipes", 83, "HighRecipes$Book", "panCount", "I", "HighRecipes") (by decide +kernel))) (fun _ h9 => h9) (v := .int (nI pn)) rfl dX12_doneBehind_13 ?_
  refine q_cv (va_runS (As := [.int (nI j), .int (nI pn)]) (rest := []) ⟨hx, hb, hml, hown, hts⟩ (kX12_requireIndex l E (kO E f tr bt hdt vt) n j pn hj (by omega)) (va_cwS 2 hts gX12_doneBehind_X12_requireIndex rfl rfl rfl (by decide +kernel) ⟨(by show 0 + 1 ≤ 240 + 0; omega), (by show 8 + (2 + 11) + 0 ≤ 9000 + 0; omega)⟩) (q_pS hA hW hS) rfl rfl hl.1 rfl (lv_room (Nat.le_of_ble_eq_true rfl)) dX12_doneBehind_16 ⟨Nat.le_of_ble_eq_true rfl, Nat.le_of_ble_eq_true rfl⟩) hS (fun f_16 n_16 H locs hp hW hS => ?_)
  obtain ⟨rfl, rfl⟩ := hp
  have hW : q_W E (kO E f tr bt hdt vt) n H := hW
  refine lv_aload_n hx hb dX12_doneBehind_19 rfl (lv_at hl 0 rfl) ?_
  refine q_get hx hb hts hown hA hW iX12 ((kO_out hxt).trans hX) rfl 4 (by decide) (hts (.fieldLink RX12 39 "HighRecipes" "trial" "LHighRecipes$Kitchen;") (by decide +kernel)) (fun _ h9 => h9) (v := .ref tr) rfl dX12_doneBehind_20 ?_
  refine lv_aload_n hx hb dX12_doneBehind_23 rfl (lv_at hl 0 rfl) ?_
  refine q_get hx hb hts hown hA hW iX12 ((kO_out hxt).trans hX) rfl 2 (by decide) (hts (.fieldLink RX12 26 "HighRecipes" "kitchen" "LHighRecipes$Kitchen;") (by decide +kernel)) (fun _ h9 => h9) (v := .ref k) rfl dX12_doneBehind_24 ?_
  refine q_cv (va_runV (As := [.ref k]) (rest := []) ⟨hx, hb, hml, hown, hts⟩ (kX6_become l E (kO E f tr bt hdt vt) n tr bt hdt vt k bk hd v pn (nI rc) ac ((kO_out hbt).trans hB) kO_K (hk.other (fun q hq => kO_out (by unfold kOut at *; omega))) hbt hbo hdis (by assumption)) (cwV 1 hts gX12_doneBehind_X6_become rfl rfl rfl (by decide +kernel) ⟨(by show 2 + 1 ≤ 240 + 0; omega), (by show 8 + (5 + 11) + 41 ≤ 9000 + 0; omega)⟩) (q_pV hA hW hS (ci := 6) rfl kO_0) rfl rfl hl.1 rfl (lv_room (Nat.le_of_ble_eq_true rfl)) dX12_doneBehind_27 ⟨Nat.le_of_ble_eq_true rfl, Nat.le_of_ble_eq_true rfl⟩) hS (fun f_27 n_27 H locs hp hW hS => ?_)
  obtain ⟨rfl, rfl⟩ := hp
  rw [kO_kO] at hW
  have hW : q_W E (kO E f tr bk (z_hdn hdt hd pn) (z_bec vt v pn)) n H := hW
  refine lv_aload_n hx hb dX12_doneBehind_30 rfl (lv_at hl 0 rfl) ?_
  refine q_get hx hb hts hown hA hW iX12 ((kO_out hxt).trans hX) rfl 5 (by decide) (hts (.fieldLink RX12 42 "HighRecipes" "trying" "LHighRecipes$Cooking;") (by decide +kernel)) (fun _ h9 => h9) (v := .ref tk) rfl dX12_doneBehind_31 ?_
  refine lv_iload_n hx hb dX12_doneBehind_34 rfl (lv_at hl 1 rfl) ?_
  refine q_ci (va_runV (As := [.int (nI i)]) (rest := []) ⟨hx, hb, hml, hown, hts⟩ (kX3_run l E (kO E f tr bk (z_hdn hdt hd pn) (z_bec vt v pn)) n tk tr bk (z_hdn hdt hd pn) (z_bec vt v pn) w pn (nI rc) ac b0 g BB lo hi i RS ((kO_out htk).trans hc) ((kO_out hbt).trans hB) ((kO_out hbt4).trans hG) kO_K hbt (by assumption) htk hbt4 (by assumption) (by assumption) (by assumption) (by assumption) (k_inv_bec hinv) (by omega) (fun r9 h9 => rep_RS (fun q h1 h2 => (kO_out (hreg q h1 h2).1).trans rfl) hRS r9 (by omega))) (cwV 1 hts gX12_doneBehind_X3_run rfl rfl rfl (by decide +kernel) ⟨(by show (5 * (6 + 6 * i) + 25) + 1 ≤ 240 + 0; omega), (by show 8 + (3 + 11) + (200 * (6 + 6 * i) + 1200) ≤ 9000 + 0; omega)⟩) (q_pV hA hW hS (ci := 4) rfl ((kO_out htk).trans hc)) rfl rfl hl.1 rfl (lv_room (Nat.le_of_ble_eq_true rfl)) dX12_doneBehind_35 ⟨Nat.le_of_ble_eq_true rfl, Nat.le_of_ble_eq_true rfl⟩) hS (fun r_35 f_35 n_35 H locs hp hW hS => ?_)
  obtain ⟨rfl, rfl, rfl⟩ := hp
  have hW : q_W E (kO E (va_up (kO E f tr bk (z_hdn hdt hd pn) (z_bec vt v pn)) tk (some (cCook tr (nI (RS i (z_hdn hdt hd pn) ((z_bec vt v pn), 0, (-1))).2.1) ((RS i (z_hdn hdt hd pn) ((z_bec vt v pn), 0, (-1))).2.2)))) tr bk (z_hdn hdt hd pn) ((RS i (z_hdn hdt hd pn) ((z_bec vt v pn), 0, (-1))).1)) n H := hW
  rw [kO_iu htk] at hW
  rw [kO_kO] at hW
  have hW : q_W E (kO E (va_up f tk (some (cCook tr (nI (RS i (z_hdn hdt hd pn) ((z_bec vt v pn), 0, (-1))).2.1) ((RS i (z_hdn hdt hd pn) ((z_bec vt v pn), 0, (-1))).2.2)))) tr bk (z_hdn hdt hd pn) ((RS i (z_hdn hdt hd pn) ((z_bec vt v pn), 0, (-1))).1)) n H := hW
  refine lv_pop hx hb dX12_doneBehind_38 rfl ?_
  refine lv_aload_n hx hb dX12_doneBehind_39 rfl (lv_at hl 0 rfl) ?_
  refine q_get hx hb hts hown hA hW iX12 ((kO_out hxt).trans (q_ne (by omega) hX)) rfl 4 (by decide) (hts (.fieldLink RX12 39 "HighRecipes" "trial" "LHighRecipes$Kitchen;") (by decide +kernel)) (fun _ h9 => h9) (v := .ref tr) rfl dX12_doneBehind_40 ?_
  refine lv_iload_n hx hb dX12_doneBehind_43 rfl (lv_at hl 2 rfl) ?_
  refine q_cq (va_runV (As := [.int (nI j)]) (rest := []) ⟨hx, hb, hml, hown, hts⟩ (kX6_panAt l E (kO E (va_up f tk (some (cCook tr (nI (RS i (z_hdn hdt hd pn) ((z_bec vt v pn), 0, (-1))).2.1) ((RS i (z_hdn hdt hd pn) ((z_bec vt v pn), 0, (-1))).2.2)))) tr bk (z_hdn hdt hd pn) ((RS i (z_hdn hdt hd pn) ((z_bec vt v pn), 0, (-1))).1)) n tr bk (z_hdn hdt hd pn) ((RS i (z_hdn hdt hd pn) ((z_bec vt v pn), 0, (-1))).1) pn (nI rc) ac j ((kO_out hbt).trans (q_ne (by omega) hB)) kO_K hbt (by assumption) hj) (cwV 1 hts gX12_doneBehind_X6_panAt rfl rfl rfl (by decide +kernel) ⟨(by show 0 + 1 ≤ 240 + 0; omega), (by show 8 + (2 + 11) + 0 ≤ 9000 + 0; omega)⟩) (q_pV hA hW hS (ci := 6) rfl kO_0) rfl rfl hl.1 rfl (lv_room (Nat.le_of_ble_eq_true rfl)) dX12_doneBehind_44 ⟨Nat.le_of_ble_eq_true rfl, Nat.le_of_ble_eq_true rfl⟩) hS (fun r_44 f_44 n_44 H locs hp hW hS => ?_)
  obtain ⟨rfl, rfl, rfl⟩ := hp
  have hW : q_W E (kO E (va_up f tk (some (cCook tr (nI (RS i (z_hdn hdt hd pn) ((z_bec vt v pn), 0, (-1))).2.1) ((RS i (z_hdn hdt hd pn) ((z_bec vt v pn), 0, (-1))).2.2)))) tr bk (z_hdn hdt hd pn) ((RS i (z_hdn hdt hd pn) ((z_bec vt v pn), 0, (-1))).1)) n H := hW
  refine lv_astore_n (lv' := [(3, .ref (tr + 12 + j)), (0, .ref x), (1, .int (nI i)), (2, .int (nI j))]) hx hb dX12_doneBehind_47 rfl hl (by decide) rfl (fun ls hl => ?_)
  refine lv_aload_n hx hb dX12_doneBehind_48 rfl (lv_at hl 0 rfl) ?_
  refine lv_ifnonnull (tgt := 56) hx hb dX12_doneBehind_49 (by decide) ?_
  refine lv_aload_n hx hb dX12_doneBehind_56 rfl (lv_at hl 0 rfl) ?_
  refine q_getN hx hb hts hown hA hW iX7 (kO_p (q_8 hj hpn)) rfl 4 (by decide) (va_Nw.use rfl (hA.2.2.2.1 ("HighRecipes", 127, "HighRecipes$Pan", "done", "I", "HighRecipes") (by decide +kernel))) (fun _ h9 => h9) (v := .int (((RS i (z_hdn hdt hd pn) ((z_bec vt v pn), 0, (-1))).1) (55 + 4 * j))) rfl dX12_doneBehind_57 ?_
  exact q_iret hx hb hr hlocks hW hS ⟨((t_base (hdt := hdt) (vt := vt) hsb hB29 hinv).1.2.2 j hj).2.2.2.symm, rfl, rfl⟩ (Nat.le_of_ble_eq_true rfl) (Nat.le_of_ble_eq_true rfl) dX12_doneBehind_60

set_option maxHeartbeats 4000000 in
set_option maxRecDepth 100000 in
theorem kX12_highestSafe (l : Launch) (E : q_E) (f : q_H) (n : Nat) (x tp pr k ck tr tk : Nat) (ep : Int32) (bk : Nat) (hd v : Nat → Int32) (pn rc : Nat) (ac : Int32) (bt : Nat) (hdt vt : Nat → Int32) (w : Int32) (b0 : Int32) (g : Nat → Option Nat) (BB lo hi i : Nat) (RS : Nat → q_S) (hX : f x = some (rX12 (some tp) (some pr) (some k) (some ck) (some tr) (some tk) ep)) (hB : f bk = some (cBook bk (nI pn) (nI rc) ac)) (hc : f tk = some (cCook tr b0 w)) (hG : f (bk + 4) = some (aQ E 3 6 g)) (hk : KIT E f k bk hd v) (hkt : KIT E f tr bt hdt vt) (hbo : kOut k bk) (hxo : kOut k x) (hpn : pn ≤ 8) (hrc : rc ≤ 6) (hdis : tr + 20 ≤ k ∨ k + 20 ≤ tr) (hbt : kOut tr bk) (hbt4 : kOut tr (bk + 4)) (hxt : kOut tr x) (htk : kOut tr tk) (hbc : bk ≠ tk) (hb4c : bk + 4 ≠ tk) (hxk : x ≠ tk) (hreg : ∀ q, lo ≤ q → q < hi → kOut tr q ∧ q ≠ tk) (hB29 : BB ≤ 2 ^ 29) (hinv : k_inv BB (v, 0, (-1))) (hi9 : i < rc) (hRS : rRS E pn lo hi f RS g rc) (hsb : s_blk pn (RS i)) (hktk : kOut k tk) : Met l yX12_highestSafe wsX12_highestSafe ({ frames := 240 + 0, cells := 0, slots := 0, locals := 9000 + 0 }) (q_P E [.ref x, .int (nI i)] f n) (q_Qi E (fun r f1 n1 => z_best (fun h => decide ((RS i hd (z_move v (nI h) pn, 0, (-1))).1 4 = v 4)) 61 = r ∧ (∃ (bt1 : Nat) (hdt1 vt1 : q_V) (b1 w1 : Int32), kO E (va_up f tk (some (cCook tr b1 w1))) tr bt1 hdt1 vt1 = f1) ∧ n = n1)) 0 0 (q_ge E) := by
  refine Met.ofW (cc := cX12_highestSafe) (maxL := 3) (ret := (some .int)) (by decide) rfl ?_
  intro p e s m args below meth c s₁ B hml hv
  obtain ⟨rfl, hA, hW⟩ := hv
  have hx := B.exec
  have hb := B.bytes
  have hr := B.returns
  have hts := atoms_spec (ws := wsX12_highestSafe) B.pre
  have hown : s.vm.findClass RX12 = some m.cls := findClass_of_methodNamed B.named
  have hlocks := B.notSynchronized
  have hS : va_S (q_ge E) s.heap s.heap [] := va_S.rf
  have iX12 : ∀ w ∈ wsX120, w ∈ wsX12_highestSafe := by decide +kernel
  have iX4 : ∀ w ∈ wsX40, w ∈ wsX12_highestSafe := by decide +kernel
  have iX6 : ∀ w ∈ wsX60, w ∈ wsX12_highestSafe := by decide +kernel
  have hl := lv_entry ([.ref x, .int (nI i)]) (n := 3) (Nat.le_of_ble_eq_true rfl)
  rw [lg_entry_eq]
  generalize (lg_sl ([.ref x, .int (nI i)]) ++ List.replicate (3 - (lg_sl ([.ref x, .int (nI i)])).length) Slot.unset).toArray = ls at hl ⊢
  have hl : lv_has ls 3 [(0, .ref x), (1, .int (nI i))] := hl
  rw [hkt.eq] at hW
  refine lv_aload_n hx hb dX12_highestSafe_0 rfl (lv_at hl 0 rfl) ?_
  refine lv_iload_n hx hb dX12_highestSafe_1 rfl (lv_at hl 1 rfl) ?_
  refine q_cv (va_runV (As := [.int (nI i)]) (rest := []) ⟨hx, hb, hml, hown, hts⟩ (kX12_requireRecipe l E (kO E f tr bt hdt vt) n x tp pr k ck tr tk ep bk hd v pn rc ac i ((kO_out hxt).trans hX) ((kO_out hbt).trans hB) (hk.other (fun q hq => kO_out (by unfold kOut at *; omega))) hbo hxo (by assumption) (by assumption) hi9) (cwV 1 hts gX12_highestSafe_X12_requireRecipe rfl rfl rfl (by decide +kernel) ⟨(by show 1 + 1 ≤ 240 + 0; omega), (by show 8 + (2 + 11) + 21 ≤ 9000 + 0; omega)⟩) (q_pV hA hW hS (ci := 12) rfl ((kO_out hxt).trans hX)) rfl rfl hl.1 rfl (lv_room (Nat.le_of_ble_eq_true rfl)) dX12_highestSafe_2 ⟨Nat.le_of_ble_eq_true rfl, Nat.le_of_ble_eq_true rfl⟩) hS (fun f_2 n_2 H locs hp hW hS => ?_)
  obtain ⟨rfl, rfl⟩ := hp
  have hW : q_W E (kO E f tr bt hdt vt) n H := hW
  refine lv_bipush (v := 60) hx hb dX12_highestSafe_5 (by decide) ?_
  refine lv_istore_n (lv' := [(2, .int 60), (0, .ref x), (1, .int (nI i))]) hx hb dX12_highestSafe_7 rfl hl (by decide) rfl (fun ls hl => ?_)
  have K8 : ∀ (fu : Nat) (h0 : Nat) (bt9 : Nat) (hdt9 : q_V) (vt9 : q_V) (b9 : Int32) (w9 : Int32) (h61 : h0 ≤ 61) (hbest : z_best (fun h => decide ((RS i hd (z_move v (nI h) pn, 0, (-1))).1 4 = v 4)) 61 = z_best (fun h => decide ((RS i hd (z_move v (nI h) pn, 0, (-1))).1 4 = v 4)) h0) (hm : h0 < fu) (H : Heap) (locs : List Loc) (ls : Array Slot), q_W E (kO E (va_up f tk (some (cCook tr b9 w9))) tr bt9 hdt9 vt9) n H → va_S (q_ge E) s.heap H locs → lv_has ls 3 [(0, .ref x), (1, .int (nI i)), (2, .int (nI h0 - 1))] → W p l e (headSpec wsX12_highestSafe ({ frames := 240 + 0, cells := 0, slots := 0, locals := 9000 + 0 })).room s m ([.ref x, .int (nI i)] : List Value).toArray below meth c H locs 0 0 (MQ below (q_Qi E (fun r f1 n1 => z_best (fun h => decide ((RS i hd (z_move v (nI h) pn, 0, (-1))).1 4 = v 4)) 61 = r ∧ (∃ (bt1 : Nat) (hdt1 vt1 : q_V) (b1 w1 : Int32), kO E (va_up f tk (some (cCook tr b1 w1))) tr bt1 hdt1 vt1 = f1) ∧ n = n1)) ([.ref x, .int (nI i)] : List Value).toArray s 0 0 (q_ge E)) (F0 m 8 ls []) := by
    intro fu
    induction fu with
    | zero =>
      intro h0 bt9 hdt9 vt9 b9 w9 h61 hbest hm
      exact absurd hm (Nat.not_lt_zero _)
    | succ fu ih =>
      intro h0 bt9 hdt9 vt9 b9 w9 h61 hbest hm H locs ls hW hS hl
      refine lv_iload_n hx hb dX12_highestSafe_8 rfl (lv_at hl 2 rfl) ?_
      refine lv_if_lt (tgt := 61) hx hb dX12_highestSafe_9 (by decide) (fun c_9 => ?_) (fun c_9 => ?_)
      · have e0 : h0 = 0 := by rcases Nat.eq_zero_or_pos h0 with h9 | h9; exact h9; obtain ⟨q9, rfl⟩ : ∃ q, h0 = q + 1 := ⟨h0 - 1, by omega⟩; rw [nI_pm] at c_9; exact absurd c_9 (nI_pos (by omega))
        refine lv_iconst (v := (-1)) hx hb dX12_highestSafe_61 (by decide) ?_
        exact q_iret hx hb hr hlocks hW hS ⟨hbest.trans (by rw [e0]; rfl), ⟨_, _, _, _, _, rfl⟩, rfl⟩ (Nat.le_of_ble_eq_true rfl) (Nat.le_of_ble_eq_true rfl) dX12_highestSafe_62
      · obtain ⟨q9, rfl⟩ : ∃ q, h0 = q + 1 := by rcases Nat.eq_zero_or_pos h0 with h9 | h9; subst h9; exact absurd (by decide) c_9; exact ⟨h0 - 1, by omega⟩
        rw [nI_pm] at hl
        refine lv_aload_n hx hb dX12_highestSafe_12 rfl (lv_at hl 0 rfl) ?_
        refine q_get hx hb hts hown hA hW iX12 ((kO_out hxt).trans (q_ne (by omega) hX)) rfl 4 (by decide) (hts (.fieldLink RX12 39 "HighRecipes" "trial" "LHighRecipes$Kitchen;") (by decide +kernel)) (fun _ h9 => h9) (v := .ref tr) rfl dX12_highestSafe_13 ?_
        refine lv_aload_n hx hb dX12_highestSafe_16 rfl (lv_at hl 0 rfl) ?_
        refine q_get hx hb hts hown hA hW iX12 ((kO_out hxt).trans (q_ne (by omega) hX)) rfl 2 (by decide) (hts (.fieldLink RX12 26 "HighRecipes" "kitchen" "LHighRecipes$Kitchen;") (by decide +kernel)) (fun _ h9 => h9) (v := .ref k) rfl dX12_highestSafe_17 ?_
        refine q_cv (va_runV (As := [.ref k]) (rest := []) ⟨hx, hb, hml, hown, hts⟩ (kX6_become l E (kO E (va_up f tk (some (cCook tr b9 w9))) tr bt9 hdt9 vt9) n tr bt9 hdt9 vt9 k bk hd v pn (nI rc) ac ((kO_out hbt).trans (q_ne (by omega) hB)) kO_K (hk.other (fun q hq => (kO_out (by unfold kOut at *; omega)).trans (va_up_ne _ _ (by unfold kOut at *; omega)))) hbt hbo hdis (by assumption)) (cwV 1 hts gX12_highestSafe_X6_become rfl rfl rfl (by decide +kernel) ⟨(by show 2 + 1 ≤ 240 + 0; omega), (by show 8 + (5 + 11) + 41 ≤ 9000 + 0; omega)⟩) (q_pV hA hW hS (ci := 6) rfl kO_0) rfl rfl hl.1 rfl (lv_room (Nat.le_of_ble_eq_true rfl)) dX12_highestSafe_20 ⟨Nat.le_of_ble_eq_true rfl, Nat.le_of_ble_eq_true rfl⟩) hS (fun f_20 n_20 H locs hp hW hS => ?_)
        obtain ⟨rfl, rfl⟩ := hp
        rw [kO_kO] at hW
        have hW : q_W E (kO E (va_up f tk (some (cCook tr b9 w9))) tr bk (z_hdn hdt9 hd pn) (z_bec vt9 v pn)) n H := hW
        refine lv_aload_n hx hb dX12_highestSafe_23 rfl (lv_at hl 0 rfl) ?_
        refine q_get hx hb hts hown hA hW iX12 ((kO_out hxt).trans (q_ne (by omega) hX)) rfl 4 (by decide) (hts (.fieldLink RX12 39 "HighRecipes" "trial" "LHighRecipes$Kitchen;") (by decide +kernel)) (fun _ h9 => h9) (v := .ref tr) rfl dX12_highestSafe_24 ?_
        refine lv_iload_n hx hb dX12_highestSafe_27 rfl (lv_at hl 2 rfl) ?_
        refine q_cv (va_runV (As := [.int (nI q9)]) (rest := []) ⟨hx, hb, hml, hown, hts⟩ (kX6_moveTo l E (kO E (va_up f tk (some (cCook tr b9 w9))) tr bk (z_hdn hdt9 hd pn) (z_bec vt9 v pn)) n tr bk (z_hdn hdt9 hd pn) (z_bec vt9 v pn) pn (nI rc) ac (nI q9) ((kO_out hbt).trans (q_ne (by omega) hB)) kO_K hbt (by assumption)) (cwV 1 hts gX12_highestSafe_X6_moveTo rfl rfl rfl (by decide +kernel) ⟨(by show 2 + 1 ≤ 240 + 0; omega), (by show 8 + (4 + 11) + 40 ≤ 9000 + 0; omega)⟩) (q_pV hA hW hS (ci := 6) rfl kO_0) rfl rfl hl.1 rfl (lv_room (Nat.le_of_ble_eq_true rfl)) dX12_highestSafe_28 ⟨Nat.le_of_ble_eq_true rfl, Nat.le_of_ble_eq_true rfl⟩) hS (fun f_28 n_28 H locs hp hW hS => ?_)
        obtain ⟨rfl, rfl⟩ := hp
        rw [kO_kO] at hW
        have hW : q_W E (kO E (va_up f tk (some (cCook tr b9 w9))) tr bk (z_hdn hdt9 hd pn) (z_move (z_bec vt9 v pn) (nI q9) pn)) n H := hW
        refine lv_aload_n hx hb dX12_highestSafe_31 rfl (lv_at hl 0 rfl) ?_
        refine q_get hx hb hts hown hA hW iX12 ((kO_out hxt).trans (q_ne (by omega) hX)) rfl 5 (by decide) (hts (.fieldLink RX12 42 "HighRecipes" "trying" "LHighRecipes$Cooking;") (by decide +kernel)) (fun _ h9 => h9) (v := .ref tk) rfl dX12_highestSafe_32 ?_
        refine lv_iload_n hx hb dX12_highestSafe_35 rfl (lv_at hl 1 rfl) ?_
        refine q_ci (va_runV (As := [.int (nI i)]) (rest := []) ⟨hx, hb, hml, hown, hts⟩ (kX3_run l E (kO E (va_up f tk (some (cCook tr b9 w9))) tr bk (z_hdn hdt9 hd pn) (z_move (z_bec vt9 v pn) (nI q9) pn)) n tk tr bk (z_hdn hdt9 hd pn) (z_move (z_bec vt9 v pn) (nI q9) pn) w9 pn (nI rc) ac b9 g BB lo hi i RS ((kO_out htk).trans q_eq) ((kO_out hbt).trans (q_ne (by omega) hB)) ((kO_out hbt4).trans (q_ne (by omega) hG)) kO_K hbt (by assumption) htk hbt4 (by assumption) (by assumption) (by assumption) (by assumption) (k_inv_mv (k_inv_bec hinv)) (by omega) (fun r9 h9 => rep_RS (fun q h1 h2 => (kO_out (hreg q h1 h2).1).trans (va_up_ne _ _ (hreg q h1 h2).2)) hRS r9 (by omega))) (cwV 1 hts gX12_highestSafe_X3_run rfl rfl rfl (by decide +kernel) ⟨(by show (5 * (6 + 6 * i) + 25) + 1 ≤ 240 + 0; omega), (by show 8 + (3 + 11) + (200 * (6 + 6 * i) + 1200) ≤ 9000 + 0; omega)⟩) (q_pV hA hW hS (ci := 4) rfl ((kO_out htk).trans q_eq)) rfl rfl hl.1 rfl (lv_room (Nat.le_of_ble_eq_true rfl)) dX12_highestSafe_36 ⟨Nat.le_of_ble_eq_true rfl, Nat.le_of_ble_eq_true rfl⟩) hS (fun r_36 f_36 n_36 H locs hp hW hS => ?_)
        obtain ⟨rfl, rfl, rfl⟩ := hp
        have hW : q_W E (kO E (va_up (kO E (va_up f tk (some (cCook tr b9 w9))) tr bk (z_hdn hdt9 hd pn) (z_move (z_bec vt9 v pn) (nI q9) pn)) tk (some (cCook tr (nI (RS i (z_hdn hdt9 hd pn) ((z_move (z_bec vt9 v pn) (nI q9) pn), 0, (-1))).2.1) ((RS i (z_hdn hdt9 hd pn) ((z_move (z_bec vt9 v pn) (nI q9) pn), 0, (-1))).2.2)))) tr bk (z_hdn hdt9 hd pn) ((RS i (z_hdn hdt9 hd pn) ((z_move (z_bec vt9 v pn) (nI q9) pn), 0, (-1))).1)) n H := hW
        rw [kO_iu htk] at hW
        rw [q_upup] at hW
        rw [kO_kO] at hW
        have hW : q_W E (kO E (va_up f tk (some (cCook tr (nI (RS i (z_hdn hdt9 hd pn) ((z_move (z_bec vt9 v pn) (nI q9) pn), 0, (-1))).2.1) ((RS i (z_hdn hdt9 hd pn) ((z_move (z_bec vt9 v pn) (nI q9) pn), 0, (-1))).2.2)))) tr bk (z_hdn hdt9 hd pn) ((RS i (z_hdn hdt9 hd pn) ((z_move (z_bec vt9 v pn) (nI q9) pn), 0, (-1))).1)) n H := hW
        refine lv_pop hx hb dX12_highestSafe_39 rfl ?_
        refine lv_aload_n hx hb dX12_highestSafe_40 rfl (lv_at hl 0 rfl) ?_
        refine q_get hx hb hts hown hA hW iX12 ((kO_out hxt).trans (q_ne (by omega) hX)) rfl 4 (by decide) (hts (.fieldLink RX12 39 "HighRecipes" "trial" "LHighRecipes$Kitchen;") (by decide +kernel)) (fun _ h9 => h9) (v := .ref tr) rfl dX12_highestSafe_41 ?_
        refine q_getN hx hb hts hown hA hW iX6 kO_0 rfl 1 (by decide) (va_Nw.use rfl (hA.2.2.2.1 ("HighRecipes", 144, "HighRecipes$Kitchen", "warnings", "LHighRecipes$History;", "HighRecipes") (by decide +kernel))) (fun _ h9 => h9) (v := .ref (tr + 2)) rfl dX12_highestSafe_44 ?_
        refine q_getN hx hb hts hown hA hW iX4 kO_2 rfl 1 (by decide) (va_Nw.use rfl (hA.2.2.2.1 ("HighRecipes", 148, "HighRecipes$History", "total", "I", "HighRecipes") (by decide +kernel))) (fun _ h9 => h9) (v := .int (((RS i (z_hdn hdt9 hd pn) ((z_move (z_bec vt9 v pn) (nI q9) pn), 0, (-1))).1) 4)) rfl dX12_highestSafe_47 ?_
        refine lv_if_ne (tgt := 55) hx hb dX12_highestSafe_50 (by decide) (fun c_50 => ?_) (fun c_50 => ?_)
        · have eh : z_best (fun h => decide ((RS i hd (z_move v (nI h) pn, 0, (-1))).1 4 = v 4)) (q9 + 1) = z_best (fun h => decide ((RS i hd (z_move v (nI h) pn, 0, (-1))).1 4 = v 4)) q9 := if_neg (fun h9 => c_50 ((t_high (h := q9) (hdt := hdt9) (vt := vt9) hsb hB29 hinv).2 (of_decide_eq_true h9)))
          refine lv_iinc (v := nI q9 - 1) (lv' := [(2, .int (nI q9 - 1)), (0, .ref x), (1, .int (nI i))]) hx hb dX12_highestSafe_55 hl (k := 2) rfl (i_subm q9) (by decide) rfl (fun ls hl => ?_)
          refine lv_goto (tgt := 8) hx hb dX12_highestSafe_58 (by decide) ?_
          exact ih q9 bk (z_hdn hdt9 hd pn) ((RS i (z_hdn hdt9 hd pn) ((z_move (z_bec vt9 v pn) (nI q9) pn), 0, (-1))).1) (nI (RS i (z_hdn hdt9 hd pn) ((z_move (z_bec vt9 v pn) (nI q9) pn), 0, (-1))).2.1) ((RS i (z_hdn hdt9 hd pn) ((z_move (z_bec vt9 v pn) (nI q9) pn), 0, (-1))).2.2) (by omega) (hbest.trans eh) (by omega) _ _ _ hW hS (lv_sub hl [1, 2, 0] rfl)
        · have eh : z_best (fun h => decide ((RS i hd (z_move v (nI h) pn, 0, (-1))).1 4 = v 4)) (q9 + 1) = nI q9 := if_pos (decide_eq_true ((t_high (h := q9) (hdt := hdt9) (vt := vt9) hsb hB29 hinv).1 c_50))
          refine lv_iload_n hx hb dX12_highestSafe_53 rfl (lv_at hl 2 rfl) ?_
          exact q_iret hx hb hr hlocks hW hS ⟨hbest.trans eh, ⟨_, _, _, _, _, rfl⟩, rfl⟩ (Nat.le_of_ble_eq_true rfl) (Nat.le_of_ble_eq_true rfl) dX12_highestSafe_54
  rw [← q_id hc] at hW
  have hW : q_W E (kO E (va_up f tk (some (cCook tr b0 w))) tr bt hdt vt) n H := hW
  exact K8 _ 61 bt hdt vt b0 w (Nat.le_refl _) rfl (Nat.lt_succ_self _) _ _ _ hW hS (lv_sub hl [1, 2, 0] rfl)

set_option maxHeartbeats 4000000 in
set_option maxRecDepth 100000 in
theorem kX12_mostServings (l : Launch) (E : q_E) (f : q_H) (n : Nat) (x tp pr k ck tr tk : Nat) (ep : Int32) (bk : Nat) (hd v : Nat → Int32) (pn rc : Nat) (ac : Int32) (bt : Nat) (hdt vt : Nat → Int32) (w : Int32) (b0 : Int32) (g : Nat → Option Nat) (BB lo hi i : Nat) (RS : Nat → q_S) (hX : f x = some (rX12 (some tp) (some pr) (some k) (some ck) (some tr) (some tk) ep)) (hB : f bk = some (cBook bk (nI pn) (nI rc) ac)) (hc : f tk = some (cCook tr b0 w)) (hG : f (bk + 4) = some (aQ E 3 6 g)) (hk : KIT E f k bk hd v) (hkt : KIT E f tr bt hdt vt) (hbo : kOut k bk) (hxo : kOut k x) (hpn : pn ≤ 8) (hrc : rc ≤ 6) (hdis : tr + 20 ≤ k ∨ k + 20 ≤ tr) (hbt : kOut tr bk) (hbt4 : kOut tr (bk + 4)) (hxt : kOut tr x) (htk : kOut tr tk) (hbc : bk ≠ tk) (hb4c : bk + 4 ≠ tk) (hxk : x ≠ tk) (hreg : ∀ q, lo ≤ q → q < hi → kOut tr q ∧ q ≠ tk) (hB29 : BB ≤ 2 ^ 29) (hinv : k_inv BB (v, 0, (-1))) (hi9 : i < rc) (hRS : rRS E pn lo hi f RS g rc) (hsb : s_blk pn (RS i)) (hktk : kOut k tk) : Met l yX12_mostServings wsX12_mostServings ({ frames := 240 + 0, cells := 0, slots := 0, locals := 9000 + 0 }) (q_P E [.ref x, .int (nI i)] f n) (q_Qi E (fun r f1 n1 => z_best1 (fun h => decide ((RS i hd (upd v 1 (nI h), 0, (-1))).1 7 = v 7)) 12 = r ∧ (∃ (bt1 : Nat) (hdt1 vt1 : q_V) (b1 w1 : Int32), kO E (va_up f tk (some (cCook tr b1 w1))) tr bt1 hdt1 vt1 = f1) ∧ n = n1)) 0 0 (q_ge E) := by
  refine Met.ofW (cc := cX12_mostServings) (maxL := 3) (ret := (some .int)) (by decide) rfl ?_
  intro p e s m args below meth c s₁ B hml hv
  obtain ⟨rfl, hA, hW⟩ := hv
  have hx := B.exec
  have hb := B.bytes
  have hr := B.returns
  have hts := atoms_spec (ws := wsX12_mostServings) B.pre
  have hown : s.vm.findClass RX12 = some m.cls := findClass_of_methodNamed B.named
  have hlocks := B.notSynchronized
  have hS : va_S (q_ge E) s.heap s.heap [] := va_S.rf
  have iX12 : ∀ w ∈ wsX120, w ∈ wsX12_mostServings := by decide +kernel
  have iX6 : ∀ w ∈ wsX60, w ∈ wsX12_mostServings := by decide +kernel
  have hl := lv_entry ([.ref x, .int (nI i)]) (n := 3) (Nat.le_of_ble_eq_true rfl)
  rw [lg_entry_eq]
  generalize (lg_sl ([.ref x, .int (nI i)]) ++ List.replicate (3 - (lg_sl ([.ref x, .int (nI i)])).length) Slot.unset).toArray = ls at hl ⊢
  have hl : lv_has ls 3 [(0, .ref x), (1, .int (nI i))] := hl
  rw [hkt.eq] at hW
  refine lv_aload_n hx hb dX12_mostServings_0 rfl (lv_at hl 0 rfl) ?_
  refine lv_iload_n hx hb dX12_mostServings_1 rfl (lv_at hl 1 rfl) ?_
  refine q_cv (va_runV (As := [.int (nI i)]) (rest := []) ⟨hx, hb, hml, hown, hts⟩ (kX12_requireRecipe l E (kO E f tr bt hdt vt) n x tp pr k ck tr tk ep bk hd v pn rc ac i ((kO_out hxt).trans hX) ((kO_out hbt).trans hB) (hk.other (fun q hq => kO_out (by unfold kOut at *; omega))) hbo hxo (by assumption) (by assumption) hi9) (cwV 1 hts gX12_mostServings_X12_requireRecipe rfl rfl rfl (by decide +kernel) ⟨(by show 1 + 1 ≤ 240 + 0; omega), (by show 8 + (2 + 11) + 21 ≤ 9000 + 0; omega)⟩) (q_pV hA hW hS (ci := 12) rfl ((kO_out hxt).trans hX)) rfl rfl hl.1 rfl (lv_room (Nat.le_of_ble_eq_true rfl)) dX12_mostServings_2 ⟨Nat.le_of_ble_eq_true rfl, Nat.le_of_ble_eq_true rfl⟩) hS (fun f_2 n_2 H locs hp hW hS => ?_)
  obtain ⟨rfl, rfl⟩ := hp
  have hW : q_W E (kO E f tr bt hdt vt) n H := hW
  refine lv_bipush (v := 12) hx hb dX12_mostServings_5 (by decide) ?_
  refine lv_istore_n (lv' := [(2, .int 12), (0, .ref x), (1, .int (nI i))]) hx hb dX12_mostServings_7 rfl hl (by decide) rfl (fun ls hl => ?_)
  have K8 : ∀ (fu : Nat) (h0 : Nat) (bt9 : Nat) (hdt9 : q_V) (vt9 : q_V) (b9 : Int32) (w9 : Int32) (h61 : h0 ≤ 12) (hbest : z_best1 (fun h => decide ((RS i hd (upd v 1 (nI h), 0, (-1))).1 7 = v 7)) 12 = z_best1 (fun h => decide ((RS i hd (upd v 1 (nI h), 0, (-1))).1 7 = v 7)) h0) (hm : h0 < fu) (H : Heap) (locs : List Loc) (ls : Array Slot), q_W E (kO E (va_up f tk (some (cCook tr b9 w9))) tr bt9 hdt9 vt9) n H → va_S (q_ge E) s.heap H locs → lv_has ls 3 [(0, .ref x), (1, .int (nI i)), (2, .int (nI h0))] → W p l e (headSpec wsX12_mostServings ({ frames := 240 + 0, cells := 0, slots := 0, locals := 9000 + 0 })).room s m ([.ref x, .int (nI i)] : List Value).toArray below meth c H locs 0 0 (MQ below (q_Qi E (fun r f1 n1 => z_best1 (fun h => decide ((RS i hd (upd v 1 (nI h), 0, (-1))).1 7 = v 7)) 12 = r ∧ (∃ (bt1 : Nat) (hdt1 vt1 : q_V) (b1 w1 : Int32), kO E (va_up f tk (some (cCook tr b1 w1))) tr bt1 hdt1 vt1 = f1) ∧ n = n1)) ([.ref x, .int (nI i)] : List Value).toArray s 0 0 (q_ge E)) (F0 m 8 ls []) := by
    intro fu
    induction fu with
    | zero =>
      intro h0 bt9 hdt9 vt9 b9 w9 h61 hbest hm
      exact absurd hm (Nat.not_lt_zero _)
    | succ fu ih =>
      intro h0 bt9 hdt9 vt9 b9 w9 h61 hbest hm H locs ls hW hS hl
      refine lv_iload_n hx hb dX12_mostServings_8 rfl (lv_at hl 2 rfl) ?_
      refine lv_iconst (v := 1) hx hb dX12_mostServings_9 (by decide) ?_
      refine lv_icmp_lt (tgt := 60) hx hb dX12_mostServings_10 (by decide) (fun c_10 => ?_) (fun c_10 => ?_)
      · have e0 : h0 = 0 := by rcases Nat.eq_zero_or_pos h0 with h9 | h9; exact h9; exact absurd c_10 (nI_nlt (a := h0) (b := 1) (by omega) (by omega))
        refine lv_iconst (v := (-1)) hx hb dX12_mostServings_60 (by decide) ?_
        exact q_iret hx hb hr hlocks hW hS ⟨hbest.trans (by rw [e0]; rfl), ⟨_, _, _, _, _, rfl⟩, rfl⟩ (Nat.le_of_ble_eq_true rfl) (Nat.le_of_ble_eq_true rfl) dX12_mostServings_61
      · obtain ⟨q9, rfl⟩ : ∃ q, h0 = q + 1 := by rcases Nat.eq_zero_or_pos h0 with h9 | h9; subst h9; exact absurd (by decide) c_10; exact ⟨h0 - 1, by omega⟩
        refine lv_aload_n hx hb dX12_mostServings_13 rfl (lv_at hl 0 rfl) ?_
        refine q_get hx hb hts hown hA hW iX12 ((kO_out hxt).trans (q_ne (by omega) hX)) rfl 4 (by decide) (hts (.fieldLink RX12 39 "HighRecipes" "trial" "LHighRecipes$Kitchen;") (by decide +kernel)) (fun _ h9 => h9) (v := .ref tr) rfl dX12_mostServings_14 ?_
        refine lv_aload_n hx hb dX12_mostServings_17 rfl (lv_at hl 0 rfl) ?_
        refine q_get hx hb hts hown hA hW iX12 ((kO_out hxt).trans (q_ne (by omega) hX)) rfl 2 (by decide) (hts (.fieldLink RX12 26 "HighRecipes" "kitchen" "LHighRecipes$Kitchen;") (by decide +kernel)) (fun _ h9 => h9) (v := .ref k) rfl dX12_mostServings_18 ?_
        refine q_cv (va_runV (As := [.ref k]) (rest := []) ⟨hx, hb, hml, hown, hts⟩ (kX6_become l E (kO E (va_up f tk (some (cCook tr b9 w9))) tr bt9 hdt9 vt9) n tr bt9 hdt9 vt9 k bk hd v pn (nI rc) ac ((kO_out hbt).trans (q_ne (by omega) hB)) kO_K (hk.other (fun q hq => (kO_out (by unfold kOut at *; omega)).trans (va_up_ne _ _ (by unfold kOut at *; omega)))) hbt hbo hdis (by assumption)) (cwV 1 hts gX12_mostServings_X6_become rfl rfl rfl (by decide +kernel) ⟨(by show 2 + 1 ≤ 240 + 0; omega), (by show 8 + (5 + 11) + 41 ≤ 9000 + 0; omega)⟩) (q_pV hA hW hS (ci := 6) rfl kO_0) rfl rfl hl.1 rfl (lv_room (Nat.le_of_ble_eq_true rfl)) dX12_mostServings_21 ⟨Nat.le_of_ble_eq_true rfl, Nat.le_of_ble_eq_true rfl⟩) hS (fun f_21 n_21 H locs hp hW hS => ?_)
        obtain ⟨rfl, rfl⟩ := hp
        rw [kO_kO] at hW
        have hW : q_W E (kO E (va_up f tk (some (cCook tr b9 w9))) tr bk (z_hdn hdt9 hd pn) (z_bec vt9 v pn)) n H := hW
        refine lv_aload_n hx hb dX12_mostServings_24 rfl (lv_at hl 0 rfl) ?_
        refine q_get hx hb hts hown hA hW iX12 ((kO_out hxt).trans (q_ne (by omega) hX)) rfl 4 (by decide) (hts (.fieldLink RX12 39 "HighRecipes" "trial" "LHighRecipes$Kitchen;") (by decide +kernel)) (fun _ h9 => h9) (v := .ref tr) rfl dX12_mostServings_25 ?_
        refine lv_iload_n hx hb dX12_mostServings_28 rfl (lv_at hl 2 rfl) ?_
        refine q_putN hx hb hts hown hA hW hS iX6 tyX6 tyX6_ok nmX6 kO_0 rfl 6 (by decide) (va_Nw.use rfl (hA.2.2.2.1 ("HighRecipes", 100, "HighRecipes$Kitchen", "servings", "I", "HighRecipes") (by decide +kernel))) (fun _ h9 => h9) rfl rfl rfl (Nat.le_of_ble_eq_true rfl) dX12_mostServings_29 (fun H locs hW hS => ?_)
        have hW : q_W E (va_up (kO E (va_up f tk (some (cCook tr b9 w9))) tr bk (z_hdn hdt9 hd pn) (z_bec vt9 v pn)) tr (some (cKit tr bk (upd (z_bec vt9 v pn) 1 (nI (q9 + 1)))))) n H := hW
        rw [kO_s0 (fun j hj => z_un (by omega))] at hW
        refine lv_aload_n hx hb dX12_mostServings_32 rfl (lv_at hl 0 rfl) ?_
        refine q_get hx hb hts hown hA hW iX12 ((kO_out hxt).trans (q_ne (by omega) hX)) rfl 5 (by decide) (hts (.fieldLink RX12 42 "HighRecipes" "trying" "LHighRecipes$Cooking;") (by decide +kernel)) (fun _ h9 => h9) (v := .ref tk) rfl dX12_mostServings_33 ?_
        refine lv_iload_n hx hb dX12_mostServings_36 rfl (lv_at hl 1 rfl) ?_
        refine q_ci (va_runV (As := [.int (nI i)]) (rest := []) ⟨hx, hb, hml, hown, hts⟩ (kX3_run l E (kO E (va_up f tk (some (cCook tr b9 w9))) tr bk (z_hdn hdt9 hd pn) (upd (z_bec vt9 v pn) 1 (nI (q9 + 1)))) n tk tr bk (z_hdn hdt9 hd pn) (upd (z_bec vt9 v pn) 1 (nI (q9 + 1))) w9 pn (nI rc) ac b9 g BB lo hi i RS ((kO_out htk).trans q_eq) ((kO_out hbt).trans (q_ne (by omega) hB)) ((kO_out hbt4).trans (q_ne (by omega) hG)) kO_K hbt (by assumption) htk hbt4 (by assumption) (by assumption) (by assumption) (by assumption) (k_inv_up1 (k_inv_bec hinv)) (by omega) (fun r9 h9 => rep_RS (fun q h1 h2 => (kO_out (hreg q h1 h2).1).trans (va_up_ne _ _ (hreg q h1 h2).2)) hRS r9 (by omega))) (cwV 1 hts gX12_mostServings_X3_run rfl rfl rfl (by decide +kernel) ⟨(by show (5 * (6 + 6 * i) + 25) + 1 ≤ 240 + 0; omega), (by show 8 + (3 + 11) + (200 * (6 + 6 * i) + 1200) ≤ 9000 + 0; omega)⟩) (q_pV hA hW hS (ci := 4) rfl ((kO_out htk).trans q_eq)) rfl rfl hl.1 rfl (lv_room (Nat.le_of_ble_eq_true rfl)) dX12_mostServings_37 ⟨Nat.le_of_ble_eq_true rfl, Nat.le_of_ble_eq_true rfl⟩) hS (fun r_37 f_37 n_37 H locs hp hW hS => ?_)
        obtain ⟨rfl, rfl, rfl⟩ := hp
        have hW : q_W E (kO E (va_up (kO E (va_up f tk (some (cCook tr b9 w9))) tr bk (z_hdn hdt9 hd pn) (upd (z_bec vt9 v pn) 1 (nI (q9 + 1)))) tk (some (cCook tr (nI (RS i (z_hdn hdt9 hd pn) ((upd (z_bec vt9 v pn) 1 (nI (q9 + 1))), 0, (-1))).2.1) ((RS i (z_hdn hdt9 hd pn) ((upd (z_bec vt9 v pn) 1 (nI (q9 + 1))), 0, (-1))).2.2)))) tr bk (z_hdn hdt9 hd pn) ((RS i (z_hdn hdt9 hd pn) ((upd (z_bec vt9 v pn) 1 (nI (q9 + 1))), 0, (-1))).1)) n H := hW
        rw [kO_iu htk] at hW
        rw [q_upup] at hW
        rw [kO_kO] at hW
        have hW : q_W E (kO E (va_up f tk (some (cCook tr (nI (RS i (z_hdn hdt9 hd pn) ((upd (z_bec vt9 v pn) 1 (nI (q9 + 1))), 0, (-1))).2.1) ((RS i (z_hdn hdt9 hd pn) ((upd (z_bec vt9 v pn) 1 (nI (q9 + 1))), 0, (-1))).2.2)))) tr bk (z_hdn hdt9 hd pn) ((RS i (z_hdn hdt9 hd pn) ((upd (z_bec vt9 v pn) 1 (nI (q9 + 1))), 0, (-1))).1)) n H := hW
        refine lv_pop hx hb dX12_mostServings_40 rfl ?_
        refine lv_aload_n hx hb dX12_mostServings_41 rfl (lv_at hl 0 rfl) ?_
        refine q_get hx hb hts hown hA hW iX12 ((kO_out hxt).trans (q_ne (by omega) hX)) rfl 4 (by decide) (hts (.fieldLink RX12 39 "HighRecipes" "trial" "LHighRecipes$Kitchen;") (by decide +kernel)) (fun _ h9 => h9) (v := .ref tr) rfl dX12_mostServings_42 ?_
        refine lv_iconst (v := 1) hx hb dX12_mostServings_45 (by decide) ?_
        refine q_ci (va_runV (As := [.int 1]) (rest := []) ⟨hx, hb, hml, hown, hts⟩ (kX6_warningsOfKind l E (kO E (va_up f tk (some (cCook tr (nI (RS i (z_hdn hdt9 hd pn) ((upd (z_bec vt9 v pn) 1 (nI (q9 + 1))), 0, (-1))).2.1) ((RS i (z_hdn hdt9 hd pn) ((upd (z_bec vt9 v pn) 1 (nI (q9 + 1))), 0, (-1))).2.2)))) tr bk (z_hdn hdt9 hd pn) ((RS i (z_hdn hdt9 hd pn) ((upd (z_bec vt9 v pn) 1 (nI (q9 + 1))), 0, (-1))).1)) n tr bk (z_hdn hdt9 hd pn) ((RS i (z_hdn hdt9 hd pn) ((upd (z_bec vt9 v pn) 1 (nI (q9 + 1))), 0, (-1))).1) 1 kO_K (by decide)) (cwV 1 hts gX12_mostServings_X6_warningsOfKind rfl rfl rfl (by decide +kernel) ⟨(by show 0 + 1 ≤ 240 + 0; omega), (by show 8 + (2 + 11) + 0 ≤ 9000 + 0; omega)⟩) (q_pV hA hW hS (ci := 6) rfl kO_0) rfl rfl hl.1 rfl (lv_room (Nat.le_of_ble_eq_true rfl)) dX12_mostServings_46 ⟨Nat.le_of_ble_eq_true rfl, Nat.le_of_ble_eq_true rfl⟩) hS (fun r_46 f_46 n_46 H locs hp hW hS => ?_)
        obtain ⟨rfl, rfl, rfl⟩ := hp
        have hW : q_W E (kO E (va_up f tk (some (cCook tr (nI (RS i (z_hdn hdt9 hd pn) ((upd (z_bec vt9 v pn) 1 (nI (q9 + 1))), 0, (-1))).2.1) ((RS i (z_hdn hdt9 hd pn) ((upd (z_bec vt9 v pn) 1 (nI (q9 + 1))), 0, (-1))).2.2)))) tr bk (z_hdn hdt9 hd pn) ((RS i (z_hdn hdt9 hd pn) ((upd (z_bec vt9 v pn) 1 (nI (q9 + 1))), 0, (-1))).1)) n H := hW
        refine lv_if_ne (tgt := 54) hx hb dX12_mostServings_49 (by decide) (fun c_49 => ?_) (fun c_49 => ?_)
        · have eh : z_best1 (fun h => decide ((RS i hd (upd v 1 (nI h), 0, (-1))).1 7 = v 7)) (q9 + 1) = z_best1 (fun h => decide ((RS i hd (upd v 1 (nI h), 0, (-1))).1 7 = v 7)) q9 := if_neg (fun h9 => c_49 ((t_most (h := q9 + 1) (hdt := hdt9) (vt := vt9) hsb hB29 hinv).2 (of_decide_eq_true h9)))
          refine lv_iinc (v := nI q9) (lv' := [(2, .int (nI q9)), (0, .ref x), (1, .int (nI i))]) hx hb dX12_mostServings_54 hl (k := 2) rfl ((i_subm (q9 + 1)).trans (nI_pm q9)) (by decide) rfl (fun ls hl => ?_)
          refine lv_goto (tgt := 8) hx hb dX12_mostServings_57 (by decide) ?_
          exact ih q9 bk (z_hdn hdt9 hd pn) ((RS i (z_hdn hdt9 hd pn) ((upd (z_bec vt9 v pn) 1 (nI (q9 + 1))), 0, (-1))).1) (nI (RS i (z_hdn hdt9 hd pn) ((upd (z_bec vt9 v pn) 1 (nI (q9 + 1))), 0, (-1))).2.1) ((RS i (z_hdn hdt9 hd pn) ((upd (z_bec vt9 v pn) 1 (nI (q9 + 1))), 0, (-1))).2.2) (by omega) (hbest.trans eh) (by omega) _ _ _ hW hS (lv_sub hl [1, 2, 0] rfl)
        · have eh : z_best1 (fun h => decide ((RS i hd (upd v 1 (nI h), 0, (-1))).1 7 = v 7)) (q9 + 1) = nI (q9 + 1) := if_pos (decide_eq_true ((t_most (h := q9 + 1) (hdt := hdt9) (vt := vt9) hsb hB29 hinv).1 c_49))
          refine lv_iload_n hx hb dX12_mostServings_52 rfl (lv_at hl 2 rfl) ?_
          exact q_iret hx hb hr hlocks hW hS ⟨hbest.trans eh, ⟨_, _, _, _, _, rfl⟩, rfl⟩ (Nat.le_of_ble_eq_true rfl) (Nat.le_of_ble_eq_true rfl) dX12_mostServings_53
  rw [← q_id hc] at hW
  have hW : q_W E (kO E (va_up f tk (some (cCook tr b0 w))) tr bt hdt vt) n H := hW
  exact K8 _ 12 bt hdt vt b0 w (Nat.le_refl _) rfl (Nat.lt_succ_self _) _ _ _ hW hS (lv_sub hl [1, 2, 0] rfl)

