/-! the class is taught a text -/
theorem bgn_0 {v : q_V} {j q : Nat} (h : q < 12) : z_bgn v j q = z_ini q := by
  unfold z_bgn z_ini
  by_cases h1 : q = 1
  · rw [if_pos h1, if_pos h1]
  · rw [if_neg h1, if_neg h1]
    by_cases h2 : q = 2
    · rw [if_pos h2, if_pos h2]
    · rw [if_neg h2, if_neg h2, if_pos h, if_neg (by omega)]
theorem bgn_p {v : q_V} {j q : Nat} (h : 52 ≤ q) (h2 : q < 52 + 4 * j) : z_bgn v j q = z_ini q := by
  have a1 : z_bgn v j q = if q % 4 = 2 then 20 else 0 := by
    unfold z_bgn
    rw [if_neg (by omega), if_neg (by omega), if_neg (by omega), if_pos ⟨h, h2⟩]
  have a2 : z_ini q = if 54 ≤ q ∧ q % 4 = 2 then 20 else 0 := by
    unfold z_ini
    rw [if_neg (by omega), if_neg (by omega)]
  rw [a1, a2]
  by_cases h3 : q % 4 = 2
  · rw [if_pos h3, if_pos ⟨by omega, h3⟩]
  · rw [if_neg h3, if_neg (fun h9 => h3 h9.2)]
theorem inv_bgn {B pn : Nat} {v : q_V} (hB : 100 ≤ B) : k_inv B (z_bgn v pn, 0, (-1)) := k_inv_0 hB ((bgn_0 (by decide)).trans rfl) ((bgn_0 (by decide)).trans rfl)
/-- what a text tells, whatever lay on the tape behind it -/
def TOLD (TW : List Int32) (pn NR ac : Nat) (hd : q_V) (RS : Nat → q_S) : Prop := ∀ (g : Nat → Int32) (et n : Nat), (∀ j, j < TW.length → g j = tx TW j) → (b_P (t_K g TW.length) (t_W g TW.length) et n).2.1 = pn ∧ (∀ j, j < pn → (b_P (t_K g TW.length) (t_W g TW.length) et n).2.2.2 j = hd j) ∧ (b_R (t_K g TW.length) (t_W g TW.length) et n).2.1 = NR ∧ (∀ r, r < NR → (b_R (t_K g TW.length) (t_W g TW.length) et n).2.2.2 r = RS r) ∧ (BKp (t_K g TW.length) (t_W g TW.length) et n).2.2.1 = 0 ∧ (BKp (t_K g TW.length) (t_W g TW.length) et n).2.2.2.2.1 = ac

set_option maxHeartbeats 2000000 in
theorem cm_teach (l : Launch) (E : q_E) (f : q_H) (n a BB L : Nat) (g : Nat → Int32) (pn rc : Nat) (ac : Int32) (hd v : q_V) (RS : Nat → q_S) (Q : Nat → Prop) (TW : List Int32) (pn2 NR ac2 : Nat) (hd2 : q_V) (RS2 : Nat → q_S) (hM : CM E a BB f n L g pn rc ac hd v RS Q) (hL : L = TW.length) (hg : ∀ j, j < TW.length → g j = tx TW j) (hT : TOLD TW pn2 NR ac2 hd2 RS2) (hsb : ∀ i, i < NR → s_blk pn2 (RS2 i)) (hpn2 : pn2 ≤ 8) (hNR6 : NR ≤ 6) : Met l yX12_teach wsX12_teach ({ frames := 120, cells := 420, slots := 3780, locals := 1900 }) (q_P E [.ref a] f n) (q_Qi E (fun r0 f1 n1 => 0 = r0 ∧ (∃ (hd' : q_V) (RS' : Nat → q_S), (∀ j, j < pn2 → hd' j = hd2 j) ∧ (∀ r, r < NR → RS' r = RS2 r) ∧ CM E a 100 f1 n1 0 g pn2 NR (nI ac2) hd' (z_bgn v pn2) RS' (fun q => (a ≤ q ∧ q < a + 55) ∨ (n ≤ q ∧ q < n1))) ∧ n ≤ n1 ∧ ∀ q, (q < a ∨ a + 55 ≤ q) → q < n → f1 q = f q)) 420 3780 (q_ge E) := by
  obtain ⟨ep, bk0, et, er0, c0, here0, k0, kk0, po0, wo0, b0, w0, b1, w1, bk, gB, bt, hdt, vt, lo_, hi_, hF, ⟨p1, p2, p3, p4, p5, p6, p7, p8, p9⟩, hs, hQ⟩ := hM
  have hF0 := hF
  obtain ⟨c1, c2, c3, c4, c5, c6, c7, c8, c9, c10, c12, c13, k1, k2, s1⟩ := hF0
  refine met_imp (kX12_teach l E f n (hX := c1) (hT := c2) (hT1 := c3) (p0 := c4) (p1 := c5) (p2 := c6) (p3 := c7) (p4 := c8) (hk := k1) (hL := p1) (hlay := ⟨by omega, by omega, by omega, by omega⟩)) (q_Qi.imp ?_)
  rintro r0 f1 n1 ⟨rfl, ⟨F8, T, kk, po, wo, gb, q0, q1, q2, q3, q4, qb, qb2, qb4, fr8, hp8, hr6, hRS8, hG⟩, hn1⟩
  have hrb := room_book (g := g) (L := L) (et := et) (n := n + 5)
  rw [hn1] at hrb
  obtain ⟨z1, z2, z3, z4, z5, z6⟩ := hT g et (n + 5) hg
  rw [← hL] at z1 z2 z3 z4 z5 z6
  have hRS9 := hRS8 z5
  rw [if_pos z5, if_pos z5] at hG
  obtain ⟨U, hU⟩ : ∃ U : q_H, U = va_up (va_up F8 a (some (rX12 (some (a + 1)) (some (a + 3)) (some (a + 13)) (some (a + 33)) (some (a + 34)) (some (a + 54)) (-1)))) (a + 1) (some (cTape (a + 1) 0)) := ⟨_, rfl⟩
  have u1 : U a = some (rX12 (some (a + 1)) (some (a + 3)) (some (a + 13)) (some (a + 33)) (some (a + 34)) (some (a + 54)) (-1)) := by rw [hU]; exact (va_up_ne _ _ (by omega)).trans q_eq
  have u2 : U (a + 1) = some (cTape (a + 1) (nI 0)) := by rw [hU]; exact q_eq
  have u3 : ∀ q, q ≠ a → q ≠ a + 1 → U q = F8 q := fun q h1 h2 => by rw [hU]; exact (va_up_ne _ _ h2).trans (va_up_ne _ _ h1)
  have u4 : ∀ q, q < n → q ≠ a → q ≠ a + 1 → (q < a + 3 ∨ a + 7 < q) → U q = f q := fun q h0 h1 h2 h3 => (u3 q h1 h2).trans (fr8 q h0 (by omega))
  rw [← hU] at hG
  have g1 : ∀ q, kOut (a + 13) q → f1 q = U q := fun q hq => by rw [← hG]; exact kO_out hq
  have kz : ∀ q, q < n → q ≠ a → q ≠ a + 1 → (q < a + 3 ∨ a + 7 < q) → kOut (a + 13) q → f1 q = f q := fun q h0 h1 h2 h3 h4 => (g1 q h4).trans (u4 q h0 h1 h2 h3)
  have qn : ∀ q, q ≠ a → q ≠ a + 1 → kOut (a + 13) q → f1 q = F8 q := fun q h1 h2 h4 => (g1 q h4).trans (u3 q h1 h2)
  have kit1 : KIT E f1 (a + 13) n (z_hdn hd (b_P (t_K g L) (t_W g L) et (n + 5)).2.2.2 (b_P (t_K g L) (t_W g L) et (n + 5)).2.1) (z_bgn v (b_P (t_K g L) (t_W g L) et (n + 5)).2.1) := by rw [← hG]; exact kO_K
  rw [z1] at kit1 hRS9
  rw [z3, hn1] at hRS9
  rw [z1, z3] at qb
  rw [z6] at qb
  have jF : JF E a f1 (-1) 0 g n (BKp (t_K g L) (t_W g L) et (n + 5)).2.2.2.1 (nI (BKp (t_K g L) (t_W g L) et (n + 5)).2.2.1) (nI (T + 1)) (nI (BKp (t_K g L) (t_W g L) et (n + 5)).1) (BKp (t_K g L) (t_W g L) et (n + 5)).2.1 kk po wo b0 w0 b1 w1 n pn2 NR (nI ac2) gb (z_hdn hd (b_P (t_K g L) (t_W g L) et (n + 5)).2.2.2 pn2) (z_bgn v pn2) bt hdt vt (n + 5) n1 (b_R (t_K g L) (t_W g L) et (n + 5)).2.2.2 := ⟨(g1 _ (by unfold kOut; omega)).trans u1, (g1 _ (by unfold kOut; omega)).trans u2, (kz _ (by omega) (by omega) (by omega) (by omega) (by unfold kOut; omega)).trans c3, (qn _ (by omega) (by omega) (by unfold kOut; omega)).trans q0, (qn _ (by omega) (by omega) (by unfold kOut; omega)).trans q1, (qn _ (by omega) (by omega) (by unfold kOut; omega)).trans q2, (qn _ (by omega) (by omega) (by unfold kOut; omega)).trans q3, (qn _ (by omega) (by omega) (by unfold kOut; omega)).trans q4, (kz _ (by omega) (by omega) (by omega) (by omega) (by unfold kOut; omega)).trans c9, (kz _ (by omega) (by omega) (by omega) (by omega) (by unfold kOut; omega)).trans c10, (qn _ (by omega) (by omega) (by unfold kOut; omega)).trans qb, (qn _ (by omega) (by omega) (by unfold kOut; omega)).trans qb4, kit1, k2.other (fun q hq => kz q (by unfold kOut at hq; omega) (by unfold kOut at hq; omega) (by unfold kOut at hq; omega) (by unfold kOut at hq; omega) (by unfold kOut at *; omega)), rep_RS (fun q h1 h2 => qn q (by omega) (by omega) (by unfold kOut; omega)) hRS9⟩
  refine ⟨by rw [z5]; rfl, ⟨z_hdn hd (b_P (t_K g L) (t_W g L) et (n + 5)).2.2.2 pn2, (b_R (t_K g L) (t_W g L) et (n + 5)).2.2.2, fun j hj => (if_pos hj).trans (z2 j hj), z4, _, _, _, _, _, _, _, _, _, _, _, _, _, _, _, _, _, _, _, _, _, jF, ⟨Nat.zero_le _, hpn2, hNR6, Or.inr (by omega), by omega, Nat.le_refl _, by omega, by omega, inv_bgn (Nat.le_refl _)⟩, fun i hi => by rw [z4 i hi]; exact hsb i hi, fun q hq => by rcases hq with h8 | h8 | h8 | h8 <;> omega⟩, by omega, fun q hq hqn => ?_⟩
  exact kz q hqn (by omega) (by omega) (by omega) (by unfold kOut; omega)

/-! class and law's kitchen side by side -/
/-- what is known of a kitchen's row -/
def VG (BB pn : Nat) (hd v : q_V) : Prop := w_ok pn hd v ∧ w_sum v ∧ k_inv BB (v, 0, (-1))
theorem VG.more {BB BC pn : Nat} {hd v : q_V} (h : VG BB pn hd v) (hB : BB ≤ BC) : VG BC pn hd v := ⟨h.1, h.2.1, k_inv_more h.2.2 hB⟩
theorem VG.row {BB pn : Nat} {hd v w : q_V} (h : VG BB pn hd v) (hw : w_ok pn hd w) (hq : ∀ q, 4 ≤ q → q < 32 → w q = v q) : VG BB pn hd w := ⟨hw, h.2.1.same (fun q h1 h2 _ => hq q h1 h2), k_inv_k h.2.2 (hq 4 (by decide) (by decide)) (hq 5 (by decide) (by decide))⟩
theorem mv_nI {x al : Nat} (h : x ≤ 100) (ha : al ≤ 60) : q_min (nI x) (z_boil (nI al)) = nI (min x (100 - al / 3)) := by
  rw [boil_nI ha]
  exact min_nI (by omega) (by omega)
theorem VG.move {BB pn al : Nat} {hd v : q_V} (h : VG BB pn hd v) (hal : al ≤ 60) : VG BB pn hd (z_move v (nI al) pn) := by
  have e : ∀ q, q ≠ 0 → ¬ (54 ≤ q ∧ q % 4 = 2 ∧ (q - 54) / 4 < pn ∧ 0 < v (q - 2)) → z_move v (nI al) pn q = v q := fun q h0 h1 => by
    unfold z_move
    rw [if_neg h0, if_neg h1]
  refine h.row ⟨⟨al, hal, rfl⟩, ?_, ?_, ⟨?_, ?_⟩, fun i hi => ?_⟩ (fun q h1 h2 => e q (by omega) (by omega))
  · rw [e 1 (by decide) (by omega)]; exact h.1.2.1
  · rw [e 2 (by decide) (by omega)]; exact h.1.2.2.1
  · unfold k_T; rw [e 4 (by decide) (by omega)]; exact h.1.2.2.2.1.1
  · unfold k_N; rw [e 5 (by decide) (by omega)]; exact h.1.2.2.2.1.2
  · obtain ⟨x, a, m, t, d, e1, e2, e3, e4, e5, b1, b2, b3, b4, b5, b6⟩ := h.1.2.2.2.2 i hi
    by_cases h0 : 0 < v (52 + 4 * i)
    · refine ⟨x, a, m, min t (100 - al / 3), d, e1, ?_, ?_, ?_, ?_, b1, b2, by omega, by omega, b5, b6⟩
      · rw [e _ (by omega) (by omega)]; exact e2
      · rw [e _ (by omega) (by omega)]; exact e3
      · unfold z_move
        rw [if_neg (by omega), if_pos ⟨by omega, by omega, by omega, by rw [show 54 + 4 * i - 2 = 52 + 4 * i by omega]; exact h0⟩, e4]
        exact mv_nI b4 hal
      · rw [e _ (by omega) (by omega)]; exact e5
    · refine ⟨x, a, m, t, d, e1, ?_, ?_, ?_, ?_, b1, b2, b3, b4, b5, b6⟩
      · rw [e _ (by omega) (by omega)]; exact e2
      · rw [e _ (by omega) (by omega)]; exact e3
      · rw [e _ (by omega) (fun h9 => h0 (by have h8 := h9.2.2.2; rw [show 54 + 4 * i - 2 = 52 + 4 * i by omega] at h8; exact h8))]; exact e4
      · rw [e _ (by omega) (by omega)]; exact e5
theorem VG.serv {BB pn x : Nat} {hd v : q_V} (h : VG BB pn hd v) (h1 : 1 ≤ x) (h2 : x ≤ 12) : VG BB pn hd (upd v 1 (nI x)) := by
  have e : ∀ q, q ≠ 1 → upd v 1 (nI x) q = v q := fun q hq => if_neg hq
  refine h.row ⟨?_, ⟨x, h1, h2, if_pos rfl⟩, ?_, ⟨?_, ?_⟩, fun i hi => ?_⟩ (fun q h1 h2 => e q (by omega))
  · rw [e 0 (by decide)]; exact h.1.1
  · rw [e 2 (by decide)]; exact h.1.2.2.1
  · unfold k_T; rw [e 4 (by decide)]; exact h.1.2.2.2.1.1
  · unfold k_N; rw [e 5 (by decide)]; exact h.1.2.2.2.1.2
  · rw [e _ (by omega), e _ (by omega), e _ (by omega), e _ (by omega)]; exact h.1.2.2.2.2 i hi
theorem VG.spoon {BB pn x : Nat} {hd v : q_V} (h : VG BB pn hd v) (h1 : 1 ≤ x) (h2 : x ≤ 10) : VG BB pn hd (upd v 2 (nI x)) := by
  have e : ∀ q, q ≠ 2 → upd v 2 (nI x) q = v q := fun q hq => if_neg hq
  refine h.row ⟨?_, ?_, ⟨x, h1, h2, if_pos rfl⟩, ⟨?_, ?_⟩, fun i hi => ?_⟩ (fun q h1 h2 => e q (by omega))
  · rw [e 0 (by decide)]; exact h.1.1
  · rw [e 1 (by decide)]; exact h.1.2.1
  · unfold k_T; rw [e 4 (by decide)]; exact h.1.2.2.2.1.1
  · unfold k_N; rw [e 5 (by decide)]; exact h.1.2.2.2.1.2
  · rw [e _ (by omega), e _ (by omega), e _ (by omega), e _ (by omega)]; exact h.1.2.2.2.2 i hi
theorem VG.fill {BB pn i c : Nat} {bb : Int32} {hd v : q_V} (h : VG BB pn hd v) (hi : i < pn) (hc : c ≤ 13000) : VG BB pn hd (z_fillv hd v i bb (nI c)) := h.row (h.1.fill hi hc) (fun q h1 h2 => z_fillv_n (by omega))
theorem VG.wash {BB pn i : Nat} {hd v : q_V} (h : VG BB pn hd v) (hi : i < pn) : VG BB pn hd (z_pan v i 0 0 20 0) := by
  obtain ⟨x, a, m, t, d, e1, e2, e3, e4, e5, b1, b2, b3, b4, b5, b6⟩ := id (h.1.2.2.2.2 i hi)
  exact h.row (h.1.pan (fun _ => ⟨x, 0, 0, 20, 0, e1, rfl, rfl, rfl, rfl, b1, by omega, by decide, by decide, by decide, fun _ => rfl⟩)) (fun q h1 h2 => z_pan_n (by omega))
theorem VG.pass {BB pn c but : Nat} {hd v : q_V} (h : VG BB pn hd v) (hc : c ≤ 4000) : VG BB pn hd (z_pass v (nI c) but pn) := h.row (h.1.pass hc) (fun q h1 h2 => z_pass_lo (by omega) (by omega))
theorem VG.cook {E : q_E} {f : q_H} {re NR pn BB r : Nat} {RS : Nat → q_S} {P : Nat → Prop} {hd v : q_V} (hR : RCS E f re NR pn RS P NR) (h : VG BB pn hd v) (hB : BB ≤ 2 ^ 29) (hr : r < NR) : VG (BB + 100) pn hd (RS r hd (v, 0, (-1))).1 := by
  obtain ⟨e1, e2⟩ := RCS.ev hR r hr
  obtain ⟨a1, a2, a3⟩ := e1 BB hd (v, 0, (-1)) hB h.2.2 h.1
  obtain ⟨b1, b2, b3, b4⟩ := e2 BB hd (v, 0, (-1)) hB h.2.2 h.1
  exact ⟨a2, b3 h.2.1, k_inv_cook a1⟩
theorem LK.fr {E : q_E} {f g : q_H} {k pa re ki wa no pn : Nat} {pr : Nat → Nat} {hd v : q_V} {b : Nat} {w : Int32} (h : LK E f k pa re ki wa no pn pr hd v b w) (hg : ∀ q, (q = k ∨ q = pa ∨ q = ki ∨ q = wa ∨ q = no ∨ ∃ i, i < pn ∧ q = pr i) → f q ≠ none → g q = f q) : LK E g k pa re ki wa no pn pr hd v b w := by
  obtain ⟨h1, ⟨gk, h2, h2'⟩, ⟨gw, h3, h3'⟩, ⟨gn, h4, h4'⟩, ⟨gp, h5, h5'⟩, h6⟩ := h
  have t : ∀ q x, (q = k ∨ q = pa ∨ q = ki ∨ q = wa ∨ q = no ∨ ∃ i, i < pn ∧ q = pr i) → f q = some x → g q = some x := fun q x hq e => (hg q hq (by rw [e]; exact Option.some_ne_none _)).trans e
  refine ⟨t _ _ (Or.inl rfl) h1, ⟨gk, t _ _ (Or.inr (Or.inr (Or.inl rfl))) h2, h2'⟩, ⟨gw, t _ _ (Or.inr (Or.inr (Or.inr (Or.inl rfl)))) h3, h3'⟩, ⟨gn, t _ _ (Or.inr (Or.inr (Or.inr (Or.inr (Or.inl rfl))))) h4, h4'⟩, ⟨gp, t _ _ (Or.inr (Or.inl rfl)) h5, h5'⟩, fun j hj => ?_⟩
  obtain ⟨gr, e1, r⟩ := h6 j hj
  exact ⟨gr, t _ _ (Or.inr (Or.inr (Or.inr (Or.inr (Or.inr ⟨j, hj, rfl⟩))))) e1, r⟩
theorem LK.rows {E : q_E} {f : q_H} {k pa re ki wa no pn : Nat} {pr : Nat → Nat} {hd hd' v v' : q_V} {b : Nat} {w : Int32} (h : LK E f k pa re ki wa no pn pr hd v b w) (hh : ∀ i, i < pn → hd' i = hd i) (hq : ∀ q, q < 12 → v' q = v q) (hp : ∀ q, 52 ≤ q → q < 52 + 4 * pn → v' q = v q) (hT : k_T v = 0) (hN : k_N v = 0) : LK E f k pa re ki wa no pn pr hd' v' b w := by
  obtain ⟨h1, ⟨gk, h2, h2'⟩, ⟨gw, h3, h3'⟩, ⟨gn, h4, h4'⟩, ⟨gp, h5, h5'⟩, h6⟩ := h
  have eT : k_T v' = k_T v := by unfold k_T; rw [hq 4 (by decide)]
  have eN : k_N v' = k_N v := by unfold k_N; rw [hq 5 (by decide)]
  refine ⟨by rw [hq 0 (by decide), hq 1 (by decide), hq 2 (by decide), hq 3 (by decide), hq 5 (by decide)]; exact h1, ⟨gk, h2, fun j hj => by rw [hq _ (by omega)]; exact h2' j hj⟩, ⟨gw, by rw [eT]; exact h3, fun j hj => by rw [eT, hT] at hj; exact absurd hj (by omega)⟩, ⟨gn, by rw [eN]; exact h4, fun j hj => by rw [eN, hN] at hj; exact absurd hj (by omega)⟩, ⟨gp, h5, h5'⟩, fun j hj => ?_⟩
  obtain ⟨gr, e1, e2, e3, e4, e5, e6⟩ := h6 j hj
  exact ⟨gr, e1, by rw [hh j hj]; exact e2, by rw [hp _ (by omega) (by omega)]; exact e3, by rw [hp _ (by omega) (by omega)]; exact e4, by rw [hp _ (by omega) (by omega)]; exact e5, by rw [hp _ (by omega) (by omega)]; exact e6⟩
theorem RCS.rows {E : q_E} {f : q_H} {re NR pn : Nat} {RS RS' : Nat → q_S} {P : Nat → Prop} (h : RCS E f re NR pn RS P NR) (hr : ∀ r, r < NR → RS' r = RS r) : RCS E f re NR pn RS' P NR := by
  obtain ⟨g, a, b, c, c2, d⟩ := h
  refine ⟨g, a, b, c, c2, fun r hr9 => ?_⟩
  obtain ⟨b', L, e1, e2, e3, e4⟩ := d r hr9
  exact ⟨b', L, e1, LB.to (fun q hq => ⟨hq, rfl⟩) (fun x hx => LACT.to (fun q hq => ⟨hq, rfl⟩) (Nat.le_refl _) (fun q hq => hr q (by omega)) 4 x hx) e2, (hr r hr9).trans e3, e4⟩
def psum (c : Nat → Nat) : Nat → Nat
  | 0 => 0
  | j + 1 => psum c j + c j
/-- how many acts are in the recipes -/
def RCN (E : q_E) (f : q_H) (re NR pn : Nat) (RS : Nat → q_S) (P : Nat → Prop) (cnt : Nat → Nat) : Prop := ∃ gre, P re ∧ f re = some (aQ E 9 NR gre) ∧ ∀ r, r < NR → ∃ b L, gre r = some b ∧ LB P E f (LACT E pn r RS P f 4) b L ∧ bC L = cnt r ∧ bC L ≤ 20
theorem RCN.to {E : q_E} {f f1 : q_H} {re NR pn : Nat} {RS : Nat → q_S} {P : Nat → Prop} {cnt : Nat → Nat} (hf : ∀ q, P q → P q ∧ f1 q = f q) (h : RCN E f re NR pn RS P cnt) : RCN E f1 re NR pn RS P cnt := by
  obtain ⟨g, a, b, d⟩ := h
  refine ⟨g, a, (hf _ a).2.trans b, fun r hr => ?_⟩
  obtain ⟨b', L, e1, e2, e3, e4⟩ := d r hr
  exact ⟨b', L, e1, LB.to hf (fun x hx => LACT.to hf (Nat.le_refl _) (fun _ _ => rfl) 4 x hx) e2, e3, e4⟩
theorem RCN.rows {E : q_E} {f : q_H} {re NR pn : Nat} {RS RS' : Nat → q_S} {P : Nat → Prop} {cnt : Nat → Nat} (h : RCN E f re NR pn RS P cnt) (hr : ∀ r, r < NR → RS' r = RS r) : RCN E f re NR pn RS' P cnt := by
  obtain ⟨g, a, b, d⟩ := h
  refine ⟨g, a, b, fun r hr9 => ?_⟩
  obtain ⟨b', L, e1, e2, e3, e4⟩ := d r hr9
  exact ⟨b', L, e1, LB.to (fun q hq => ⟨hq, rfl⟩) (fun x hx => LACT.to (fun q hq => ⟨hq, rfl⟩) (Nat.le_refl _) (fun q hq => hr q (by omega)) 4 x hx) e2, e3, e4⟩
theorem psum_sh (c : Nat → Nat) : ∀ n, psum c (n + 1) = c 0 + psum (fun j => c (j + 1)) n
  | 0 => by show 0 + c 0 = c 0 + 0; omega
  | n + 1 => by show psum c (n + 1) + c (n + 1) = c 0 + (psum (fun j => c (j + 1)) n + c (n + 1)); rw [psum_sh c n]; omega
theorem psum_rc : ∀ C : List (List LT), psum (fun j => bC (C.getD j [])) C.length = rcC C
  | [] => rfl
  | L :: C => by
    show psum (fun j => bC ((L :: C).getD j [])) (C.length + 1) = bC L + rcC C
    rw [psum_sh, ← psum_rc C]
    rfl
theorem RCI.cn {E : q_E} {pn NR re : Nat} {P : Nat → Prop} {F : q_H} {RS : Nat → q_S} {gre : Nat → Option Nat} {Cs : List (List LT)} (h : RCI E pn P F RS gre Cs) (hl : Cs.length = NR) (hre : P re) (hf : F re = some (aQ E 9 NR gre)) (hc : rcC Cs ≤ 14) : RCN E F re NR pn RS P (fun j => bC (Cs.getD j [])) := by
  refine ⟨gre, hre, hf, fun r hr => ?_⟩
  have hL : Cs[r]? = some Cs[r] := List.getElem?_eq_getElem (by omega)
  obtain ⟨b, e1, e2, e3⟩ := h r _ hL
  exact ⟨b, _, e1, e2, by show bC Cs[r] = bC (Cs.getD r []); rw [List.getD_eq_getElem?_getD, hL]; rfl, Nat.le_trans (rcC_mem hL) (by omega)⟩
/-- the other class, as it happens to stand -/
def CW (E : q_E) (c : Nat) (f : q_H) (n : Nat) (Q : Nat → Prop) : Prop := ∃ (BB : Nat) (g : Nat → Int32) (pn rc : Nat) (ac : Int32) (hd v : q_V) (RS : Nat → q_S), CM E c BB f n 0 g pn rc ac hd v RS Q
/-- class and kitchen side by side: X is kept by all that is done -/
def JA (E : q_E) (a c nb r k : Nat) (s : Int32) (X : Nat → Prop) (f : q_H) (n BB pn NR : Nat) (ac : Int32) (hd vm vk : q_V) (RS : Nat → q_S) : Prop :=
  ∃ (Qm Qw P : Nat → Prop) (pa re ki wa no : Nat) (pr : Nat → Nat) (b : Nat) (w : Int32) (L : Nat) (g : Nat → Int32) (cnt : Nat → Nat), CM E a BB f n L g pn NR ac hd vm RS Qm ∧ CW E c f n Qw ∧ LK E f k pa re ki wa no pn pr hd vk b w ∧ LSp ki wa no pn pr ∧ RCS E f re NR pn RS P NR ∧ OFF k pa ki pn pr n (fun q => P q ∨ Qm q ∨ Qw q ∨ X q) ∧ f r = some (cDice s) ∧
  (nb ≤ k ∧ nb ≤ pa ∧ nb ≤ ki ∧ (∀ i, i < pn → nb ≤ pr i) ∧ ∀ q, P q → nb ≤ q) ∧ ((∀ q, Qm q ∨ X q → q < c ∨ c + 55 ≤ q) ∧ (∀ q, Qw q ∨ X q → q < a ∨ a + 55 ≤ q) ∧ ∀ q, Qm q ∨ Qw q ∨ X q → q ≠ r) ∧
  (a + 55 ≤ r ∧ c + 55 ≤ r ∧ r < nb) ∧ VG BB pn hd vm ∧ VG BB pn hd vk ∧ (1 ≤ pn ∧ pn ≤ 4 ∧ 1 ≤ NR ∧ NR ≤ 3 ∧ L = 0) ∧ RCN E f re NR pn RS P cnt ∧ ac = nI (psum cnt NR)

theorem JA.cell {E : q_E} {a c nb r k : Nat} {s : Int32} {X : Nat → Prop} {f : q_H} {n BB pn NR : Nat} {ac : Int32} {hd vm vk : q_V} {RS : Nat → q_S} (h : JA E a c nb r k s X f n BB pn NR ac hd vm vk RS) : ∃ tp pr k ck tr tk ep, f a = some (rX12 (some tp) (some pr) (some k) (some ck) (some tr) (some tk) ep) := by
  obtain ⟨Qm, Qw, P, pa, re, ki, wa, no, pr, b, w, L, g, cnt, hM, ⟨BBw, gw, pnw, rcw, acw, hdw, vw, RSw, hWm⟩, hK, hs, hR, hO, hr, ⟨n1_, n2_, n3_, n4_, n5_⟩, ⟨x1_, x2_, x3_⟩, ⟨y1_, y2_, y3_⟩, hgm, hgk, ⟨d1_, d2_, d3_, d4_, rfl⟩, hcn, hac⟩ := h
  exact hM.cell
theorem JA.kcell {E : q_E} {a c nb r k : Nat} {s : Int32} {X : Nat → Prop} {f : q_H} {n BB pn NR : Nat} {ac : Int32} {hd vm vk : q_V} {RS : Nat → q_S} (h : JA E a c nb r k s X f n BB pn NR ac hd vm vk RS) : ∃ pa re ki wa no b w, f k = some (cLK (vk 0) (vk 1) (vk 2) (vk 3) (some pa) (some re) (some ki) (some wa) (some no) (vk 5) (nI b) w) := by
  obtain ⟨Qm, Qw, P, pa, re, ki, wa, no, pr, b, w, L, g, cnt, hM, ⟨BBw, gw, pnw, rcw, acw, hdw, vw, RSw, hWm⟩, hK, hs, hR, hO, hr, ⟨n1_, n2_, n3_, n4_, n5_⟩, ⟨x1_, x2_, x3_⟩, ⟨y1_, y2_, y3_⟩, hgm, hgk, ⟨d1_, d2_, d3_, d4_, rfl⟩, hcn, hac⟩ := h
  exact ⟨_, _, _, _, _, _, _, hK.1⟩
theorem JA.dice {E : q_E} {a c nb r k : Nat} {s : Int32} {X : Nat → Prop} {f : q_H} {n BB pn NR : Nat} {ac : Int32} {hd vm vk : q_V} {RS : Nat → q_S} (h : JA E a c nb r k s X f n BB pn NR ac hd vm vk RS) : f r = some (cDice s) := by
  obtain ⟨Qm, Qw, P, pa, re, ki, wa, no, pr, b, w, L, g, cnt, hM, ⟨BBw, gw, pnw, rcw, acw, hdw, vw, RSw, hWm⟩, hK, hs, hR, hO, hr, ⟨n1_, n2_, n3_, n4_, n5_⟩, ⟨x1_, x2_, x3_⟩, ⟨y1_, y2_, y3_⟩, hgm, hgk, ⟨d1_, d2_, d3_, d4_, rfl⟩, hcn, hac⟩ := h
  exact hr
theorem JA.num {E : q_E} {a c nb r k : Nat} {s : Int32} {X : Nat → Prop} {f : q_H} {n BB pn NR : Nat} {ac : Int32} {hd vm vk : q_V} {RS : Nat → q_S} (h : JA E a c nb r k s X f n BB pn NR ac hd vm vk RS) : 1 ≤ pn ∧ pn ≤ 4 ∧ 1 ≤ NR ∧ NR ≤ 3 ∧ VG BB pn hd vm ∧ VG BB pn hd vk ∧ (a + 55 ≤ r ∧ c + 55 ≤ r ∧ r < nb) := by
  obtain ⟨Qm, Qw, P, pa, re, ki, wa, no, pr, b, w, L, g, cnt, hM, ⟨BBw, gw, pnw, rcw, acw, hdw, vw, RSw, hWm⟩, hK, hs, hR, hO, hr, ⟨n1_, n2_, n3_, n4_, n5_⟩, ⟨x1_, x2_, x3_⟩, ⟨y1_, y2_, y3_⟩, hgm, hgk, ⟨d1_, d2_, d3_, d4_, rfl⟩, hcn, hac⟩ := h
  exact ⟨d1_, d2_, d3_, d4_, hgm, hgk, y1_, y2_, y3_⟩
theorem JA.blk {E : q_E} {a c nb r k : Nat} {s : Int32} {X : Nat → Prop} {f : q_H} {n BB pn NR : Nat} {ac : Int32} {hd vm vk : q_V} {RS : Nat → q_S} (h : JA E a c nb r k s X f n BB pn NR ac hd vm vk RS) : ∀ i, i < NR → s_blk pn (RS i) := by
  obtain ⟨Qm, Qw, P, pa, re, ki, wa, no, pr, b, w, L, g, cnt, hM, ⟨BBw, gw, pnw, rcw, acw, hdw, vw, RSw, hWm⟩, hK, hs, hR, hO, hr, ⟨n1_, n2_, n3_, n4_, n5_⟩, ⟨x1_, x2_, x3_⟩, ⟨y1_, y2_, y3_⟩, hgm, hgk, ⟨d1_, d2_, d3_, d4_, rfl⟩, hcn, hac⟩ := h
  obtain ⟨ep, bk0, et, er0, c0, here0, k0, kk0, po0, wo0, b0, w0, b1, w1, bk, gB, bt, hdt, vt, lo, hi, hF, p9, hs9, hQ⟩ := hM
  exact hs9
theorem JA.evs {E : q_E} {a c nb r k : Nat} {s : Int32} {X : Nat → Prop} {f : q_H} {n BB pn NR : Nat} {ac : Int32} {hd vm vk : q_V} {RS : Nat → q_S} (h : JA E a c nb r k s X f n BB pn NR ac hd vm vk RS) : ∀ i, i < NR → w_gB pn (RS i) ∧ w_b pn (RS i) := by
  obtain ⟨Qm, Qw, P, pa, re, ki, wa, no, pr, b, w, L, g, cnt, hM, ⟨BBw, gw, pnw, rcw, acw, hdw, vw, RSw, hWm⟩, hK, hs, hR, hO, hr, ⟨n1_, n2_, n3_, n4_, n5_⟩, ⟨x1_, x2_, x3_⟩, ⟨y1_, y2_, y3_⟩, hgm, hgk, ⟨d1_, d2_, d3_, d4_, rfl⟩, hcn, hac⟩ := h
  exact RCS.ev hR
/-- the class alone is changed; what is kept may be more -/
theorem JA.m {E : q_E} {a c nb r k : Nat} {s : Int32} {X : Nat → Prop} {f : q_H} {n BB pn NR : Nat} {ac : Int32} {hd vm vk : q_V} {RS : Nat → q_S} (h : JA E a c nb r k s X f n BB pn NR ac hd vm vk RS) (hlt : ∀ q x, f q = some x → q < n) : ∃ (L : Nat) (g : Nat → Int32) (Q : Nat → Prop), CM E a BB f n L g pn NR ac hd vm RS Q ∧ (∀ q, Q q → q < n) ∧ ∀ (f1 : q_H) (n1 BC : Nat) (v1 : q_V) (X1 : Nat → Prop), BB ≤ BC → n ≤ n1 → CM E a BC f1 n1 L g pn NR ac hd v1 RS Q → VG BC pn hd v1 → (∀ q, (q < a ∨ a + 55 ≤ q) → q < n → f1 q = f q) → (∀ q, X1 q → X q ∨ (n ≤ q ∧ q < n1)) → JA E a c nb r k s X1 f1 n1 BC pn NR ac hd v1 vk RS ∧ ∀ q, X q → f1 q = f q := by
  obtain ⟨Qm, Qw, P, pa, re, ki, wa, no, pr, b, w, L, g, cnt, hM, ⟨BBw, gw, pnw, rcw, acw, hdw, vw, RSw, hWm⟩, hK, hs, hR, hO, hr, ⟨n1_, n2_, n3_, n4_, n5_⟩, ⟨x1_, x2_, x3_⟩, ⟨y1_, y2_, y3_⟩, hgm, hgk, ⟨d1_, d2_, d3_, d4_, rfl⟩, hcn, hac⟩ := h
  have s1' := hs.1
  have s2' := hs.2.1
  have hlr := hlt _ _ hr
  have lk := hlt _ _ hK.1
  obtain ⟨-, ⟨gk, hki, -⟩, -, -, ⟨gp, hpa, -⟩, hrow⟩ := id hK
  have lki := hlt _ _ hki
  have lpa := hlt _ _ hpa
  have lpr : ∀ i, i < pn → pr i < n := fun i hi => by obtain ⟨gr, e, -⟩ := hrow i hi; exact hlt _ _ e
  refine ⟨_, _, _, hM, fun q hq => (hO q (Or.inr (Or.inl hq))).1, fun f1 n1 BC v1 X1 hBC hn hM1 hg1 fr hX => ?_⟩
  have hb : ∀ q, nb ≤ q → q < n → f1 q = f q := fun q h1 h2 => fr q (by omega) h2
  have hX1 : ∀ q, X1 q → (X q ∨ n ≤ q) := fun q hq => (hX q hq).elim Or.inl (fun h9 => Or.inr h9.1)
  refine ⟨⟨Qm, Qw, P, pa, re, ki, wa, no, pr, b, w, _, _, cnt, hM1, ⟨BBw, gw, pnw, rcw, acw, hdw, vw, RSw, hWm.frame (fun q hq => fr q (x2_ q (Or.inl hq)) (hO q (Or.inr (Or.inr (Or.inl hq)))).1) hn (Nat.le_refl _)⟩, hK.fr (fun q hq hf => hb q (by rcases hq with e | e | e | e | e | ⟨i, hi, e⟩; omega; omega; omega; omega; omega; (have := n4_ i hi; omega)) (by obtain ⟨x, e9⟩ := Option.ne_none_iff_exists'.mp hf; exact hlt q x e9)), hs, hR.to (fun q hq => ⟨hq, hb q (n5_ q hq) (hO q (Or.inl hq)).1⟩), fun q hq => ?_, (fr r (by omega) hlr).trans hr, ⟨n1_, n2_, n3_, n4_, n5_⟩, ⟨fun q hq => ?_, fun q hq => ?_, fun q hq => ?_⟩, ⟨y1_, y2_, y3_⟩, hg1, hgk.more hBC, ⟨d1_, d2_, d3_, d4_, rfl⟩, hcn.to (fun q hq => ⟨hq, hb q (n5_ q hq) (hO q (Or.inl hq)).1⟩), hac⟩, fun q hq => fr q (x2_ q (Or.inr hq)) (hO q (Or.inr (Or.inr (Or.inr hq)))).1⟩
  · have old : (P q ∨ Qm q ∨ Qw q ∨ X q) → q < n1 ∧ q ≠ k ∧ q ≠ pa ∧ q ≠ ki ∧ ∀ i, i < pn → q ≠ pr i := fun h9 => by
      obtain ⟨z1, z2⟩ := hO q h9
      exact ⟨by omega, z2⟩
    rcases hq with h9 | h9 | h9 | h9
    · exact old (Or.inl h9)
    · exact old (Or.inr (Or.inl h9))
    · exact old (Or.inr (Or.inr (Or.inl h9)))
    · rcases hX q h9 with h8 | ⟨h8, h7⟩
      · exact old (Or.inr (Or.inr (Or.inr h8)))
      · exact ⟨h7, by omega, by omega, by omega, fun i hi => by have := lpr i hi; omega⟩
  · rcases hq with h9 | h9
    · exact x1_ q (Or.inl h9)
    · rcases hX1 q h9 with h8 | h8
      · exact x1_ q (Or.inr h8)
      · omega
  · rcases hq with h9 | h9
    · exact x2_ q (Or.inl h9)
    · rcases hX1 q h9 with h8 | h8
      · exact x2_ q (Or.inr h8)
      · omega
  · rcases hq with h9 | h9 | h9
    · exact x3_ q (Or.inl h9)
    · exact x3_ q (Or.inr (Or.inl h9))
    · rcases hX1 q h9 with h8 | h8
      · exact x3_ q (Or.inr (Or.inr h8))
      · omega
/-- the law's kitchen alone is changed -/
theorem JA.k {E : q_E} {a c nb r k : Nat} {s : Int32} {X : Nat → Prop} {f : q_H} {n BB pn NR : Nat} {ac : Int32} {hd vm vk : q_V} {RS : Nat → q_S} (h : JA E a c nb r k s X f n BB pn NR ac hd vm vk RS) : ∃ (P : Nat → Prop) (pa re ki wa no : Nat) (pr : Nat → Nat) (b : Nat) (w : Int32), LK E f k pa re ki wa no pn pr hd vk b w ∧ LSp ki wa no pn pr ∧ RCS E f re NR pn RS P NR ∧ OFF k pa ki pn pr n P ∧ (∀ q, X q → q < n ∧ q ≠ k ∧ q ≠ pa ∧ q ≠ ki ∧ ∀ i, i < pn → q ≠ pr i) ∧ ∀ (f1 : q_H) (n1 BC : Nat) (s1 : q_KS), BB ≤ BC → KB E f f1 n n1 k pa re ki pn pr hd s1 → VG BC pn hd s1.1 → JA E a c nb r k s X f1 n1 BC pn NR ac hd vm s1.1 RS ∧ (∀ q, X q → f1 q = f q) ∧ n ≤ n1 := by
  obtain ⟨Qm, Qw, P, pa, re, ki, wa, no, pr, b, w, L, g, cnt, hM, ⟨BBw, gw, pnw, rcw, acw, hdw, vw, RSw, hWm⟩, hK, hs, hR, hO, hr, ⟨n1_, n2_, n3_, n4_, n5_⟩, ⟨x1_, x2_, x3_⟩, ⟨y1_, y2_, y3_⟩, hgm, hgk, ⟨d1_, d2_, d3_, d4_, rfl⟩, hcn, hac⟩ := h
  have hlr : r < n := by
    have h8 := hO
    obtain ⟨gre, hre, -⟩ := hR
    have h9 := (hO re (Or.inl hre)).1
    have h7 := n5_ re hre
    omega
  refine ⟨P, pa, re, ki, wa, no, pr, b, w, hK, hs, hR, fun q hq => hO q (Or.inl hq), fun q hq => hO q (Or.inr (Or.inr (Or.inr hq))), fun f1 n1 BC s1 hBC hB hg1 => ?_⟩
  obtain ⟨wa2, no2, pr2, hK2, hs2, hp2, hn2, hf2⟩ := hB
  have hX := hO.fr hf2
  have s1' := hs.1
  have hnpr : ∀ i, i < pn → nb ≤ pr2 i := fun i hi => by
    have h8 := n4_ i hi
    obtain ⟨gre, hre, -⟩ := hR
    have h9 := (hO re (Or.inl hre)).1
    have h7 := n5_ re hre
    rcases hp2 i hi with e | e <;> omega
  exact ⟨⟨Qm, Qw, P, pa, re, ki, wa2, no2, pr2, _, _, _, _, cnt, hM.frame (fun q hq => (hX q (Or.inr (Or.inl hq))).2) hn2 hBC, ⟨BBw, gw, pnw, rcw, acw, hdw, vw, RSw, hWm.frame (fun q hq => (hX q (Or.inr (Or.inr (Or.inl hq)))).2) hn2 (Nat.le_refl _)⟩, hK2, hs2, hR.to (fun q hq => ⟨hq, (hX q (Or.inl hq)).2⟩), hO.trans hp2 hn2, (hf2 r (by omega) (by omega) (by omega) (fun i hi => by have := n4_ i hi; omega) hlr).trans hr, ⟨n1_, n2_, n3_, hnpr, n5_⟩, ⟨x1_, x2_, x3_⟩, ⟨y1_, y2_, y3_⟩, hgm.more hBC, hg1, ⟨d1_, d2_, d3_, d4_, rfl⟩, hcn.to (fun q hq => ⟨hq, (hX q (Or.inl hq)).2⟩), hac⟩, fun q hq => (hX q (Or.inr (Or.inr (Or.inr hq)))).2, hn2⟩
/-- neither is changed; what is kept may be more -/
theorem JA.out {E : q_E} {a c nb r k : Nat} {s : Int32} {X : Nat → Prop} {f : q_H} {n BB pn NR : Nat} {ac : Int32} {hd vm vk : q_V} {RS : Nat → q_S} (h : JA E a c nb r k s X f n BB pn NR ac hd vm vk RS) (hlt : ∀ q x, f q = some x → q < n) {f1 : q_H} {n1 : Nat} {s1 : Int32} {X1 : Nat → Prop} (fr : ∀ q, q < n → q ≠ r → f1 q = f q) (hn : n ≤ n1) (hr1 : f1 r = some (cDice s1)) (hX : ∀ q, X1 q → X q ∨ (n ≤ q ∧ q < n1)) : JA E a c nb r k s1 X1 f1 n1 BB pn NR ac hd vm vk RS := by
  obtain ⟨Qm, Qw, P, pa, re, ki, wa, no, pr, b, w, L, g, cnt, hM, ⟨BBw, gw, pnw, rcw, acw, hdw, vw, RSw, hWm⟩, hK, hs, hR, hO, hr, ⟨n1_, n2_, n3_, n4_, n5_⟩, ⟨x1_, x2_, x3_⟩, ⟨y1_, y2_, y3_⟩, hgm, hgk, ⟨d1_, d2_, d3_, d4_, rfl⟩, hcn, hac⟩ := h
  have s1' := hs.1
  have s2' := hs.2.1
  have hlr := hlt _ _ hr
  have lk := hlt _ _ hK.1
  obtain ⟨-, ⟨gk, hki, -⟩, -, -, ⟨gp, hpa, -⟩, hrow⟩ := id hK
  have lki := hlt _ _ hki
  have lpa := hlt _ _ hpa
  have lpr : ∀ i, i < pn → pr i < n := fun i hi => by obtain ⟨gr, e, -⟩ := hrow i hi; exact hlt _ _ e
  have hX1 : ∀ q, X1 q → (X q ∨ n ≤ q) := fun q hq => (hX q hq).elim Or.inl (fun h9 => Or.inr h9.1)
  refine ⟨Qm, Qw, P, pa, re, ki, wa, no, pr, b, w, _, _, cnt, hM.frame (fun q hq => fr q (hO q (Or.inr (Or.inl hq))).1 (x3_ q (Or.inl hq))) hn (Nat.le_refl _), ⟨BBw, gw, pnw, rcw, acw, hdw, vw, RSw, hWm.frame (fun q hq => fr q (hO q (Or.inr (Or.inr (Or.inl hq)))).1 (x3_ q (Or.inr (Or.inl hq)))) hn (Nat.le_refl _)⟩, hK.fr (fun q hq hf => fr q (by obtain ⟨x, e9⟩ := Option.ne_none_iff_exists'.mp hf; exact hlt q x e9) (by rcases hq with e | e | e | e | e | ⟨i, hi, e⟩; omega; omega; omega; omega; omega; (have := n4_ i hi; omega))), hs, hR.to (fun q hq => ⟨hq, fr q (hO q (Or.inl hq)).1 (by have := n5_ q hq; omega)⟩), fun q hq => ?_, hr1, ⟨n1_, n2_, n3_, n4_, n5_⟩, ⟨fun q hq => ?_, fun q hq => ?_, fun q hq => ?_⟩, ⟨y1_, y2_, y3_⟩, hgm, hgk, ⟨d1_, d2_, d3_, d4_, rfl⟩, hcn.to (fun q hq => ⟨hq, fr q (hO q (Or.inl hq)).1 (by have := n5_ q hq; omega)⟩), hac⟩
  · have old : (P q ∨ Qm q ∨ Qw q ∨ X q) → q < n1 ∧ q ≠ k ∧ q ≠ pa ∧ q ≠ ki ∧ ∀ i, i < pn → q ≠ pr i := fun h9 => by
      obtain ⟨z1, z2⟩ := hO q h9
      exact ⟨by omega, z2⟩
    rcases hq with h9 | h9 | h9 | h9
    · exact old (Or.inl h9)
    · exact old (Or.inr (Or.inl h9))
    · exact old (Or.inr (Or.inr (Or.inl h9)))
    · rcases hX q h9 with h8 | ⟨h8, h7⟩
      · exact old (Or.inr (Or.inr (Or.inr h8)))
      · exact ⟨h7, by omega, by omega, by omega, fun i hi => by have := lpr i hi; omega⟩
  · rcases hq with h9 | h9
    · exact x1_ q (Or.inl h9)
    · rcases hX1 q h9 with h8 | h8
      · exact x1_ q (Or.inr h8)
      · omega
  · rcases hq with h9 | h9
    · exact x2_ q (Or.inl h9)
    · rcases hX1 q h9 with h8 | h8
      · exact x2_ q (Or.inr h8)
      · omega
  · rcases hq with h9 | h9 | h9
    · exact x3_ q (Or.inl h9)
    · exact x3_ q (Or.inr (Or.inl h9))
    · rcases hX1 q h9 with h8 | h8
      · exact x3_ q (Or.inr (Or.inr h8))
      · omega

theorem ja_pans (l : Launch) (E : q_E) (f : q_H) (n a c nb r k : Nat) (s : Int32) (X : Nat → Prop) (BB pn NR : Nat) (ac : Int32) (hd vm vk : q_V) (RS : Nat → q_S)  (hJ : JA E a c nb r k s X f n BB pn NR ac hd vm vk RS) (hlt : ∀ q x, f q = some x → q < n)  : Met l yX12_pans wsX12_pans ({ frames := 0, cells := 0, slots := 0, locals := 0 }) (q_P E [.ref a] f n) (q_Qi E (fun r f1 n1 => nI pn = r ∧ f = f1 ∧ n = n1)) 0 0 (q_ge E) := by
  obtain ⟨L, g, Q, hM, -, -⟩ := hJ.m hlt
  exact cm_pans l E f n a BB L g pn NR ac hd vm RS Q  hM 

theorem ja_recipes (l : Launch) (E : q_E) (f : q_H) (n a c nb r k : Nat) (s : Int32) (X : Nat → Prop) (BB pn NR : Nat) (ac : Int32) (hd vm vk : q_V) (RS : Nat → q_S)  (hJ : JA E a c nb r k s X f n BB pn NR ac hd vm vk RS) (hlt : ∀ q x, f q = some x → q < n)  : Met l yX12_recipes wsX12_recipes ({ frames := 0, cells := 0, slots := 0, locals := 0 }) (q_P E [.ref a] f n) (q_Qi E (fun r f1 n1 => nI NR = r ∧ f = f1 ∧ n = n1)) 0 0 (q_ge E) := by
  obtain ⟨L, g, Q, hM, -, -⟩ := hJ.m hlt
  exact cm_recipes l E f n a BB L g pn NR ac hd vm RS Q  hM 

theorem ja_acts (l : Launch) (E : q_E) (f : q_H) (n a c nb r k : Nat) (s : Int32) (X : Nat → Prop) (BB pn NR : Nat) (ac : Int32) (hd vm vk : q_V) (RS : Nat → q_S)  (hJ : JA E a c nb r k s X f n BB pn NR ac hd vm vk RS) (hlt : ∀ q x, f q = some x → q < n)  : Met l yX12_acts wsX12_acts ({ frames := 0, cells := 0, slots := 0, locals := 0 }) (q_P E [.ref a] f n) (q_Qi E (fun r f1 n1 => ac = r ∧ f = f1 ∧ n = n1)) 0 0 (q_ge E) := by
  obtain ⟨L, g, Q, hM, -, -⟩ := hJ.m hlt
  exact cm_acts l E f n a BB L g pn NR ac hd vm RS Q  hM 

theorem ja_altitude (l : Launch) (E : q_E) (f : q_H) (n a c nb r k : Nat) (s : Int32) (X : Nat → Prop) (BB pn NR : Nat) (ac : Int32) (hd vm vk : q_V) (RS : Nat → q_S)  (hJ : JA E a c nb r k s X f n BB pn NR ac hd vm vk RS) (hlt : ∀ q x, f q = some x → q < n)  : Met l yX12_altitude wsX12_altitude ({ frames := 0, cells := 0, slots := 0, locals := 0 }) (q_P E [.ref a] f n) (q_Qi E (fun r f1 n1 => vm 0 = r ∧ f = f1 ∧ n = n1)) 0 0 (q_ge E) := by
  obtain ⟨L, g, Q, hM, -, -⟩ := hJ.m hlt
  exact cm_altitude l E f n a BB L g pn NR ac hd vm RS Q  hM 

theorem ja_boilingPoint (l : Launch) (E : q_E) (f : q_H) (n a c nb r k : Nat) (s : Int32) (X : Nat → Prop) (BB pn NR : Nat) (ac : Int32) (hd vm vk : q_V) (RS : Nat → q_S)  (hJ : JA E a c nb r k s X f n BB pn NR ac hd vm vk RS) (hlt : ∀ q x, f q = some x → q < n)  : Met l yX12_boilingPoint wsX12_boilingPoint ({ frames := 2, cells := 0, slots := 0, locals := 40 }) (q_P E [.ref a] f n) (q_Qi E (fun r f1 n1 => z_boil (vm 0) = r ∧ f = f1 ∧ n = n1)) 0 0 (q_ge E) := by
  obtain ⟨L, g, Q, hM, -, -⟩ := hJ.m hlt
  exact cm_boilingPoint l E f n a BB L g pn NR ac hd vm RS Q  hM 

theorem ja_servings (l : Launch) (E : q_E) (f : q_H) (n a c nb r k : Nat) (s : Int32) (X : Nat → Prop) (BB pn NR : Nat) (ac : Int32) (hd vm vk : q_V) (RS : Nat → q_S)  (hJ : JA E a c nb r k s X f n BB pn NR ac hd vm vk RS) (hlt : ∀ q x, f q = some x → q < n)  : Met l yX12_servings wsX12_servings ({ frames := 0, cells := 0, slots := 0, locals := 0 }) (q_P E [.ref a] f n) (q_Qi E (fun r f1 n1 => vm 1 = r ∧ f = f1 ∧ n = n1)) 0 0 (q_ge E) := by
  obtain ⟨L, g, Q, hM, -, -⟩ := hJ.m hlt
  exact cm_servings l E f n a BB L g pn NR ac hd vm RS Q  hM 

theorem ja_spoon (l : Launch) (E : q_E) (f : q_H) (n a c nb r k : Nat) (s : Int32) (X : Nat → Prop) (BB pn NR : Nat) (ac : Int32) (hd vm vk : q_V) (RS : Nat → q_S)  (hJ : JA E a c nb r k s X f n BB pn NR ac hd vm vk RS) (hlt : ∀ q x, f q = some x → q < n)  : Met l yX12_spoon wsX12_spoon ({ frames := 0, cells := 0, slots := 0, locals := 0 }) (q_P E [.ref a] f n) (q_Qi E (fun r f1 n1 => vm 2 = r ∧ f = f1 ∧ n = n1)) 0 0 (q_ge E) := by
  obtain ⟨L, g, Q, hM, -, -⟩ := hJ.m hlt
  exact cm_spoon l E f n a BB L g pn NR ac hd vm RS Q  hM 

theorem ja_minute (l : Launch) (E : q_E) (f : q_H) (n a c nb r k : Nat) (s : Int32) (X : Nat → Prop) (BB pn NR : Nat) (ac : Int32) (hd vm vk : q_V) (RS : Nat → q_S)  (hJ : JA E a c nb r k s X f n BB pn NR ac hd vm vk RS) (hlt : ∀ q x, f q = some x → q < n)  : Met l yX12_minute wsX12_minute ({ frames := 0, cells := 0, slots := 0, locals := 0 }) (q_P E [.ref a] f n) (q_Qi E (fun r f1 n1 => vm 3 = r ∧ f = f1 ∧ n = n1)) 0 0 (q_ge E) := by
  obtain ⟨L, g, Q, hM, -, -⟩ := hJ.m hlt
  exact cm_minute l E f n a BB L g pn NR ac hd vm RS Q  hM 

theorem ja_warnings (l : Launch) (E : q_E) (f : q_H) (n a c nb r k : Nat) (s : Int32) (X : Nat → Prop) (BB pn NR : Nat) (ac : Int32) (hd vm vk : q_V) (RS : Nat → q_S)  (hJ : JA E a c nb r k s X f n BB pn NR ac hd vm vk RS) (hlt : ∀ q x, f q = some x → q < n)  : Met l yX12_warnings wsX12_warnings ({ frames := 0, cells := 0, slots := 0, locals := 0 }) (q_P E [.ref a] f n) (q_Qi E (fun r f1 n1 => vm 4 = r ∧ f = f1 ∧ n = n1)) 0 0 (q_ge E) := by
  obtain ⟨L, g, Q, hM, -, -⟩ := hJ.m hlt
  exact cm_warnings l E f n a BB L g pn NR ac hd vm RS Q  hM 

theorem ja_notes (l : Launch) (E : q_E) (f : q_H) (n a c nb r k : Nat) (s : Int32) (X : Nat → Prop) (BB pn NR : Nat) (ac : Int32) (hd vm vk : q_V) (RS : Nat → q_S)  (hJ : JA E a c nb r k s X f n BB pn NR ac hd vm vk RS) (hlt : ∀ q x, f q = some x → q < n)  : Met l yX12_notes wsX12_notes ({ frames := 0, cells := 0, slots := 0, locals := 0 }) (q_P E [.ref a] f n) (q_Qi E (fun r f1 n1 => vm 5 = r ∧ f = f1 ∧ n = n1)) 0 0 (q_ge E) := by
  obtain ⟨L, g, Q, hM, -, -⟩ := hJ.m hlt
  exact cm_notes l E f n a BB L g pn NR ac hd vm RS Q  hM 

theorem ja_meanHeat (l : Launch) (E : q_E) (f : q_H) (n a c nb r k : Nat) (s : Int32) (X : Nat → Prop) (BB pn NR : Nat) (ac : Int32) (hd vm vk : q_V) (RS : Nat → q_S)  (hJ : JA E a c nb r k s X f n BB pn NR ac hd vm vk RS) (hlt : ∀ q x, f q = some x → q < n)  : Met l yX12_meanHeat wsX12_meanHeat ({ frames := 1, cells := 0, slots := 0, locals := 21 }) (q_P E [.ref a] f n) (q_Qd E (fun r f1 n1 => z_mean vm pn = r ∧ f = f1 ∧ n = n1)) 0 0 (q_ge E) := by
  obtain ⟨L, g, Q, hM, -, -⟩ := hJ.m hlt
  exact cm_meanHeat l E f n a BB L g pn NR ac hd vm RS Q  hM 

theorem ja_holdsOf (l : Launch) (E : q_E) (f : q_H) (n a c nb r k : Nat) (s : Int32) (X : Nat → Prop) (BB pn NR : Nat) (ac : Int32) (hd vm vk : q_V) (RS : Nat → q_S) (i : Nat) (hJ : JA E a c nb r k s X f n BB pn NR ac hd vm vk RS) (hlt : ∀ q x, f q = some x → q < n) (hi : i < pn) : Met l yX12_holdsOf wsX12_holdsOf ({ frames := 2, cells := 0, slots := 0, locals := 43 }) (q_P E [.ref a, .int (nI i)] f n) (q_Qi E (fun r f1 n1 => hd i = r ∧ f = f1 ∧ n = n1)) 0 0 (q_ge E) := by
  obtain ⟨L, g, Q, hM, -, -⟩ := hJ.m hlt
  exact cm_holdsOf l E f n a BB L g pn NR ac hd vm RS Q i hM hi

theorem ja_waterIn (l : Launch) (E : q_E) (f : q_H) (n a c nb r k : Nat) (s : Int32) (X : Nat → Prop) (BB pn NR : Nat) (ac : Int32) (hd vm vk : q_V) (RS : Nat → q_S) (i : Nat) (hJ : JA E a c nb r k s X f n BB pn NR ac hd vm vk RS) (hlt : ∀ q x, f q = some x → q < n) (hi : i < pn) : Met l yX12_waterIn wsX12_waterIn ({ frames := 2, cells := 0, slots := 0, locals := 43 }) (q_P E [.ref a, .int (nI i)] f n) (q_Qi E (fun r f1 n1 => vm (52 + 4 * i) = r ∧ f = f1 ∧ n = n1)) 0 0 (q_ge E) := by
  obtain ⟨L, g, Q, hM, -, -⟩ := hJ.m hlt
  exact cm_waterIn l E f n a BB L g pn NR ac hd vm RS Q i hM hi

theorem ja_mealIn (l : Launch) (E : q_E) (f : q_H) (n a c nb r k : Nat) (s : Int32) (X : Nat → Prop) (BB pn NR : Nat) (ac : Int32) (hd vm vk : q_V) (RS : Nat → q_S) (i : Nat) (hJ : JA E a c nb r k s X f n BB pn NR ac hd vm vk RS) (hlt : ∀ q x, f q = some x → q < n) (hi : i < pn) : Met l yX12_mealIn wsX12_mealIn ({ frames := 2, cells := 0, slots := 0, locals := 43 }) (q_P E [.ref a, .int (nI i)] f n) (q_Qi E (fun r f1 n1 => vm (53 + 4 * i) = r ∧ f = f1 ∧ n = n1)) 0 0 (q_ge E) := by
  obtain ⟨L, g, Q, hM, -, -⟩ := hJ.m hlt
  exact cm_mealIn l E f n a BB L g pn NR ac hd vm RS Q i hM hi

theorem ja_heatOf (l : Launch) (E : q_E) (f : q_H) (n a c nb r k : Nat) (s : Int32) (X : Nat → Prop) (BB pn NR : Nat) (ac : Int32) (hd vm vk : q_V) (RS : Nat → q_S) (i : Nat) (hJ : JA E a c nb r k s X f n BB pn NR ac hd vm vk RS) (hlt : ∀ q x, f q = some x → q < n) (hi : i < pn) : Met l yX12_heatOf wsX12_heatOf ({ frames := 2, cells := 0, slots := 0, locals := 43 }) (q_P E [.ref a, .int (nI i)] f n) (q_Qi E (fun r f1 n1 => vm (54 + 4 * i) = r ∧ f = f1 ∧ n = n1)) 0 0 (q_ge E) := by
  obtain ⟨L, g, Q, hM, -, -⟩ := hJ.m hlt
  exact cm_heatOf l E f n a BB L g pn NR ac hd vm RS Q i hM hi

theorem ja_doneIn (l : Launch) (E : q_E) (f : q_H) (n a c nb r k : Nat) (s : Int32) (X : Nat → Prop) (BB pn NR : Nat) (ac : Int32) (hd vm vk : q_V) (RS : Nat → q_S) (i : Nat) (hJ : JA E a c nb r k s X f n BB pn NR ac hd vm vk RS) (hlt : ∀ q x, f q = some x → q < n) (hi : i < pn) : Met l yX12_doneIn wsX12_doneIn ({ frames := 2, cells := 0, slots := 0, locals := 43 }) (q_P E [.ref a, .int (nI i)] f n) (q_Qi E (fun r f1 n1 => vm (55 + 4 * i) = r ∧ f = f1 ∧ n = n1)) 0 0 (q_ge E) := by
  obtain ⟨L, g, Q, hM, -, -⟩ := hJ.m hlt
  exact cm_doneIn l E f n a BB L g pn NR ac hd vm RS Q i hM hi

theorem ja_roomIn (l : Launch) (E : q_E) (f : q_H) (n a c nb r k : Nat) (s : Int32) (X : Nat → Prop) (BB pn NR : Nat) (ac : Int32) (hd vm vk : q_V) (RS : Nat → q_S) (i : Nat) (hJ : JA E a c nb r k s X f n BB pn NR ac hd vm vk RS) (hlt : ∀ q x, f q = some x → q < n) (hi : i < pn) : Met l yX12_roomIn wsX12_roomIn ({ frames := 2, cells := 0, slots := 0, locals := 43 }) (q_P E [.ref a, .int (nI i)] f n) (q_Qi E (fun r f1 n1 => hd i - vm (52 + 4 * i) - vm (53 + 4 * i) = r ∧ f = f1 ∧ n = n1)) 0 0 (q_ge E) := by
  obtain ⟨L, g, Q, hM, -, -⟩ := hJ.m hlt
  exact cm_roomIn l E f n a BB L g pn NR ac hd vm RS Q i hM hi

theorem ja_amountFor (l : Launch) (E : q_E) (f : q_H) (n a c nb r k : Nat) (s : Int32) (X : Nat → Prop) (BB pn NR : Nat) (ac : Int32) (hd vm vk : q_V) (RS : Nat → q_S) (y : Int32) (hJ : JA E a c nb r k s X f n BB pn NR ac hd vm vk RS) (hlt : ∀ q x, f q = some x → q < n) (hin : b_in y 0 999 = true) : Met l yX12_amountFor wsX12_amountFor ({ frames := 3, cells := 0, slots := 0, locals := 65 }) (q_P E [.ref a, .int y] f n) (q_Qi E (fun r f1 n1 => z_tr vm y = r ∧ f = f1 ∧ n = n1)) 0 0 (q_ge E) := by
  obtain ⟨L, g, Q, hM, -, -⟩ := hJ.m hlt
  exact cm_amountFor l E f n a BB L g pn NR ac hd vm RS Q y hM hin

theorem ja_warningsOf (l : Launch) (E : q_E) (f : q_H) (n a c nb r k : Nat) (s : Int32) (X : Nat → Prop) (BB pn NR : Nat) (ac : Int32) (hd vm vk : q_V) (RS : Nat → q_S) (kd : Nat) (hJ : JA E a c nb r k s X f n BB pn NR ac hd vm vk RS) (hlt : ∀ q x, f q = some x → q < n) (hin : b_in (nI kd) 1 5 = true) (hkd : kd < 6) : Met l yX12_warningsOf wsX12_warningsOf ({ frames := 1, cells := 0, slots := 0, locals := 22 }) (q_P E [.ref a, .int (nI kd)] f n) (q_Qi E (fun r f1 n1 => vm (6 + kd) = r ∧ f = f1 ∧ n = n1)) 0 0 (q_ge E) := by
  obtain ⟨L, g, Q, hM, -, -⟩ := hJ.m hlt
  exact cm_warningsOf l E f n a BB L g pn NR ac hd vm RS Q kd hM hin hkd

theorem ja_warningAt (l : Launch) (E : q_E) (f : q_H) (n a c nb r k : Nat) (s : Int32) (X : Nat → Prop) (BB pn NR : Nat) (ac : Int32) (hd vm vk : q_V) (RS : Nat → q_S) (T9 : Nat) (i : Nat) (hJ : JA E a c nb r k s X f n BB pn NR ac hd vm vk RS) (hlt : ∀ q x, f q = some x → q < n) (hv9 : vm 4 = nI T9) (hT9 : T9 < 2 ^ 30) (hi : i < min T9 20) : Met l yX12_warningAt wsX12_warningAt ({ frames := 2, cells := 0, slots := 0, locals := 44 }) (q_P E [.ref a, .int (nI i)] f n) (q_Qi E (fun r f1 n1 => vm (12 + (T9 - 1 - i) % 20) = r ∧ f = f1 ∧ n = n1)) 0 0 (q_ge E) := by
  obtain ⟨L, g, Q, hM, -, -⟩ := hJ.m hlt
  exact cm_warningAt l E f n a BB L g pn NR ac hd vm RS Q T9 i hM hv9 hT9 hi

theorem ja_noteAt (l : Launch) (E : q_E) (f : q_H) (n a c nb r k : Nat) (s : Int32) (X : Nat → Prop) (BB pn NR : Nat) (ac : Int32) (hd vm vk : q_V) (RS : Nat → q_S) (T9 : Nat) (i : Nat) (hJ : JA E a c nb r k s X f n BB pn NR ac hd vm vk RS) (hlt : ∀ q x, f q = some x → q < n) (hv9 : vm 5 = nI T9) (hT9 : T9 < 2 ^ 30) (hi : i < min T9 20) : Met l yX12_noteAt wsX12_noteAt ({ frames := 2, cells := 0, slots := 0, locals := 44 }) (q_P E [.ref a, .int (nI i)] f n) (q_Qi E (fun r f1 n1 => vm (32 + (T9 - 1 - i) % 20) = r ∧ f = f1 ∧ n = n1)) 0 0 (q_ge E) := by
  obtain ⟨L, g, Q, hM, -, -⟩ := hJ.m hlt
  exact cm_noteAt l E f n a BB L g pn NR ac hd vm RS Q T9 i hM hv9 hT9 hi

theorem ja_digest (l : Launch) (E : q_E) (f : q_H) (n a c nb r k : Nat) (s : Int32) (X : Nat → Prop) (BB pn NR : Nat) (ac : Int32) (hd vm vk : q_V) (RS : Nat → q_S) (tw : Nat) (tn : Nat) (hJ : JA E a c nb r k s X f n BB pn NR ac hd vm vk RS) (hlt : ∀ q x, f q = some x → q < n) (h4 : vm 4 = nI tw) (h5 : vm 5 = nI tn) (ht4 : tw < 2 ^ 30) (ht5 : tn < 2 ^ 30) : Met l yX12_digest wsX12_digest ({ frames := 3, cells := 0, slots := 0, locals := 70 }) (q_P E [.ref a] f n) (q_Ql E (fun r f1 n1 => z_dig pn (nI NR) ac hd vm tw tn = r ∧ f = f1 ∧ n = n1)) 0 0 (q_ge E) := by
  obtain ⟨L, g, Q, hM, -, -⟩ := hJ.m hlt
  exact cm_digest l E f n a BB L g pn NR ac hd vm RS Q tw tn hM h4 h5 ht4 ht5

theorem ja_boilingAt (l : Launch) (E : q_E) (f : q_H) (n a c nb r k : Nat) (s : Int32) (X : Nat → Prop) (BB pn NR : Nat) (ac : Int32) (hd vm vk : q_V) (RS : Nat → q_S) (y : Int32) (hJ : JA E a c nb r k s X f n BB pn NR ac hd vm vk RS) (hlt : ∀ q x, f q = some x → q < n) (hin : b_in y 0 60 = true) : Met l yX12_boilingAt wsX12_boilingAt ({ frames := 1, cells := 0, slots := 0, locals := 22 }) (q_P E [.ref a, .int y] f n) (q_Qi E (fun r f1 n1 => z_boil y = r ∧ f = f1 ∧ n = n1)) 0 0 (q_ge E) := by
  obtain ⟨L, g, Q, hM, -, -⟩ := hJ.m hlt
  exact cm_boilingAt l E f n a BB L g pn NR ac hd vm RS Q y hM hin

theorem ja_minutesAt (l : Launch) (E : q_E) (f : q_H) (n a c nb r k : Nat) (s : Int32) (X : Nat → Prop) (BB pn NR : Nat) (ac : Int32) (hd vm vk : q_V) (RS : Nat → q_S) (y : Int32) (b : Int32) (hJ : JA E a c nb r k s X f n BB pn NR ac hd vm vk RS) (hlt : ∀ q x, f q = some x → q < n) (hin : b_in y 0 999 = true) (hin2 : b_in b 0 60 = true) : Met l yX12_minutesAt wsX12_minutesAt ({ frames := 3, cells := 0, slots := 0, locals := 61 }) (q_P E [.ref a, .int y, .int b] f n) (q_Qi E (fun r f1 n1 => z_long y b = r ∧ f = f1 ∧ n = n1)) 0 0 (q_ge E) := by
  obtain ⟨L, g, Q, hM, -, -⟩ := hJ.m hlt
  exact cm_minutesAt l E f n a BB L g pn NR ac hd vm RS Q y b hM hin hin2

theorem ja_setAltitude (l : Launch) (E : q_E) (f : q_H) (n a c nb r k : Nat) (s : Int32) (X : Nat → Prop) (BB pn NR : Nat) (ac : Int32) (hd vm vk : q_V) (RS : Nat → q_S) (y : Int32) (hJ : JA E a c nb r k s X f n BB pn NR ac hd vm vk RS) (hlt : ∀ q x, f q = some x → q < n) (hin : b_in y 0 60 = true) (hgv : VG BB pn hd ((z_move vm y pn))) : Met l yX12_setAltitude wsX12_setAltitude ({ frames := 3, cells := 0, slots := 0, locals := 63 }) (q_P E [.ref a, .int y] f n) (q_Qi E (fun r0 f1 n1 => vm 0 = r0 ∧ JA E a c nb r k s X f1 n1 BB pn NR ac hd ((z_move vm y pn)) vk RS ∧ n1 = n ∧ ∀ q, X q → f1 q = f q)) 0 0 (q_ge E) := by
  obtain ⟨L, g, Q, hM, -, hcl⟩ := hJ.m hlt
  refine met_imp (cm_setAltitude l E f n a BB L g pn NR ac hd vm RS Q y hM hin) (q_Qi.imp ?_)
  rintro r0 f1 n1 ⟨rfl, e1, rfl, e2⟩
  obtain ⟨e3, e4⟩ := hcl f1 _ _ _ X (by omega) (Nat.le_refl _) e1 hgv e2 (fun q hq => Or.inl hq)
  exact ⟨rfl, e3, rfl, e4⟩

theorem ja_setServings (l : Launch) (E : q_E) (f : q_H) (n a c nb r k : Nat) (s : Int32) (X : Nat → Prop) (BB pn NR : Nat) (ac : Int32) (hd vm vk : q_V) (RS : Nat → q_S) (y : Int32) (hJ : JA E a c nb r k s X f n BB pn NR ac hd vm vk RS) (hlt : ∀ q x, f q = some x → q < n) (hin : b_in y 1 12 = true) (hgv : VG BB pn hd ((upd vm 1 y))) : Met l yX12_setServings wsX12_setServings ({ frames := 1, cells := 0, slots := 0, locals := 22 }) (q_P E [.ref a, .int y] f n) (q_Qi E (fun r0 f1 n1 => vm 1 = r0 ∧ JA E a c nb r k s X f1 n1 BB pn NR ac hd ((upd vm 1 y)) vk RS ∧ n1 = n ∧ ∀ q, X q → f1 q = f q)) 0 0 (q_ge E) := by
  obtain ⟨L, g, Q, hM, -, hcl⟩ := hJ.m hlt
  refine met_imp (cm_setServings l E f n a BB L g pn NR ac hd vm RS Q y hM hin) (q_Qi.imp ?_)
  rintro r0 f1 n1 ⟨rfl, e1, rfl, e2⟩
  obtain ⟨e3, e4⟩ := hcl f1 _ _ _ X (by omega) (Nat.le_refl _) e1 hgv e2 (fun q hq => Or.inl hq)
  exact ⟨rfl, e3, rfl, e4⟩

theorem ja_setSpoon (l : Launch) (E : q_E) (f : q_H) (n a c nb r k : Nat) (s : Int32) (X : Nat → Prop) (BB pn NR : Nat) (ac : Int32) (hd vm vk : q_V) (RS : Nat → q_S) (y : Int32) (hJ : JA E a c nb r k s X f n BB pn NR ac hd vm vk RS) (hlt : ∀ q x, f q = some x → q < n) (hin : b_in y 1 10 = true) (hgv : VG BB pn hd ((upd vm 2 y))) : Met l yX12_setSpoon wsX12_setSpoon ({ frames := 1, cells := 0, slots := 0, locals := 22 }) (q_P E [.ref a, .int y] f n) (q_Qi E (fun r0 f1 n1 => vm 2 = r0 ∧ JA E a c nb r k s X f1 n1 BB pn NR ac hd ((upd vm 2 y)) vk RS ∧ n1 = n ∧ ∀ q, X q → f1 q = f q)) 0 0 (q_ge E) := by
  obtain ⟨L, g, Q, hM, -, hcl⟩ := hJ.m hlt
  refine met_imp (cm_setSpoon l E f n a BB L g pn NR ac hd vm RS Q y hM hin) (q_Qi.imp ?_)
  rintro r0 f1 n1 ⟨rfl, e1, rfl, e2⟩
  obtain ⟨e3, e4⟩ := hcl f1 _ _ _ X (by omega) (Nat.le_refl _) e1 hgv e2 (fun q hq => Or.inl hq)
  exact ⟨rfl, e3, rfl, e4⟩

theorem ja_rest (l : Launch) (E : q_E) (f : q_H) (n a c nb r k : Nat) (s : Int32) (X : Nat → Prop) (BB pn NR : Nat) (ac : Int32) (hd vm vk : q_V) (RS : Nat → q_S) (y : Int32) (hJ : JA E a c nb r k s X f n BB pn NR ac hd vm vk RS) (hlt : ∀ q x, f q = some x → q < n) (hin : b_in y 1 600 = true) (hgv : VG BB pn hd ((z_pass vm y 8 pn))) : Met l yX12_rest wsX12_rest ({ frames := 3, cells := 0, slots := 0, locals := 66 }) (q_P E [.ref a, .int y] f n) (q_Qi E (fun r0 f1 n1 => z_hot (z_pass vm y 8 pn) pn = r0 ∧ JA E a c nb r k s X f1 n1 BB pn NR ac hd ((z_pass vm y 8 pn)) vk RS ∧ n1 = n ∧ ∀ q, X q → f1 q = f q)) 0 0 (q_ge E) := by
  obtain ⟨L, g, Q, hM, -, hcl⟩ := hJ.m hlt
  refine met_imp (cm_rest l E f n a BB L g pn NR ac hd vm RS Q y hM hin) (q_Qi.imp ?_)
  rintro r0 f1 n1 ⟨rfl, e1, rfl, e2⟩
  obtain ⟨e3, e4⟩ := hcl f1 _ _ _ X (by omega) (Nat.le_refl _) e1 hgv e2 (fun q hq => Or.inl hq)
  exact ⟨rfl, e3, rfl, e4⟩

theorem ja_pourWater (l : Launch) (E : q_E) (f : q_H) (n a c nb r k : Nat) (s : Int32) (X : Nat → Prop) (BB pn NR : Nat) (ac : Int32) (hd vm vk : q_V) (RS : Nat → q_S) (i : Nat) (y : Int32) (hJ : JA E a c nb r k s X f n BB pn NR ac hd vm vk RS) (hlt : ∀ q x, f q = some x → q < n) (hi : i < pn) (hin : b_in y 1 200 = true) (hgv : VG BB pn hd ((z_fillv hd vm i 0 y))) : Met l yX12_pourWater wsX12_pourWater ({ frames := 2, cells := 0, slots := 0, locals := 44 }) (q_P E [.ref a, .int (nI i), .int y] f n) (q_Qi E (fun r0 f1 n1 => z_frv hd vm i y = r0 ∧ JA E a c nb r k s X f1 n1 BB pn NR ac hd ((z_fillv hd vm i 0 y)) vk RS ∧ n1 = n ∧ ∀ q, X q → f1 q = f q)) 0 0 (q_ge E) := by
  obtain ⟨L, g, Q, hM, -, hcl⟩ := hJ.m hlt
  refine met_imp (cm_pourWater l E f n a BB L g pn NR ac hd vm RS Q i y hM hi hin) (q_Qi.imp ?_)
  rintro r0 f1 n1 ⟨rfl, e1, rfl, e2⟩
  obtain ⟨e3, e4⟩ := hcl f1 _ _ _ X (by omega) (Nat.le_refl _) e1 hgv e2 (fun q hq => Or.inl hq)
  exact ⟨rfl, e3, rfl, e4⟩

theorem ja_pourMeal (l : Launch) (E : q_E) (f : q_H) (n a c nb r k : Nat) (s : Int32) (X : Nat → Prop) (BB pn NR : Nat) (ac : Int32) (hd vm vk : q_V) (RS : Nat → q_S) (i : Nat) (y : Int32) (hJ : JA E a c nb r k s X f n BB pn NR ac hd vm vk RS) (hlt : ∀ q x, f q = some x → q < n) (hi : i < pn) (hin : b_in y 1 200 = true) (hgv : VG BB pn hd ((z_fillv hd vm i 1 y))) : Met l yX12_pourMeal wsX12_pourMeal ({ frames := 2, cells := 0, slots := 0, locals := 44 }) (q_P E [.ref a, .int (nI i), .int y] f n) (q_Qi E (fun r0 f1 n1 => z_frv hd vm i y = r0 ∧ JA E a c nb r k s X f1 n1 BB pn NR ac hd ((z_fillv hd vm i 1 y)) vk RS ∧ n1 = n ∧ ∀ q, X q → f1 q = f q)) 0 0 (q_ge E) := by
  obtain ⟨L, g, Q, hM, -, hcl⟩ := hJ.m hlt
  refine met_imp (cm_pourMeal l E f n a BB L g pn NR ac hd vm RS Q i y hM hi hin) (q_Qi.imp ?_)
  rintro r0 f1 n1 ⟨rfl, e1, rfl, e2⟩
  obtain ⟨e3, e4⟩ := hcl f1 _ _ _ X (by omega) (Nat.le_refl _) e1 hgv e2 (fun q hq => Or.inl hq)
  exact ⟨rfl, e3, rfl, e4⟩

theorem ja_wash (l : Launch) (E : q_E) (f : q_H) (n a c nb r k : Nat) (s : Int32) (X : Nat → Prop) (BB pn NR : Nat) (ac : Int32) (hd vm vk : q_V) (RS : Nat → q_S) (i : Nat) (hJ : JA E a c nb r k s X f n BB pn NR ac hd vm vk RS) (hlt : ∀ q x, f q = some x → q < n) (hi : i < pn) (hgv : VG BB pn hd ((z_pan vm i 0 0 20 0))) : Met l yX12_wash wsX12_wash ({ frames := 2, cells := 0, slots := 0, locals := 43 }) (q_P E [.ref a, .int (nI i)] f n) (q_Qi E (fun r0 f1 n1 => vm (52 + 4 * i) + vm (53 + 4 * i) = r0 ∧ JA E a c nb r k s X f1 n1 BB pn NR ac hd ((z_pan vm i 0 0 20 0)) vk RS ∧ n1 = n ∧ ∀ q, X q → f1 q = f q)) 0 0 (q_ge E) := by
  obtain ⟨L, g, Q, hM, -, hcl⟩ := hJ.m hlt
  refine met_imp (cm_wash l E f n a BB L g pn NR ac hd vm RS Q i hM hi) (q_Qi.imp ?_)
  rintro r0 f1 n1 ⟨rfl, e1, rfl, e2⟩
  obtain ⟨e3, e4⟩ := hcl f1 _ _ _ X (by omega) (Nat.le_refl _) e1 hgv e2 (fun q hq => Or.inl hq)
  exact ⟨rfl, e3, rfl, e4⟩

theorem ja_cook (l : Launch) (E : q_E) (f : q_H) (n a c nb r k : Nat) (s : Int32) (X : Nat → Prop) (BB pn NR : Nat) (ac : Int32) (hd vm vk : q_V) (RS : Nat → q_S) (i : Nat) (hJ : JA E a c nb r k s X f n BB pn NR ac hd vm vk RS) (hlt : ∀ q x, f q = some x → q < n) (hB : BB ≤ 2 ^ 29) (hi9 : i < NR) (hgv : VG (BB + 100) pn hd ((RS i hd (vm, 0, (-1))).1)) : Met l yX12_cook wsX12_cook ({ frames := 230 + 0, cells := 0, slots := 0, locals := 9000 + 0 }) (q_P E [.ref a, .int (nI i)] f n) (q_Qi E (fun r0 f1 n1 => (RS i hd (vm, 0, (-1))).1 3 - vm 3 = r0 ∧ JA E a c nb r k s X f1 n1 (BB + 100) pn NR ac hd ((RS i hd (vm, 0, (-1))).1) vk RS ∧ n1 = n ∧ ∀ q, X q → f1 q = f q)) 0 0 (q_ge E) := by
  obtain ⟨L, g, Q, hM, -, hcl⟩ := hJ.m hlt
  refine met_imp (cm_cook l E f n a BB L g pn NR ac hd vm RS Q i hM hB hi9) (q_Qi.imp ?_)
  rintro r0 f1 n1 ⟨rfl, e1, rfl, e2⟩
  obtain ⟨e3, e4⟩ := hcl f1 _ _ _ X (by omega) (Nat.le_refl _) e1 hgv e2 (fun q hq => Or.inl hq)
  exact ⟨rfl, e3, rfl, e4⟩

theorem ja_minutesOfRecipe (l : Launch) (E : q_E) (f : q_H) (n a c nb r k : Nat) (s : Int32) (X : Nat → Prop) (BB pn NR : Nat) (ac : Int32) (hd vm vk : q_V) (RS : Nat → q_S) (i : Nat) (hJ : JA E a c nb r k s X f n BB pn NR ac hd vm vk RS) (hlt : ∀ q x, f q = some x → q < n) (hB : BB ≤ 2 ^ 29) (hi9 : i < NR)  : Met l yX12_minutesOfRecipe wsX12_minutesOfRecipe ({ frames := 240 + 0, cells := 0, slots := 0, locals := 9000 + 0 }) (q_P E [.ref a, .int (nI i)] f n) (q_Qi E (fun r0 f1 n1 => (RS i hd (vm, 0, (-1))).1 3 - vm 3 = r0 ∧ JA E a c nb r k s X f1 n1 BB pn NR ac hd (vm) vk RS ∧ n1 = n ∧ ∀ q, X q → f1 q = f q)) 0 0 (q_ge E) := by
  obtain ⟨L, g, Q, hM, -, hcl⟩ := hJ.m hlt
  refine met_imp (cm_minutesOfRecipe l E f n a BB L g pn NR ac hd vm RS Q i hM hB hi9) (q_Qi.imp ?_)
  rintro r0 f1 n1 ⟨rfl, e1, rfl, e2⟩
  obtain ⟨e3, e4⟩ := hcl f1 _ _ _ X (by omega) (Nat.le_refl _) e1 hJ.num.2.2.2.2.1 e2 (fun q hq => Or.inl hq)
  exact ⟨rfl, e3, rfl, e4⟩

theorem ja_warningsOfRecipe (l : Launch) (E : q_E) (f : q_H) (n a c nb r k : Nat) (s : Int32) (X : Nat → Prop) (BB pn NR : Nat) (ac : Int32) (hd vm vk : q_V) (RS : Nat → q_S) (i : Nat) (hJ : JA E a c nb r k s X f n BB pn NR ac hd vm vk RS) (hlt : ∀ q x, f q = some x → q < n) (hB : BB ≤ 2 ^ 29) (hi9 : i < NR)  : Met l yX12_warningsOfRecipe wsX12_warningsOfRecipe ({ frames := 240 + 0, cells := 0, slots := 0, locals := 9000 + 0 }) (q_P E [.ref a, .int (nI i)] f n) (q_Qi E (fun r0 f1 n1 => (RS i hd (vm, 0, (-1))).1 4 - vm 4 = r0 ∧ JA E a c nb r k s X f1 n1 BB pn NR ac hd (vm) vk RS ∧ n1 = n ∧ ∀ q, X q → f1 q = f q)) 0 0 (q_ge E) := by
  obtain ⟨L, g, Q, hM, -, hcl⟩ := hJ.m hlt
  refine met_imp (cm_warningsOfRecipe l E f n a BB L g pn NR ac hd vm RS Q i hM hB hi9) (q_Qi.imp ?_)
  rintro r0 f1 n1 ⟨rfl, e1, rfl, e2⟩
  obtain ⟨e3, e4⟩ := hcl f1 _ _ _ X (by omega) (Nat.le_refl _) e1 hJ.num.2.2.2.2.1 e2 (fun q hq => Or.inl hq)
  exact ⟨rfl, e3, rfl, e4⟩

theorem ja_firstWarning (l : Launch) (E : q_E) (f : q_H) (n a c nb r k : Nat) (s : Int32) (X : Nat → Prop) (BB pn NR : Nat) (ac : Int32) (hd vm vk : q_V) (RS : Nat → q_S) (i : Nat) (hJ : JA E a c nb r k s X f n BB pn NR ac hd vm vk RS) (hlt : ∀ q x, f q = some x → q < n) (hB : BB ≤ 2 ^ 29) (hi9 : i < NR)  : Met l yX12_firstWarning wsX12_firstWarning ({ frames := 240 + 0, cells := 0, slots := 0, locals := 9000 + 0 }) (q_P E [.ref a, .int (nI i)] f n) (q_Qi E (fun r0 f1 n1 => (RS i hd (vm, 0, (-1))).2.2 = r0 ∧ JA E a c nb r k s X f1 n1 BB pn NR ac hd (vm) vk RS ∧ n1 = n ∧ ∀ q, X q → f1 q = f q)) 0 0 (q_ge E) := by
  obtain ⟨L, g, Q, hM, -, hcl⟩ := hJ.m hlt
  refine met_imp (cm_firstWarning l E f n a BB L g pn NR ac hd vm RS Q i hM hB hi9) (q_Qi.imp ?_)
  rintro r0 f1 n1 ⟨rfl, e1, rfl, e2⟩
  obtain ⟨e3, e4⟩ := hcl f1 _ _ _ X (by omega) (Nat.le_refl _) e1 hJ.num.2.2.2.2.1 e2 (fun q hq => Or.inl hq)
  exact ⟨rfl, e3, rfl, e4⟩

theorem ja_doneBehind (l : Launch) (E : q_E) (f : q_H) (n a c nb r k : Nat) (s : Int32) (X : Nat → Prop) (BB pn NR : Nat) (ac : Int32) (hd vm vk : q_V) (RS : Nat → q_S) (i : Nat) (j : Nat) (hJ : JA E a c nb r k s X f n BB pn NR ac hd vm vk RS) (hlt : ∀ q x, f q = some x → q < n) (hB : BB ≤ 2 ^ 29) (hi9 : i < NR) (hj : j < pn)  : Met l yX12_doneBehind wsX12_doneBehind ({ frames := 240 + 0, cells := 0, slots := 0, locals := 9000 + 0 }) (q_P E [.ref a, .int (nI i), .int (nI j)] f n) (q_Qi E (fun r0 f1 n1 => (RS i hd (vm, 0, (-1))).1 (55 + 4 * j) = r0 ∧ JA E a c nb r k s X f1 n1 BB pn NR ac hd (vm) vk RS ∧ n1 = n ∧ ∀ q, X q → f1 q = f q)) 0 0 (q_ge E) := by
  obtain ⟨L, g, Q, hM, -, hcl⟩ := hJ.m hlt
  refine met_imp (cm_doneBehind l E f n a BB L g pn NR ac hd vm RS Q i j hM hB hi9 hj) (q_Qi.imp ?_)
  rintro r0 f1 n1 ⟨rfl, e1, rfl, e2⟩
  obtain ⟨e3, e4⟩ := hcl f1 _ _ _ X (by omega) (Nat.le_refl _) e1 hJ.num.2.2.2.2.1 e2 (fun q hq => Or.inl hq)
  exact ⟨rfl, e3, rfl, e4⟩

theorem ja_highestSafe (l : Launch) (E : q_E) (f : q_H) (n a c nb r k : Nat) (s : Int32) (X : Nat → Prop) (BB pn NR : Nat) (ac : Int32) (hd vm vk : q_V) (RS : Nat → q_S) (i : Nat) (hJ : JA E a c nb r k s X f n BB pn NR ac hd vm vk RS) (hlt : ∀ q x, f q = some x → q < n) (hB : BB ≤ 2 ^ 29) (hi9 : i < NR)  : Met l yX12_highestSafe wsX12_highestSafe ({ frames := 240 + 0, cells := 0, slots := 0, locals := 9000 + 0 }) (q_P E [.ref a, .int (nI i)] f n) (q_Qi E (fun r0 f1 n1 => z_best (fun h => decide ((RS i hd (z_move vm (nI h) pn, 0, (-1))).1 4 = vm 4)) 61 = r0 ∧ JA E a c nb r k s X f1 n1 BB pn NR ac hd (vm) vk RS ∧ n1 = n ∧ ∀ q, X q → f1 q = f q)) 0 0 (q_ge E) := by
  obtain ⟨L, g, Q, hM, -, hcl⟩ := hJ.m hlt
  refine met_imp (cm_highestSafe l E f n a BB L g pn NR ac hd vm RS Q i hM hB hi9) (q_Qi.imp ?_)
  rintro r0 f1 n1 ⟨rfl, e1, rfl, e2⟩
  obtain ⟨e3, e4⟩ := hcl f1 _ _ _ X (by omega) (Nat.le_refl _) e1 hJ.num.2.2.2.2.1 e2 (fun q hq => Or.inl hq)
  exact ⟨rfl, e3, rfl, e4⟩

theorem ja_mostServings (l : Launch) (E : q_E) (f : q_H) (n a c nb r k : Nat) (s : Int32) (X : Nat → Prop) (BB pn NR : Nat) (ac : Int32) (hd vm vk : q_V) (RS : Nat → q_S) (i : Nat) (hJ : JA E a c nb r k s X f n BB pn NR ac hd vm vk RS) (hlt : ∀ q x, f q = some x → q < n) (hB : BB ≤ 2 ^ 29) (hi9 : i < NR)  : Met l yX12_mostServings wsX12_mostServings ({ frames := 240 + 0, cells := 0, slots := 0, locals := 9000 + 0 }) (q_P E [.ref a, .int (nI i)] f n) (q_Qi E (fun r0 f1 n1 => z_best1 (fun h => decide ((RS i hd (upd vm 1 (nI h), 0, (-1))).1 7 = vm 7)) 12 = r0 ∧ JA E a c nb r k s X f1 n1 BB pn NR ac hd (vm) vk RS ∧ n1 = n ∧ ∀ q, X q → f1 q = f q)) 0 0 (q_ge E) := by
  obtain ⟨L, g, Q, hM, -, hcl⟩ := hJ.m hlt
  refine met_imp (cm_mostServings l E f n a BB L g pn NR ac hd vm RS Q i hM hB hi9) (q_Qi.imp ?_)
  rintro r0 f1 n1 ⟨rfl, e1, rfl, e2⟩
  obtain ⟨e3, e4⟩ := hcl f1 _ _ _ X (by omega) (Nat.le_refl _) e1 hJ.num.2.2.2.2.1 e2 (fun q hq => Or.inl hq)
  exact ⟨rfl, e3, rfl, e4⟩

