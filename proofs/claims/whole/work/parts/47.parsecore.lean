/-! THE REFERENCE READS A BOOK. u: the state of reading of part 26; tk, nd, cc, ac: the token, how many nodes, compares, acts; K, Wd: kinds and words of the tokens 0 .. T -/
theorem m_kd_inj : ∀ a, a < 41 → ∀ b, b < 41 → m_kd a = m_kd b → a = b := by decide +kernel
theorem m_kd_lt : ∀ a, a < 41 → m_kd a < 72 := by decide +kernel
theorem m_kd_eq {a b : Nat} (ha : a < 41) (hb : b < 41) : nI (m_kd a) = nI (m_kd b) ↔ a = b := by
  have h1 := m_kd_lt a ha
  have h2 := m_kd_lt b hb
  rw [nI_eq (by omega) (by omega)]
  exact ⟨m_kd_inj a ha b hb, fun h => by rw [h]⟩
/-- what the rows 1 .. 5 say of the tokens -/
def r_T (r : q_R) (K : Nat → Nat) (Wd : Nat → Int64) (T : Nat) : Prop := (∀ j, j ≤ T → r 2 j = nI (m_kd (K j))) ∧ (∀ j, j ≤ T → K j = 38 → r 3 j = (Wd j).toInt32) ∧
  ∃ ps ln : Nat → Nat, (∀ j, j ≤ T → K j = 37 → r 4 j = nI (ps j) ∧ r 5 j = nI (ln j) ∧ ps j + ln j ≤ 1600 ∧ ln j ≤ 8) ∧ ∀ i j, i ≤ T → j ≤ T → K i = 37 → K j = 37 → (Wd i = Wd j ↔ ln i = ln j ∧ ∀ k, k < ln i → r 1 (ps i + k) = r 1 (ps j + k))
theorem r_T.mv {r r1 : q_R} {K : Nat → Nat} {Wd : Nat → Int64} {T : Nat} (h : r_T r K Wd T) (hr : ∀ j, 1 ≤ j → j ≤ 5 → r1 j = r j) : r_T r1 K Wd T := by
  unfold r_T
  rw [hr 1 (by decide) (by decide), hr 2 (by decide) (by decide), hr 3 (by decide) (by decide), hr 4 (by decide) (by decide), hr 5 (by decide) (by decide)]
  exact h
/-- the state of reading, in the rows -/
def r_P (r : q_R) (K : Nat → Nat) (T : Nat) (u : p_S) (tk nd cc ac : Nat) : Prop := (r 103 0 = nI tk ∧ tk ≤ T ∧ r 134 0 = nI nd ∧ nd ≤ tk ∧ r 133 0 = nI cc ∧ cc ≤ tk ∧ r 132 0 = nI ac ∧ ac ≤ 80) ∧
  ((r 104 0 = 1 ∧ u.2.1 = 40 ∧ r 105 0 = 1 ∧ r 106 0 = nI u.1) ∨ (r 104 0 = 0 ∧ tk = u.1 ∧ u.2.1 = K u.1 ∧ r 105 0 = nI u.2.2.1 ∧ (u.2.2.1 ≠ 0 → r 106 0 = nI u.2.2.2.1) ∧ ac = min 80 u.2.2.2.2.1))
theorem r_P.nw {r : q_R} {K : Nat → Nat} {T : Nat} {u : p_S} {tk nd cc ac : Nat} (h : r_P r K T u tk nd cc ac) (hk : u.2.1 ≠ 40) : r 104 0 = 0 ∧ tk = u.1 ∧ u.2.1 = K u.1 ∧ r 105 0 = nI u.2.2.1 ∧ (u.2.2.1 ≠ 0 → r 106 0 = nI u.2.2.2.1) ∧ ac = min 80 u.2.2.2.2.1 := h.2.resolve_left (fun h9 => hk h9.2.1)
theorem r_P.nw0 {r : q_R} {K : Nat → Nat} {T : Nat} {u : p_S} {tk nd cc ac : Nat} (h : r_P r K T u tk nd cc ac) (hk : r 104 0 = 0) : tk = u.1 ∧ u.2.1 = K u.1 ∧ r 105 0 = nI u.2.2.1 ∧ (u.2.2.1 ≠ 0 → r 106 0 = nI u.2.2.2.1) ∧ ac = min 80 u.2.2.2.2.1 := (h.2.resolve_left (fun h9 => absurd (h9.1.symm.trans hk) (by decide))).2
theorem r_P.w1 {r : q_R} {K : Nat → Nat} {T : Nat} {u : p_S} {tk nd cc ac : Nat} (h : r_P r K T u tk nd cc ac) (hk : ¬ r 104 0 = 0) : r 104 0 = 1 ∧ u.2.1 = 40 ∧ r 105 0 = 1 ∧ r 106 0 = nI u.1 := h.2.resolve_right (fun h9 => hk h9.1)
/-- what reading leaves alone -/
def r_G (r r1 : q_R) (nd cc ac : Nat) : Prop := (∀ j, (j < 28 ∨ 41 < j) → ¬ (103 ≤ j ∧ j ≤ 108) → ¬ (132 ≤ j ∧ j ≤ 134) → r1 j = r j) ∧ (∀ j q, 39 ≤ j → j ≤ 41 → q < nd → r1 j q = r j q) ∧ (∀ j q, 36 ≤ j → j ≤ 38 → q < cc → r1 j q = r j q) ∧ (∀ j q, 28 ≤ j → j ≤ 35 → q < ac → r1 j q = r j q)
theorem r_G.rf {r : q_R} {nd cc ac : Nat} : r_G r r nd cc ac := ⟨fun _ _ _ _ => rfl, fun _ _ _ _ _ => rfl, fun _ _ _ _ _ => rfl, fun _ _ _ _ _ => rfl⟩
theorem r_G.trans {r r1 r2 : q_R} {nd cc ac nd1 cc1 ac1 : Nat} (h : r_G r r1 nd cc ac) (h2 : r_G r1 r2 nd1 cc1 ac1) (e1 : nd ≤ nd1) (e2 : cc ≤ cc1) (e3 : ac ≤ ac1) : r_G r r2 nd cc ac :=
  ⟨fun j a b c => (h2.1 j a b c).trans (h.1 j a b c), fun j q a b c => (h2.2.1 j q a b (by omega)).trans (h.2.1 j q a b c), fun j q a b c => (h2.2.2.1 j q a b (by omega)).trans (h.2.2.1 j q a b c), fun j q a b c => (h2.2.2.2 j q a b (by omega)).trans (h.2.2.2 j q a b c)⟩
def r_num (tk nd cc ac tk1 nd1 cc1 ac1 : Nat) : Prop := tk ≤ tk1 ∧ nd1 + tk ≤ nd + tk1 ∧ nd ≤ nd1 ∧ cc1 + tk ≤ cc + tk1 ∧ cc ≤ cc1 ∧ ac ≤ ac1
/-- reading has come from r to r1, where its state is u1 -/
def r_Q (r r1 : q_R) (K : Nat → Nat) (T : Nat) (u1 : p_S) (tk nd cc ac tk1 nd1 cc1 ac1 : Nat) : Prop := r_P r1 K T u1 tk1 nd1 cc1 ac1 ∧ r_G r r1 nd cc ac ∧ r_num tk nd cc ac tk1 nd1 cc1 ac1
section RQ
variable {r r1 r2 : q_R} {K : Nat → Nat} {Wd : Nat → Int64} {T : Nat} {u u1 u2 : p_S} {tk nd cc ac tk1 nd1 cc1 ac1 tk2 nd2 cc2 ac2 : Nat}
theorem r_Q.rf (h : r_P r K T u tk nd cc ac) : r_Q r r K T u tk nd cc ac tk nd cc ac := ⟨h, r_G.rf, ⟨Nat.le_refl _, Nat.le_refl _, Nat.le_refl _, Nat.le_refl _, Nat.le_refl _, Nat.le_refl _⟩⟩
theorem r_num.trans (h : r_num tk nd cc ac tk1 nd1 cc1 ac1) (h2 : r_num tk1 nd1 cc1 ac1 tk2 nd2 cc2 ac2) : r_num tk nd cc ac tk2 nd2 cc2 ac2 := by
  unfold r_num at *
  omega
theorem r_Q.trans (h : r_Q r r1 K T u1 tk nd cc ac tk1 nd1 cc1 ac1) (h2 : r_Q r1 r2 K T u2 tk1 nd1 cc1 ac1 tk2 nd2 cc2 ac2) : r_Q r r2 K T u2 tk nd cc ac tk2 nd2 cc2 ac2 :=
  ⟨h2.1, h.2.1.trans h2.2.1 h.2.2.2.2.1 h.2.2.2.2.2.2.1 h.2.2.2.2.2.2.2, h.2.2.trans h2.2.2⟩
theorem r_Q.tok (h : r_Q r r1 K T u1 tk nd cc ac tk1 nd1 cc1 ac1) (ht : r_T r K Wd T) : r_T r1 K Wd T := ht.mv (fun j h1 h5 => h.2.1.1 j (by omega) (by omega) (by omega))
/-- a token more is taken -/
theorem r_Q.inc (h : r_Q r r1 K T u1 tk nd cc ac tk1 nd1 cc1 ac1) (hk : u1.2.1 < 39) (hKT : 39 ≤ K T) : r_Q r (rp r1 103 (fun _ => nI (tk1 + 1))) K T (p_step K true u1) tk nd cc ac (tk1 + 1) nd1 cc1 ac1 := by
  obtain ⟨hP, hG, hn⟩ := h
  obtain ⟨w1, w2, w3, w4, w5, w6⟩ := hP.nw (by omega)
  obtain ⟨⟨a1, a2, a3, a4, a5, a6, a7, a8⟩, -⟩ := hP
  have hlt : tk1 < T := by
    rcases Nat.lt_or_ge tk1 T with h | h
    · exact h
    · have e : T = u1.1 := by omega
      rw [e, ← w3] at hKT
      omega
  unfold r_num at hn
  refine ⟨⟨⟨rfl, hlt, a3, by omega, a5, by omega, a7, a8⟩, Or.inr ⟨w1, by rw [w2]; rfl, rfl, w4, w5, w6⟩⟩, ⟨fun j b c d => (rp_n (by omega)).trans (hG.1 j b c d), fun j q b c d => ?_, fun j q b c d => ?_, fun j q b c d => ?_⟩, by unfold r_num; omega⟩
  · rw [rp_n (by omega)]; exact hG.2.1 j q b c d
  · rw [rp_n (by omega)]; exact hG.2.2.1 j q b c d
  · rw [rp_n (by omega)]; exact hG.2.2.2 j q b c d
/-- the first wrong token -/
theorem r_Q.bad (h : r_Q r r1 K T u1 tk nd cc ac tk1 nd1 cc1 ac1) (hk : r1 104 0 = 0) : r_Q r (rp (rp (rp r1 104 (fun _ => 1)) 105 (fun _ => 1)) 106 (fun _ => nI tk1)) K T (p_step K false u1) tk nd cc ac tk1 nd1 cc1 ac1 := by
  obtain ⟨hP, hG, hn⟩ := h
  obtain ⟨w2, w3, w4, w5, w6⟩ := hP.nw0 hk
  refine ⟨⟨hP.1, Or.inl ⟨rfl, rfl, rfl, by rw [w2]; rfl⟩⟩, ⟨fun j b c d => ?_, fun j q b c d => ?_, fun j q b c d => ?_, fun j q b c d => ?_⟩, hn⟩
  · rw [rp_n (by omega), rp_n (by omega), rp_n (by omega)]; exact hG.1 j b c d
  · rw [rp_n (by omega), rp_n (by omega), rp_n (by omega)]; exact hG.2.1 j q b c d
  · rw [rp_n (by omega), rp_n (by omega), rp_n (by omega)]; exact hG.2.2.1 j q b c d
  · rw [rp_n (by omega), rp_n (by omega), rp_n (by omega)]; exact hG.2.2.2 j q b c d
theorem r_Q.bad0 (h : r_Q r r1 K T u1 tk nd cc ac tk1 nd1 cc1 ac1) (hk : ¬ r1 104 0 = 0) : r_Q r r1 K T (p_step K false u1) tk nd cc ac tk1 nd1 cc1 ac1 := by
  obtain ⟨w1, w2, w3, w4⟩ := h.1.w1 hk
  exact ⟨⟨h.1.1, Or.inl ⟨w1, rfl, w3, w4⟩⟩, h.2.1, h.2.2⟩
/-- an error of another kind -/
theorem r_Q.err (h : r_Q r r1 K T u1 tk nd cc ac tk1 nd1 cc1 ac1) (hk : r1 104 0 = 0) (he : r1 105 0 = 0) (h5 : u1.2.2.1 ≤ 5) {e : Nat} : r_Q r (rp (rp r1 105 (fun _ => nI e)) 106 (fun _ => nI tk1)) K T (p_ci true e u1) tk nd cc ac tk1 nd1 cc1 ac1 := by
  obtain ⟨hP, hG, hn⟩ := h
  obtain ⟨w2, w3, w4, w5, w6⟩ := hP.nw0 hk
  have e0 : u1.2.2.1 = 0 := (nI_eq (b := 0) (by omega) (by decide)).1 (w4.symm.trans he)
  refine ⟨⟨hP.1, Or.inr ⟨hk, w2, w3, ?_, fun _ => ?_, w6⟩⟩, ⟨fun j b c d => ?_, fun j q b c d => ?_, fun j q b c d => ?_, fun j q b c d => ?_⟩, hn⟩
  · show nI e = nI (if true = true ∧ u1.2.2.1 = 0 then e else u1.2.2.1)
    rw [if_pos ⟨rfl, e0⟩]
  · show nI tk1 = nI (if true = true ∧ u1.2.2.1 = 0 then u1.1 else u1.2.2.2.1)
    rw [if_pos ⟨rfl, e0⟩, w2]
  · rw [rp_n (by omega), rp_n (by omega)]; exact hG.1 j b c d
  · rw [rp_n (by omega), rp_n (by omega)]; exact hG.2.1 j q b c d
  · rw [rp_n (by omega), rp_n (by omega)]; exact hG.2.2.1 j q b c d
  · rw [rp_n (by omega), rp_n (by omega)]; exact hG.2.2.2 j q b c d
theorem r_Q.err0 (h : r_Q r r1 K T u1 tk nd cc ac tk1 nd1 cc1 ac1) (hk : ¬ r1 104 0 = 0 ∨ ¬ r1 105 0 = 0) {c : Bool} {e : Nat} : r_Q r r1 K T (p_ci c e u1) tk nd cc ac tk1 nd1 cc1 ac1 := by
  obtain ⟨hP, hG, hn⟩ := h
  refine ⟨⟨hP.1, ?_⟩, hG, hn⟩
  rcases hP.2 with ⟨w1, w2, w3, w4⟩ | ⟨w1, w2, w3, w4, w5, w6⟩
  · exact Or.inl ⟨w1, w2, w3, w4⟩
  · have ne : ¬ u1.2.2.1 = 0 := by
      intro e0
      rw [e0] at w4
      exact hk.elim (fun z => z w1) (fun z => z w4)
    refine Or.inr ⟨w1, w2, w3, ?_, fun _ => ?_, w6⟩
    · show r1 105 0 = nI (if c = true ∧ u1.2.2.1 = 0 then e else u1.2.2.1)
      rw [if_neg (fun h9 => ne h9.2)]; exact w4
    · show r1 106 0 = nI (if c = true ∧ u1.2.2.1 = 0 then u1.1 else u1.2.2.2.1)
      rw [if_neg (fun h9 => ne h9.2)]; exact w5 ne
/-- a node more -/
theorem r_Q.node (h : r_Q r r1 K T u1 tk nd cc ac tk1 nd1 cc1 ac1) (hs : nd1 + tk + 1 ≤ nd + tk1) (ht : nd ≤ tk) {x y z : Int32} : r_Q r (rp (rp (rp (rp r1 39 (upd (r1 39) nd1 x)) 40 (upd (r1 40) nd1 y)) 41 (upd (r1 41) nd1 z)) 134 (fun _ => nI (nd1 + 1))) K T u1 tk nd cc ac tk1 (nd1 + 1) cc1 ac1 := by
  obtain ⟨⟨⟨a1, a2, a3, a4, a5, a6, a7, a8⟩, hc⟩, hG, hn⟩ := h
  unfold r_num at hn
  refine ⟨⟨⟨a1, a2, rfl, by omega, a5, a6, a7, a8⟩, hc⟩, ⟨fun j b c d => ?_, fun j q b c d => ?_, fun j q b c d => ?_, fun j q b c d => ?_⟩, by unfold r_num; omega⟩
  · rw [rp_n (by omega), rp_n (by omega), rp_n (by omega), rp_n (by omega)]; exact hG.1 j b c d
  · rw [rp_n (by omega)]
    rcases (by omega : j = 39 ∨ j = 40 ∨ j = 41) with e | e | e
    · rw [e, rp_n (by decide), rp_n (by decide), rp_s, z_un (by omega)]; exact hG.2.1 39 q (by decide) (by decide) d
    · rw [e, rp_n (by decide), rp_s, z_un (by omega)]; exact hG.2.1 40 q (by decide) (by decide) d
    · rw [e, rp_s, z_un (by omega)]; exact hG.2.1 41 q (by decide) (by decide) d
  · rw [rp_n (by omega), rp_n (by omega), rp_n (by omega), rp_n (by omega)]; exact hG.2.2.1 j q b c d
  · rw [rp_n (by omega), rp_n (by omega), rp_n (by omega), rp_n (by omega)]; exact hG.2.2.2 j q b c d
/-- a state that is read from a row in which blocks or brackets were counted -/
theorem r_P.up7 (h : r_P r K T u tk nd cc ac) {x : Int32} : r_P (rp r 107 (fun _ => x)) K T u tk nd cc ac := h
theorem r_P.up8 (h : r_P r K T u tk nd cc ac) {x : Int32} : r_P (rp r 108 (fun _ => x)) K T u tk nd cc ac := h
theorem r_G.up7 (h : r_G r r1 nd cc ac) {x : Int32} : r_G r (rp r1 107 (fun _ => x)) nd cc ac := by
  refine ⟨fun j b c d => (rp_n (by omega)).trans (h.1 j b c d), fun j q b c d => ?_, fun j q b c d => ?_, fun j q b c d => ?_⟩
  · rw [rp_n (by omega)]; exact h.2.1 j q b c d
  · rw [rp_n (by omega)]; exact h.2.2.1 j q b c d
  · rw [rp_n (by omega)]; exact h.2.2.2 j q b c d
theorem r_G.up8 (h : r_G r r1 nd cc ac) {x : Int32} : r_G r (rp r1 108 (fun _ => x)) nd cc ac := by
  refine ⟨fun j b c d => (rp_n (by omega)).trans (h.1 j b c d), fun j q b c d => ?_, fun j q b c d => ?_, fun j q b c d => ?_⟩
  · rw [rp_n (by omega)]; exact h.2.1 j q b c d
  · rw [rp_n (by omega)]; exact h.2.2.1 j q b c d
  · rw [rp_n (by omega)]; exact h.2.2.2 j q b c d
theorem r_Q.u7 (h : r_Q r r1 K T u1 tk nd cc ac tk1 nd1 cc1 ac1) {x : Int32} : r_Q r (rp r1 107 (fun _ => x)) K T u1 tk nd cc ac tk1 nd1 cc1 ac1 := ⟨h.1.up7, h.2.1.up7, h.2.2⟩
theorem r_Q.u8 (h : r_Q r r1 K T u1 tk nd cc ac tk1 nd1 cc1 ac1) {x : Int32} : r_Q r (rp r1 108 (fun _ => x)) K T u1 tk nd cc ac tk1 nd1 cc1 ac1 := ⟨h.1.up8, h.2.1.up8, h.2.2⟩
theorem r_T.up (h : r_T r K Wd T) {j : Nat} {g : Nat → Int32} (hj : 5 < j) : r_T (rp r j g) K Wd T := h.mv (fun i h1 h5 => rp_n (by omega))
end RQ
theorem r_G.upS {r r1 : q_R} {nd cc ac j : Nat} {g : Nat → Int32} (h : r_G r r1 nd cc ac) (hj : (103 ≤ j ∧ j ≤ 108) ∨ (132 ≤ j ∧ j ≤ 134)) : r_G r (rp r1 j g) nd cc ac := by
  refine ⟨fun i b c d => (rp_n (by omega)).trans (h.1 i b c d), fun i q b c d => ?_, fun i q b c d => ?_, fun i q b c d => ?_⟩
  · rw [rp_n (by omega)]; exact h.2.1 i q b c d
  · rw [rp_n (by omega)]; exact h.2.2.1 i q b c d
  · rw [rp_n (by omega)]; exact h.2.2.2 i q b c d
theorem r_G.upA {r r1 : q_R} {nd cc ac j q0 : Nat} {x : Int32} (h : r_G r r1 nd cc ac) (hj : (39 ≤ j ∧ j ≤ 41 ∧ nd ≤ q0) ∨ (36 ≤ j ∧ j ≤ 38 ∧ cc ≤ q0) ∨ (28 ≤ j ∧ j ≤ 35 ∧ ac ≤ q0)) : r_G r (rp r1 j (upd (r1 j) q0 x)) nd cc ac := by
  refine ⟨fun i b c d => (rp_n (by omega)).trans (h.1 i b c d), fun i q b c d => ?_, fun i q b c d => ?_, fun i q b c d => ?_⟩
  · by_cases e : i = j
    · subst e; rw [rp_s, z_un (by omega)]; exact h.2.1 i q b c d
    · rw [rp_n e]; exact h.2.1 i q b c d
  · by_cases e : i = j
    · subst e; rw [rp_s, z_un (by omega)]; exact h.2.2.1 i q b c d
    · rw [rp_n e]; exact h.2.2.1 i q b c d
  · by_cases e : i = j
    · subst e; rw [rp_s, z_un (by omega)]; exact h.2.2.2 i q b c d
    · rw [rp_n e]; exact h.2.2.2 i q b c d
/-- names that were told: by their tokens -/
def r_nm (r : q_R) (K : Nat → Nat) (Wd : Nat → Int64) (T row cnt : Nat) (nm : Nat → Int64) : Prop := ∀ i, i < cnt → ∃ t, r row i = nI t ∧ t ≤ T ∧ K t = 37 ∧ Wd t = nm i
theorem r_nm.mv {r r1 : q_R} {K : Nat → Nat} {Wd : Nat → Int64} {T row cnt : Nat} {nm : Nat → Int64} (h : r_nm r K Wd T row cnt nm) (e : r1 row = r row) : r_nm r1 K Wd T row cnt nm := by
  unfold r_nm
  rw [e]
  exact h
theorem if_pos_max {i : Nat} (h : i < 2 ^ 31) : (if (0 : Int32) < nI i then nI i else 0) = nI i := by
  by_cases h0 : (0 : Int32) < nI i
  · rw [if_pos h0]
  · rw [if_neg h0]
    rcases Nat.eq_zero_or_pos i with e | e
    · rw [e]; rfl
    · exact absurd (nI_lt (a := 0) e h) h0

set_option maxHeartbeats 4000000 in
set_option maxRecDepth 100000 in
theorem kX14_is (l : Launch) (E : q_E) (f : q_H) (n : Nat) (M : Nat) (r : q_R) (K : Nat → Nat) (Wd : Nat → Int64) (T : Nat) (u : p_S) (tk nd cc ac : Nat) (w : Nat) (x : Int32)  (hm : RM E f M r) (hTK : r_T r K Wd T) (hT : T ≤ 400) (hKT : 39 ≤ K T) (hK41 : ∀ j, K j < 41) (hP : r_P r K T u tk nd cc ac) (hok : p_ok K T u) (hxw : x = nI (m_kd w)) (hw : w < 40) : Met l yX14_is wsX14_is ({ frames := 0, cells := 0, slots := 0, locals := 0 }) (q_P E [.ref M, .int x] f n) (q_Qi E (fun r0 f1 n1 => b01 (decide (u.2.1 = w)) = r0 ∧ f = f1 ∧ n = n1)) 0 0 (q_ge E) := by
  refine Met.ofW (cc := cX14_is) (maxL := 2) (ret := (some .boolean)) (by decide) rfl ?_
  intro p e s m args below meth c s₁ B hml hv
  obtain ⟨rfl, hA, hW⟩ := hv
  have hx := B.exec
  have hb := B.bytes
  have hr := B.returns
  have hts := atoms_spec (ws := wsX14_is) B.pre
  have hown : s.vm.findClass RX14 = some m.cls := findClass_of_methodNamed B.named
  have hlocks := B.notSynchronized
  have hS : va_S (q_ge E) s.heap s.heap [] := va_S.rf
  have iX14 : ∀ w ∈ wsX140, w ∈ wsX14_is := by decide +kernel
  have hl := lv_entry ([.ref M, .int x]) (n := 2) (Nat.le_of_ble_eq_true rfl)
  rw [lg_entry_eq]
  generalize (lg_sl ([.ref M, .int x]) ++ List.replicate (2 - (lg_sl ([.ref M, .int x])).length) Slot.unset).toArray = ls at hl ⊢
  have hl : lv_has ls 2 [(0, .ref M), (1, .int x)] := hl
  have hmE := hm.eq
  rw [hm.eq] at hW
  have Q0 := r_Q.rf hP
  have htk := hP.1.2.1
  have hnd := hP.1.2.2.2.1
  have hcc := hP.1.2.2.2.2.2.1
  have hac := hP.1.2.2.2.2.2.2.2
  refine lv_aload_n hx hb dX14_is_0 rfl (lv_at hl 0 rfl) ?_
  refine q_get hx hb hts hown hA hW iX14 rO_0 rfl 9 (by decide) (hts (.fieldLink RX14 116 "HighRecipesModel" "isWrong" "Z") (by decide +kernel)) (fun _ h9 => h9) (v := .int (r 104 0)) rfl dX14_is_1 ?_
  refine lv_if_ne (tgt := 24) hx hb dX14_is_4 (by decide) (fun c_4 => ?_) (fun c_4 => ?_)
  · have hw1 := hP.w1 c_4
    refine lv_iconst (v := 0) hx hb dX14_is_24 (by decide) ?_
    exact q_zret hx hb hr hlocks hW hS rfl ⟨by rw [hw1.2.1, decide_eq_false (by omega)]; rfl, hmE, rfl⟩ (Nat.le_of_ble_eq_true rfl) (Nat.le_of_ble_eq_true rfl) dX14_is_25
  · have hnw := hP.nw0 c_4
    refine lv_aload_n hx hb dX14_is_7 rfl (lv_at hl 0 rfl) ?_
    refine q_get hx hb hts hown hA hW iX14 rO_0 rfl 4 (by decide) (hts (.fieldLink RX14 17 "HighRecipesModel" "kind" "[I") (by decide +kernel)) (fun _ h9 => h9) (v := .ref (M + 2)) rfl dX14_is_8 ?_
    refine lv_aload_n hx hb dX14_is_11 rfl (lv_at hl 0 rfl) ?_
    refine q_get hx hb hts hown hA hW iX14 rO_0 rfl 8 (by decide) (hts (.fieldLink RX14 120 "HighRecipesModel" "token" "I") (by decide +kernel)) (fun _ h9 => h9) (v := .int (nI tk)) (congrArg (fun z => some (Value.int z)) hP.1.1) dX14_is_12 ?_
    refine q_ald hx hb hA hW (rO_2 (g := r 2) rfl) tk rfl (by omega) (by decide) (x := nI (m_kd (K tk))) (hTK.1 tk htk) dX14_is_15 ?_
    refine lv_iload_n hx hb dX14_is_16 rfl (lv_at hl 1 rfl) ?_
    refine lv_icmp_ne (tgt := 24) hx hb dX14_is_17 (by decide) (fun c_17 => ?_) (fun c_17 => ?_)
    · refine lv_iconst (v := 0) hx hb dX14_is_24 (by decide) ?_
      exact q_zret hx hb hr hlocks hW hS rfl ⟨by rw [decide_eq_false (fun h9 => c_17 (by rw [hxw, ← h9, hnw.2.1, ← hnw.1]))]; rfl, hmE, rfl⟩ (Nat.le_of_ble_eq_true rfl) (Nat.le_of_ble_eq_true rfl) dX14_is_25
    · refine lv_iconst (v := 1) hx hb dX14_is_20 (by decide) ?_
      refine lv_goto (tgt := 25) hx hb dX14_is_21 (by decide) ?_
      exact q_zret hx hb hr hlocks hW hS rfl ⟨by rw [decide_eq_true (show u.2.1 = w from by rw [hnw.2.1, ← hnw.1]; exact (m_kd_eq (hK41 _) (by omega)).1 (c_17.trans hxw))]; rfl, hmE, rfl⟩ (Nat.le_of_ble_eq_true rfl) (Nat.le_of_ble_eq_true rfl) dX14_is_25

set_option maxHeartbeats 4000000 in
set_option maxRecDepth 100000 in
theorem kX14_wrong (l : Launch) (E : q_E) (f : q_H) (n : Nat) (M : Nat) (r : q_R) (K : Nat → Nat) (Wd : Nat → Int64) (T : Nat) (u : p_S) (tk nd cc ac : Nat)  (hm : RM E f M r) (hTK : r_T r K Wd T) (hT : T ≤ 400) (hKT : 39 ≤ K T) (hK41 : ∀ j, K j < 41) (hP : r_P r K T u tk nd cc ac) (hok : p_ok K T u) : Met l yX14_wrong wsX14_wrong ({ frames := 0, cells := 0, slots := 0, locals := 0 }) (q_P E [.ref M] f n) (q_Qv E (fun f1 n1 => ∃ (r1 : q_R) (tk1 nd1 cc1 ac1 : Nat), r_Q r r1 K T (p_step K false u) tk nd cc ac tk1 nd1 cc1 ac1 ∧ r1 107 0 = r 107 0 ∧ (r1 108 0 = r 108 0) ∧ (cc1 = cc ∧ ac1 = ac) ∧ (r1 104 0 = 1) ∧ rO E f M r1 = f1 ∧ n = n1)) 0 0 (q_ge E) := by
  refine Met.ofW (cc := cX14_wrong) (maxL := 1) (ret := none) (by decide) rfl ?_
  intro p e s m args below meth c s₁ B hml hv
  obtain ⟨rfl, hA, hW⟩ := hv
  have hx := B.exec
  have hb := B.bytes
  have hr := B.returns
  have hts := atoms_spec (ws := wsX14_wrong) B.pre
  have hown : s.vm.findClass RX14 = some m.cls := findClass_of_methodNamed B.named
  have hlocks := B.notSynchronized
  have hS : va_S (q_ge E) s.heap s.heap [] := va_S.rf
  have iX14 : ∀ w ∈ wsX140, w ∈ wsX14_wrong := by decide +kernel
  have hl := lv_entry ([.ref M]) (n := 1) (Nat.le_of_ble_eq_true rfl)
  rw [lg_entry_eq]
  generalize (lg_sl ([.ref M]) ++ List.replicate (1 - (lg_sl ([.ref M])).length) Slot.unset).toArray = ls at hl ⊢
  have hl : lv_has ls 1 [(0, .ref M)] := hl
  have hmE := hm.eq
  rw [hm.eq] at hW
  have Q0 := r_Q.rf hP
  have htk := hP.1.2.1
  have hnd := hP.1.2.2.2.1
  have hcc := hP.1.2.2.2.2.2.1
  have hac := hP.1.2.2.2.2.2.2.2
  refine lv_aload_n hx hb dX14_wrong_0 rfl (lv_at hl 0 rfl) ?_
  refine q_get hx hb hts hown hA hW iX14 rO_0 rfl 9 (by decide) (hts (.fieldLink RX14 116 "HighRecipesModel" "isWrong" "Z") (by decide +kernel)) (fun _ h9 => h9) (v := .int (r 104 0)) rfl dX14_wrong_1 ?_
  refine lv_if_eq (tgt := 8) hx hb dX14_wrong_4 (by decide) (fun c_4 => ?_) (fun c_4 => ?_)
  · refine lv_aload_n hx hb dX14_wrong_8 rfl (lv_at hl 0 rfl) ?_
    refine lv_iconst (v := 1) hx hb dX14_wrong_9 (by decide) ?_
    refine q_put hx hb hts hown hA hW hS iX14 tyX14 tyX14_ok nmX14 rO_0 rfl 9 (by decide) (hts (.fieldLink RX14 116 "HighRecipesModel" "isWrong" "Z") (by decide +kernel)) (fun _ h9 => h9) rfl rfl rfl (Nat.le_of_ble_eq_true rfl) dX14_wrong_10 (fun H locs hW hS => ?_)
    have hW := q_s0 104 (1) hW rfl (by decide)
    refine lv_aload_n hx hb dX14_wrong_13 rfl (lv_at hl 0 rfl) ?_
    refine lv_iconst (v := 1) hx hb dX14_wrong_14 (by decide) ?_
    refine q_put hx hb hts hown hA hW hS iX14 tyX14 tyX14_ok nmX14 rO_0 rfl 10 (by decide) (hts (.fieldLink RX14 123 "HighRecipesModel" "error" "I") (by decide +kernel)) (fun _ h9 => h9) rfl rfl rfl (Nat.le_of_ble_eq_true rfl) dX14_wrong_15 (fun H locs hW hS => ?_)
    have hW := q_s0 105 (1) hW rfl (by decide)
    refine lv_aload_n hx hb dX14_wrong_18 rfl (lv_at hl 0 rfl) ?_
    refine lv_aload_n hx hb dX14_wrong_19 rfl (lv_at hl 0 rfl) ?_
    refine q_get hx hb hts hown hA hW iX14 rO_0 rfl 8 (by decide) (hts (.fieldLink RX14 120 "HighRecipesModel" "token" "I") (by decide +kernel)) (fun _ h9 => h9) (v := .int (nI tk)) (congrArg (fun z => some (Value.int z)) hP.1.1) dX14_wrong_20 ?_
    refine q_put hx hb hts hown hA hW hS iX14 tyX14 tyX14_ok nmX14 rO_0 rfl 11 (by decide) (hts (.fieldLink RX14 126 "HighRecipesModel" "errorToken" "I") (by decide +kernel)) (fun _ h9 => h9) rfl rfl rfl (Nat.le_of_ble_eq_true rfl) dX14_wrong_23 (fun H locs hW hS => ?_)
    have hW := q_s0 106 (nI tk) hW rfl (by decide)
    exact q_vret hx hb hr hlocks hW hS ⟨_, _, _, _, _, (Q0.bad c_4), rfl, rfl, ⟨rfl, rfl⟩, rfl, rfl, rfl⟩ (Nat.le_of_ble_eq_true rfl) (Nat.le_of_ble_eq_true rfl) dX14_wrong_26
  · exact q_vret hx hb hr hlocks hW hS ⟨_, _, _, _, _, (Q0.bad0 c_4), rfl, rfl, ⟨rfl, rfl⟩, (hP.w1 c_4).1, rfl, rfl⟩ (Nat.le_of_ble_eq_true rfl) (Nat.le_of_ble_eq_true rfl) dX14_wrong_7

set_option maxHeartbeats 4000000 in
set_option maxRecDepth 100000 in
theorem kX14_take (l : Launch) (E : q_E) (f : q_H) (n : Nat) (M : Nat) (r : q_R) (K : Nat → Nat) (Wd : Nat → Int64) (T : Nat) (u : p_S) (tk nd cc ac : Nat) (w : Nat) (x : Int32)  (hm : RM E f M r) (hTK : r_T r K Wd T) (hT : T ≤ 400) (hKT : 39 ≤ K T) (hK41 : ∀ j, K j < 41) (hP : r_P r K T u tk nd cc ac) (hok : p_ok K T u) (hxw : x = nI (m_kd w)) (hw : w < 39) : Met l yX14_take wsX14_take ({ frames := 1, cells := 0, slots := 0, locals := 21 }) (q_P E [.ref M, .int x] f n) (q_Qv E (fun f1 n1 => ∃ (r1 : q_R) (tk1 nd1 cc1 ac1 : Nat), r_Q r r1 K T (p_take K w u) tk nd cc ac tk1 nd1 cc1 ac1 ∧ r1 107 0 = r 107 0 ∧ (r1 108 0 = r 108 0) ∧ (cc1 = cc ∧ ac1 = ac) ∧ (r 104 0 = 1 → r1 104 0 = 1) ∧ rO E f M r1 = f1 ∧ n = n1)) 0 0 (q_ge E) := by
  refine Met.ofW (cc := cX14_take) (maxL := 2) (ret := none) (by decide) rfl ?_
  intro p e s m args below meth c s₁ B hml hv
  obtain ⟨rfl, hA, hW⟩ := hv
  have hx := B.exec
  have hb := B.bytes
  have hr := B.returns
  have hts := atoms_spec (ws := wsX14_take) B.pre
  have hown : s.vm.findClass RX14 = some m.cls := findClass_of_methodNamed B.named
  have hlocks := B.notSynchronized
  have hS : va_S (q_ge E) s.heap s.heap [] := va_S.rf
  have iX14 : ∀ w ∈ wsX140, w ∈ wsX14_take := by decide +kernel
  have hl := lv_entry ([.ref M, .int x]) (n := 2) (Nat.le_of_ble_eq_true rfl)
  rw [lg_entry_eq]
  generalize (lg_sl ([.ref M, .int x]) ++ List.replicate (2 - (lg_sl ([.ref M, .int x])).length) Slot.unset).toArray = ls at hl ⊢
  have hl : lv_has ls 2 [(0, .ref M), (1, .int x)] := hl
  have hmE := hm.eq
  rw [hm.eq] at hW
  have Q0 := r_Q.rf hP
  have htk := hP.1.2.1
  have hnd := hP.1.2.2.2.1
  have hcc := hP.1.2.2.2.2.2.1
  have hac := hP.1.2.2.2.2.2.2.2
  refine lv_aload_n hx hb dX14_take_0 rfl (lv_at hl 0 rfl) ?_
  refine lv_iload_n hx hb dX14_take_1 rfl (lv_at hl 1 rfl) ?_
  refine q_ci (va_runV (As := [.int x]) (rest := []) ⟨hx, hb, hml, hown, hts⟩ (kX14_is l E (rO E f M r) n M r K Wd T u tk nd cc ac w x rO_K hTK hT hKT hK41 Q0.1 hok hxw (by omega)) (cwV 1 hts gX14_take_X14_is rfl rfl rfl (by decide +kernel) ⟨(Nat.le_of_ble_eq_true rfl), (Nat.le_of_ble_eq_true rfl)⟩) (q_pV hA hW hS (ci := 12) rfl rO_0) rfl rfl hl.1 rfl (lv_room (Nat.le_of_ble_eq_true rfl)) dX14_take_2 ⟨Nat.le_of_ble_eq_true rfl, Nat.le_of_ble_eq_true rfl⟩) hS (fun r_2 f_2 n_2 H locs hp hW hS => ?_)
  obtain ⟨rfl, rfl, rfl⟩ := hp
  have hW : q_W E (rO E f M r) n H := hW
  refine lv_if_eq (tgt := 21) hx hb dX14_take_5 (by decide) (fun c_5 => ?_) (fun c_5 => ?_)
  · have eu : ¬ u.2.1 = w := of_decide_eq_false (b01_0 c_5)
    refine lv_aload_n hx hb dX14_take_21 rfl (lv_at hl 0 rfl) ?_
    refine q_cv (va_runV (As := []) (rest := []) ⟨hx, hb, hml, hown, hts⟩ (kX14_wrong l E (rO E f M r) n M r K Wd T u tk nd cc ac rO_K hTK hT hKT hK41 Q0.1 hok) (cwV 0 hts gX14_take_X14_wrong rfl rfl rfl (by decide +kernel) ⟨(Nat.le_of_ble_eq_true rfl), (Nat.le_of_ble_eq_true rfl)⟩) (q_pV hA hW hS (ci := 12) rfl rO_0) rfl rfl hl.1 rfl (lv_room (Nat.le_of_ble_eq_true rfl)) dX14_take_22 ⟨Nat.le_of_ble_eq_true rfl, Nat.le_of_ble_eq_true rfl⟩) hS (fun f_22 n_22 H locs hp hW hS => ?_)
    obtain ⟨R_22, tk_22, nd_22, cc_22, ac_22, q_22, e7_22, e8_22, ec_22, ex_22, rfl, rfl⟩ := hp
    have G_22 : p_go K T u (p_step K false u) := (go_step hKT (fun h9 => by cases h9))
    have GG_22 := G_22 hok
    have ok_22 := GG_22.1
    have le_22 := GG_22.2.2.2.1
    have er_22 := GG_22.2.2.2.2
    have Q_22 := Q0.trans q_22
    have T_22 := Q_22.tok hTK
    have num_22 := Q_22.2.2
    unfold r_num at num_22
    have bt_22 := Q_22.1.1.2.1
    have bn_22 := Q_22.1.1.2.2.2.1
    have bc_22 := Q_22.1.1.2.2.2.2.2.1
    have ba_22 := Q_22.1.1.2.2.2.2.2.2.2
    have qn_22 := q_22.2.2
    unfold r_num at qn_22
    rw [rO_rO] at hW
    have hW : q_W E (rO E f M R_22) n H := hW
    exact q_vret hx hb hr hlocks hW hS ⟨_, _, _, _, _, (by unfold p_take; rw [decide_eq_false eu]; exact Q_22), (e7_22.trans rfl), (e8_22.trans rfl), ⟨(ec_22.1.trans rfl), (ec_22.2.trans rfl)⟩, (fun _ => ex_22), rfl, rfl⟩ (Nat.le_of_ble_eq_true rfl) (Nat.le_of_ble_eq_true rfl) dX14_take_25
  · have eu : u.2.1 = w := of_decide_eq_true (b01_1 c_5)
    refine lv_aload_n hx hb dX14_take_8 rfl (lv_at hl 0 rfl) ?_
    refine lv_dup hx hb dX14_take_9 rfl ?_
    refine q_get hx hb hts hown hA hW iX14 rO_0 rfl 8 (by decide) (hts (.fieldLink RX14 120 "HighRecipesModel" "token" "I") (by decide +kernel)) (fun _ h9 => h9) (v := .int (nI tk)) (congrArg (fun z => some (Value.int z)) hP.1.1) dX14_take_10 ?_
    refine lv_iconst (v := 1) hx hb dX14_take_13 (by decide) ?_
    refine lv_iadd hx hb dX14_take_14 ?_
    refine q_put hx hb hts hown hA hW hS iX14 tyX14 tyX14_ok nmX14 rO_0 rfl 8 (by decide) (hts (.fieldLink RX14 120 "HighRecipesModel" "token" "I") (by decide +kernel)) (fun _ h9 => h9) rfl rfl rfl (Nat.le_of_ble_eq_true rfl) dX14_take_15 (fun H locs hW hS => ?_)
    rw [show (nI tk) + 1 = nI (tk + 1) from nI_1 tk] at hW
    have hW := q_s0 103 (nI (tk + 1)) hW rfl (by decide)
    obtain ⟨R_15, hR_15⟩ : ∃ z, z = rp r 103 (fun _ => nI (tk + 1)) := ⟨_, rfl⟩
    rw [← hR_15] at hW
    have Q_15 : r_Q r R_15 K T (p_step K true u) tk nd cc ac (tk + 1) nd cc ac := by rw [hR_15]; exact (Q0.inc (by omega) hKT)
    have T_15 := Q_15.tok hTK
    have num_15 := Q_15.2.2
    unfold r_num at num_15
    have bt_15 := Q_15.1.1.2.1
    have bn_15 := Q_15.1.1.2.2.2.1
    have bc_15 := Q_15.1.1.2.2.2.2.2.1
    have ba_15 := Q_15.1.1.2.2.2.2.2.2.2
    have G_15 : p_go K T u (p_step K true u) := (go_step hKT (fun _ => by omega))
    have GG_15 := G_15 hok
    have ok_15 := GG_15.1
    have le_15 := GG_15.2.2.2.1
    have er_15 := GG_15.2.2.2.2
    refine lv_goto (tgt := 25) hx hb dX14_take_18 (by decide) ?_
    exact q_vret hx hb hr hlocks hW hS ⟨_, _, _, _, _, (by unfold p_take; rw [decide_eq_true eu]; exact Q_15), (show R_15 107 0 = r 107 0 from by rw [hR_15]; exact rfl), (show R_15 108 0 = r 108 0 from by rw [hR_15]; exact rfl), ⟨rfl, rfl⟩, (fun h9 => (show R_15 104 0 = r 104 0 from by rw [hR_15]; rfl).trans h9), rfl, rfl⟩ (Nat.le_of_ble_eq_true rfl) (Nat.le_of_ble_eq_true rfl) dX14_take_25

set_option maxHeartbeats 4000000 in
set_option maxRecDepth 100000 in
theorem kX14_takesT (l : Launch) (E : q_E) (f : q_H) (n : Nat) (M : Nat) (r : q_R) (K : Nat → Nat) (Wd : Nat → Int64) (T : Nat) (u : p_S) (tk nd cc ac : Nat) (w : Nat) (x : Int32)  (hm : RM E f M r) (hTK : r_T r K Wd T) (hT : T ≤ 400) (hKT : 39 ≤ K T) (hK41 : ∀ j, K j < 41) (hP : r_P r K T u tk nd cc ac) (hok : p_ok K T u) (hxw : x = nI (m_kd w)) (hw : w < 39) (eu : u.2.1 = w) : Met l yX14_takes wsX14_takes ({ frames := 1, cells := 0, slots := 0, locals := 21 }) (q_P E [.ref M, .int x] f n) (q_Qi E (fun r0 f1 n1 => ∃ (r1 : q_R) (tk1 nd1 cc1 ac1 : Nat), r_Q r r1 K T (p_step K true u) tk nd cc ac tk1 nd1 cc1 ac1 ∧ r1 107 0 = r 107 0 ∧ (r1 108 0 = r 108 0) ∧ (cc1 = cc ∧ ac1 = ac) ∧ (nd1 + tk + 1 ≤ nd + tk1 ∧ 1 = r0) ∧ rO E f M r1 = f1 ∧ n = n1)) 0 0 (q_ge E) := by
  refine Met.ofW (cc := cX14_takes) (maxL := 2) (ret := (some .boolean)) (by decide) rfl ?_
  intro p e s m args below meth c s₁ B hml hv
  obtain ⟨rfl, hA, hW⟩ := hv
  have hx := B.exec
  have hb := B.bytes
  have hr := B.returns
  have hts := atoms_spec (ws := wsX14_takes) B.pre
  have hown : s.vm.findClass RX14 = some m.cls := findClass_of_methodNamed B.named
  have hlocks := B.notSynchronized
  have hS : va_S (q_ge E) s.heap s.heap [] := va_S.rf
  have iX14 : ∀ w ∈ wsX140, w ∈ wsX14_takes := by decide +kernel
  have hl := lv_entry ([.ref M, .int x]) (n := 2) (Nat.le_of_ble_eq_true rfl)
  rw [lg_entry_eq]
  generalize (lg_sl ([.ref M, .int x]) ++ List.replicate (2 - (lg_sl ([.ref M, .int x])).length) Slot.unset).toArray = ls at hl ⊢
  have hl : lv_has ls 2 [(0, .ref M), (1, .int x)] := hl
  have hmE := hm.eq
  rw [hm.eq] at hW
  have Q0 := r_Q.rf hP
  have htk := hP.1.2.1
  have hnd := hP.1.2.2.2.1
  have hcc := hP.1.2.2.2.2.2.1
  have hac := hP.1.2.2.2.2.2.2.2
  refine lv_aload_n hx hb dX14_takes_0 rfl (lv_at hl 0 rfl) ?_
  refine lv_iload_n hx hb dX14_takes_1 rfl (lv_at hl 1 rfl) ?_
  refine q_ci (va_runV (As := [.int x]) (rest := []) ⟨hx, hb, hml, hown, hts⟩ (kX14_is l E (rO E f M r) n M r K Wd T u tk nd cc ac w x rO_K hTK hT hKT hK41 Q0.1 hok hxw (by omega)) (cwV 1 hts gX14_takes_X14_is rfl rfl rfl (by decide +kernel) ⟨(Nat.le_of_ble_eq_true rfl), (Nat.le_of_ble_eq_true rfl)⟩) (q_pV hA hW hS (ci := 12) rfl rO_0) rfl rfl hl.1 rfl (lv_room (Nat.le_of_ble_eq_true rfl)) dX14_takes_2 ⟨Nat.le_of_ble_eq_true rfl, Nat.le_of_ble_eq_true rfl⟩) hS (fun r_2 f_2 n_2 H locs hp hW hS => ?_)
  obtain ⟨rfl, rfl, rfl⟩ := hp
  have hW : q_W E (rO E f M r) n H := hW
  refine lv_if_ne (tgt := 10) hx hb dX14_takes_5 (by decide) (fun c_5 => ?_) (fun c_5 => False.elim ((fun h9 => absurd h9 (b01_T (decide_eq_true eu))) c_5))
  refine lv_aload_n hx hb dX14_takes_10 rfl (lv_at hl 0 rfl) ?_
  refine lv_dup hx hb dX14_takes_11 rfl ?_
  refine q_get hx hb hts hown hA hW iX14 rO_0 rfl 8 (by decide) (hts (.fieldLink RX14 120 "HighRecipesModel" "token" "I") (by decide +kernel)) (fun _ h9 => h9) (v := .int (nI tk)) (congrArg (fun z => some (Value.int z)) hP.1.1) dX14_takes_12 ?_
  refine lv_iconst (v := 1) hx hb dX14_takes_15 (by decide) ?_
  refine lv_iadd hx hb dX14_takes_16 ?_
  refine q_put hx hb hts hown hA hW hS iX14 tyX14 tyX14_ok nmX14 rO_0 rfl 8 (by decide) (hts (.fieldLink RX14 120 "HighRecipesModel" "token" "I") (by decide +kernel)) (fun _ h9 => h9) rfl rfl rfl (Nat.le_of_ble_eq_true rfl) dX14_takes_17 (fun H locs hW hS => ?_)
  rw [show (nI tk) + 1 = nI (tk + 1) from nI_1 tk] at hW
  have hW := q_s0 103 (nI (tk + 1)) hW rfl (by decide)
  obtain ⟨R_15, hR_15⟩ : ∃ z, z = rp r 103 (fun _ => nI (tk + 1)) := ⟨_, rfl⟩
  rw [← hR_15] at hW
  have Q_15 : r_Q r R_15 K T (p_step K true u) tk nd cc ac (tk + 1) nd cc ac := by rw [hR_15]; exact (Q0.inc (by omega) hKT)
  have T_15 := Q_15.tok hTK
  have num_15 := Q_15.2.2
  unfold r_num at num_15
  have bt_15 := Q_15.1.1.2.1
  have bn_15 := Q_15.1.1.2.2.2.1
  have bc_15 := Q_15.1.1.2.2.2.2.2.1
  have ba_15 := Q_15.1.1.2.2.2.2.2.2.2
  have G_15 : p_go K T u (p_step K true u) := (go_step hKT (fun _ => by omega))
  have GG_15 := G_15 hok
  have ok_15 := GG_15.1
  have le_15 := GG_15.2.2.2.1
  have er_15 := GG_15.2.2.2.2
  refine lv_iconst (v := 1) hx hb dX14_takes_20 (by decide) ?_
  exact q_zret hx hb hr hlocks hW hS rfl ⟨_, _, _, _, _, Q_15, (show R_15 107 0 = r 107 0 from by rw [hR_15]; exact rfl), (show R_15 108 0 = r 108 0 from by rw [hR_15]; exact rfl), ⟨rfl, rfl⟩, ⟨(by omega), rfl⟩, rfl, rfl⟩ (Nat.le_of_ble_eq_true rfl) (Nat.le_of_ble_eq_true rfl) dX14_takes_21

set_option maxHeartbeats 4000000 in
set_option maxRecDepth 100000 in
theorem kX14_takesF (l : Launch) (E : q_E) (f : q_H) (n : Nat) (M : Nat) (r : q_R) (K : Nat → Nat) (Wd : Nat → Int64) (T : Nat) (u : p_S) (tk nd cc ac : Nat) (w : Nat) (x : Int32)  (hm : RM E f M r) (hTK : r_T r K Wd T) (hT : T ≤ 400) (hKT : 39 ≤ K T) (hK41 : ∀ j, K j < 41) (hP : r_P r K T u tk nd cc ac) (hok : p_ok K T u) (hxw : x = nI (m_kd w)) (hw : w < 39) (eu : ¬ u.2.1 = w) : Met l yX14_takes wsX14_takes ({ frames := 1, cells := 0, slots := 0, locals := 21 }) (q_P E [.ref M, .int x] f n) (q_Qi E (fun r0 f1 n1 => 0 = r0 ∧ f = f1 ∧ n = n1)) 0 0 (q_ge E) := by
  refine Met.ofW (cc := cX14_takes) (maxL := 2) (ret := (some .boolean)) (by decide) rfl ?_
  intro p e s m args below meth c s₁ B hml hv
  obtain ⟨rfl, hA, hW⟩ := hv
  have hx := B.exec
  have hb := B.bytes
  have hr := B.returns
  have hts := atoms_spec (ws := wsX14_takes) B.pre
  have hown : s.vm.findClass RX14 = some m.cls := findClass_of_methodNamed B.named
  have hlocks := B.notSynchronized
  have hS : va_S (q_ge E) s.heap s.heap [] := va_S.rf
  have hl := lv_entry ([.ref M, .int x]) (n := 2) (Nat.le_of_ble_eq_true rfl)
  rw [lg_entry_eq]
  generalize (lg_sl ([.ref M, .int x]) ++ List.replicate (2 - (lg_sl ([.ref M, .int x])).length) Slot.unset).toArray = ls at hl ⊢
  have hl : lv_has ls 2 [(0, .ref M), (1, .int x)] := hl
  have hmE := hm.eq
  rw [hm.eq] at hW
  have Q0 := r_Q.rf hP
  have htk := hP.1.2.1
  have hnd := hP.1.2.2.2.1
  have hcc := hP.1.2.2.2.2.2.1
  have hac := hP.1.2.2.2.2.2.2.2
  refine lv_aload_n hx hb dX14_takes_0 rfl (lv_at hl 0 rfl) ?_
  refine lv_iload_n hx hb dX14_takes_1 rfl (lv_at hl 1 rfl) ?_
  refine q_ci (va_runV (As := [.int x]) (rest := []) ⟨hx, hb, hml, hown, hts⟩ (kX14_is l E (rO E f M r) n M r K Wd T u tk nd cc ac w x rO_K hTK hT hKT hK41 Q0.1 hok hxw (by omega)) (cwV 1 hts gX14_takes_X14_is rfl rfl rfl (by decide +kernel) ⟨(Nat.le_of_ble_eq_true rfl), (Nat.le_of_ble_eq_true rfl)⟩) (q_pV hA hW hS (ci := 12) rfl rO_0) rfl rfl hl.1 rfl (lv_room (Nat.le_of_ble_eq_true rfl)) dX14_takes_2 ⟨Nat.le_of_ble_eq_true rfl, Nat.le_of_ble_eq_true rfl⟩) hS (fun r_2 f_2 n_2 H locs hp hW hS => ?_)
  obtain ⟨rfl, rfl, rfl⟩ := hp
  have hW : q_W E (rO E f M r) n H := hW
  refine lv_if_ne (tgt := 10) hx hb dX14_takes_5 (by decide) (fun c_5 => False.elim ((fun h9 => h9 (b01_F (decide_eq_false eu))) c_5)) (fun c_5 => ?_)
  refine lv_iconst (v := 0) hx hb dX14_takes_8 (by decide) ?_
  exact q_zret hx hb hr hlocks hW hS rfl ⟨rfl, hmE, rfl⟩ (Nat.le_of_ble_eq_true rfl) (Nat.le_of_ble_eq_true rfl) dX14_takes_9

set_option maxHeartbeats 4000000 in
set_option maxRecDepth 100000 in
theorem kX14_mark (l : Launch) (E : q_E) (f : q_H) (n : Nat) (M : Nat) (r : q_R) (K : Nat → Nat) (Wd : Nat → Int64) (T : Nat) (u : p_S) (tk nd cc ac : Nat) (e9 : Nat)  (hm : RM E f M r) (hTK : r_T r K Wd T) (hT : T ≤ 400) (hKT : 39 ≤ K T) (hK41 : ∀ j, K j < 41) (hP : r_P r K T u tk nd cc ac) (hok : p_ok K T u) : Met l yX14_mark wsX14_mark ({ frames := 0, cells := 0, slots := 0, locals := 0 }) (q_P E [.ref M, .int (nI e9)] f n) (q_Qv E (fun f1 n1 => ∃ (r1 : q_R) (tk1 nd1 cc1 ac1 : Nat), r_Q r r1 K T (p_ci true e9 u) tk nd cc ac tk1 nd1 cc1 ac1 ∧ r1 107 0 = r 107 0 ∧ (r1 108 0 = r 108 0) ∧ (cc1 = cc ∧ ac1 = ac) ∧ (True) ∧ rO E f M r1 = f1 ∧ n = n1)) 0 0 (q_ge E) := by
  refine Met.ofW (cc := cX14_mark) (maxL := 2) (ret := none) (by decide) rfl ?_
  intro p e s m args below meth c s₁ B hml hv
  obtain ⟨rfl, hA, hW⟩ := hv
  have hx := B.exec
  have hb := B.bytes
  have hr := B.returns
  have hts := atoms_spec (ws := wsX14_mark) B.pre
  have hown : s.vm.findClass RX14 = some m.cls := findClass_of_methodNamed B.named
  have hlocks := B.notSynchronized
  have hS : va_S (q_ge E) s.heap s.heap [] := va_S.rf
  have iX14 : ∀ w ∈ wsX140, w ∈ wsX14_mark := by decide +kernel
  have hl := lv_entry ([.ref M, .int (nI e9)]) (n := 2) (Nat.le_of_ble_eq_true rfl)
  rw [lg_entry_eq]
  generalize (lg_sl ([.ref M, .int (nI e9)]) ++ List.replicate (2 - (lg_sl ([.ref M, .int (nI e9)])).length) Slot.unset).toArray = ls at hl ⊢
  have hl : lv_has ls 2 [(0, .ref M), (1, .int (nI e9))] := hl
  have hmE := hm.eq
  rw [hm.eq] at hW
  have Q0 := r_Q.rf hP
  have htk := hP.1.2.1
  have hnd := hP.1.2.2.2.1
  have hcc := hP.1.2.2.2.2.2.1
  have hac := hP.1.2.2.2.2.2.2.2
  refine lv_aload_n hx hb dX14_mark_0 rfl (lv_at hl 0 rfl) ?_
  refine q_get hx hb hts hown hA hW iX14 rO_0 rfl 9 (by decide) (hts (.fieldLink RX14 116 "HighRecipesModel" "isWrong" "Z") (by decide +kernel)) (fun _ h9 => h9) (v := .int (r 104 0)) rfl dX14_mark_1 ?_
  refine lv_if_ne (tgt := 14) hx hb dX14_mark_4 (by decide) (fun c_4 => ?_) (fun c_4 => ?_)
  · exact q_vret hx hb hr hlocks hW hS ⟨_, _, _, _, _, (Q0.err0 (Or.inl c_4)), rfl, rfl, ⟨rfl, rfl⟩, trivial, rfl, rfl⟩ (Nat.le_of_ble_eq_true rfl) (Nat.le_of_ble_eq_true rfl) dX14_mark_14
  · refine lv_aload_n hx hb dX14_mark_7 rfl (lv_at hl 0 rfl) ?_
    refine q_get hx hb hts hown hA hW iX14 rO_0 rfl 10 (by decide) (hts (.fieldLink RX14 123 "HighRecipesModel" "error" "I") (by decide +kernel)) (fun _ h9 => h9) (v := .int (r 105 0)) rfl dX14_mark_8 ?_
    refine lv_if_eq (tgt := 15) hx hb dX14_mark_11 (by decide) (fun c_11 => ?_) (fun c_11 => ?_)
    · refine lv_aload_n hx hb dX14_mark_15 rfl (lv_at hl 0 rfl) ?_
      refine lv_iload_n hx hb dX14_mark_16 rfl (lv_at hl 1 rfl) ?_
      refine q_put hx hb hts hown hA hW hS iX14 tyX14 tyX14_ok nmX14 rO_0 rfl 10 (by decide) (hts (.fieldLink RX14 123 "HighRecipesModel" "error" "I") (by decide +kernel)) (fun _ h9 => h9) rfl rfl rfl (Nat.le_of_ble_eq_true rfl) dX14_mark_17 (fun H locs hW hS => ?_)
      have hW := q_s0 105 (nI e9) hW rfl (by decide)
      refine lv_aload_n hx hb dX14_mark_20 rfl (lv_at hl 0 rfl) ?_
      refine lv_aload_n hx hb dX14_mark_21 rfl (lv_at hl 0 rfl) ?_
      refine q_get hx hb hts hown hA hW iX14 rO_0 rfl 8 (by decide) (hts (.fieldLink RX14 120 "HighRecipesModel" "token" "I") (by decide +kernel)) (fun _ h9 => h9) (v := .int (nI tk)) (congrArg (fun z => some (Value.int z)) hP.1.1) dX14_mark_22 ?_
      refine q_put hx hb hts hown hA hW hS iX14 tyX14 tyX14_ok nmX14 rO_0 rfl 11 (by decide) (hts (.fieldLink RX14 126 "HighRecipesModel" "errorToken" "I") (by decide +kernel)) (fun _ h9 => h9) rfl rfl rfl (Nat.le_of_ble_eq_true rfl) dX14_mark_25 (fun H locs hW hS => ?_)
      have hW := q_s0 106 (nI tk) hW rfl (by decide)
      exact q_vret hx hb hr hlocks hW hS ⟨_, _, _, _, _, (Q0.err c_4 c_11 hok.2.2.1), rfl, rfl, ⟨rfl, rfl⟩, trivial, rfl, rfl⟩ (Nat.le_of_ble_eq_true rfl) (Nat.le_of_ble_eq_true rfl) dX14_mark_28
    · exact q_vret hx hb hr hlocks hW hS ⟨_, _, _, _, _, (Q0.err0 (Or.inr c_11)), rfl, rfl, ⟨rfl, rfl⟩, trivial, rfl, rfl⟩ (Nat.le_of_ble_eq_true rfl) (Nat.le_of_ble_eq_true rfl) dX14_mark_14

set_option maxHeartbeats 4000000 in
set_option maxRecDepth 100000 in
theorem kX14_isSameName (l : Launch) (E : q_E) (f : q_H) (n : Nat) (M : Nat) (r : q_R) (K : Nat → Nat) (Wd : Nat → Int64) (T : Nat) (u : p_S) (tk nd cc ac : Nat) (i j : Nat)  (hm : RM E f M r) (hTK : r_T r K Wd T) (hT : T ≤ 400) (hKT : 39 ≤ K T) (hK41 : ∀ j, K j < 41) (hP : r_P r K T u tk nd cc ac) (hok : p_ok K T u) (hi : i ≤ T) (hj : j ≤ T) (hKi : K i = 37) (hKj : K j = 37) : Met l yX14_isSameName wsX14_isSameName ({ frames := 0, cells := 0, slots := 0, locals := 0 }) (q_P E [.ref M, .int (nI i), .int (nI j)] f n) (q_Qi E (fun r0 f1 n1 => b01 (decide (Wd i = Wd j)) = r0 ∧ f = f1 ∧ n = n1)) 0 0 (q_ge E) := by
  refine Met.ofW (cc := cX14_isSameName) (maxL := 4) (ret := (some .boolean)) (by decide) rfl ?_
  intro p e s m args below meth c s₁ B hml hv
  obtain ⟨rfl, hA, hW⟩ := hv
  have hx := B.exec
  have hb := B.bytes
  have hr := B.returns
  have hts := atoms_spec (ws := wsX14_isSameName) B.pre
  have hown : s.vm.findClass RX14 = some m.cls := findClass_of_methodNamed B.named
  have hlocks := B.notSynchronized
  have hS : va_S (q_ge E) s.heap s.heap [] := va_S.rf
  have iX14 : ∀ w ∈ wsX140, w ∈ wsX14_isSameName := by decide +kernel
  have hl := lv_entry ([.ref M, .int (nI i), .int (nI j)]) (n := 4) (Nat.le_of_ble_eq_true rfl)
  rw [lg_entry_eq]
  generalize (lg_sl ([.ref M, .int (nI i), .int (nI j)]) ++ List.replicate (4 - (lg_sl ([.ref M, .int (nI i), .int (nI j)])).length) Slot.unset).toArray = ls at hl ⊢
  have hl : lv_has ls 4 [(0, .ref M), (1, .int (nI i)), (2, .int (nI j))] := hl
  have hmE := hm.eq
  rw [hm.eq] at hW
  have Q0 := r_Q.rf hP
  have htk := hP.1.2.1
  have hnd := hP.1.2.2.2.1
  have hcc := hP.1.2.2.2.2.2.1
  have hac := hP.1.2.2.2.2.2.2.2
  obtain ⟨-, -, ps, ln, hpl, hiff0⟩ := id hTK
  have li := hpl i hi hKi
  have lj := hpl j hj hKj
  have hiff := hiff0 i j hi hj hKi hKj
  have li3 := li.2.2.1
  have li4 := li.2.2.2
  have lj3 := lj.2.2.1
  have lj4 := lj.2.2.2
  refine lv_aload_n hx hb dX14_isSameName_0 rfl (lv_at hl 0 rfl) ?_
  refine q_get hx hb hts hown hA hW iX14 rO_0 rfl 7 (by decide) (hts (.fieldLink RX14 26 "HighRecipesModel" "length" "[I") (by decide +kernel)) (fun _ h9 => h9) (v := .ref (M + 5)) rfl dX14_isSameName_1 ?_
  refine lv_iload_n hx hb dX14_isSameName_4 rfl (lv_at hl 1 rfl) ?_
  refine q_ald hx hb hA hW (rO_5 (g := r 5) rfl) i rfl (by omega) (by decide) (x := nI (ln i)) li.2.1 dX14_isSameName_5 ?_
  refine lv_aload_n hx hb dX14_isSameName_6 rfl (lv_at hl 0 rfl) ?_
  refine q_get hx hb hts hown hA hW iX14 rO_0 rfl 7 (by decide) (hts (.fieldLink RX14 26 "HighRecipesModel" "length" "[I") (by decide +kernel)) (fun _ h9 => h9) (v := .ref (M + 5)) rfl dX14_isSameName_7 ?_
  refine lv_iload_n hx hb dX14_isSameName_10 rfl (lv_at hl 2 rfl) ?_
  refine q_ald hx hb hA hW (rO_5 (g := r 5) rfl) j rfl (by omega) (by decide) (x := nI (ln j)) lj.2.1 dX14_isSameName_11 ?_
  refine lv_icmp_eq (tgt := 17) hx hb dX14_isSameName_12 (by decide) (fun c_12 => ?_) (fun c_12 => ?_)
  · have el : ln i = ln j := (nI_eq (by omega) (by omega)).1 c_12
    refine lv_iconst (v := 0) hx hb dX14_isSameName_17 (by decide) ?_
    refine lv_istore_n (lv' := [(3, .int 0), (0, .ref M), (1, .int (nI i)), (2, .int (nI j))]) hx hb dX14_isSameName_18 rfl hl (by decide) rfl (fun ls hl => ?_)
    have K19 : ∀ (fu : Nat) (k : Nat) (hk : k ≤ ln i) (hbe : ∀ q, q < k → r 1 (ps i + q) = r 1 (ps j + q)) (hm : ln i - k < fu) (H : Heap) (locs : List Loc) (ls : Array Slot), q_W E (rO E f M r) n H → va_S (q_ge E) s.heap H locs → lv_has ls 4 [(0, .ref M), (1, .int (nI i)), (2, .int (nI j)), (3, .int (nI k))] → W p l e (headSpec wsX14_isSameName ({ frames := 0, cells := 0, slots := 0, locals := 0 })).room s m ([.ref M, .int (nI i), .int (nI j)] : List Value).toArray below meth c H locs 0 0 (MQ below (q_Qi E (fun r0 f1 n1 => b01 (decide (Wd i = Wd j)) = r0 ∧ f = f1 ∧ n = n1)) ([.ref M, .int (nI i), .int (nI j)] : List Value).toArray s 0 0 (q_ge E)) (F0 m 19 ls []) := by
      intro fu
      induction fu with
      | zero =>
        intro k hk hbe hm
        exact absurd hm (Nat.not_lt_zero _)
      | succ fu ih =>
        intro k hk hbe hm H locs ls hW hS hl
        refine lv_iload_n hx hb dX14_isSameName_19 rfl (lv_at hl 3 rfl) ?_
        refine lv_aload_n hx hb dX14_isSameName_20 rfl (lv_at hl 0 rfl) ?_
        refine q_get hx hb hts hown hA hW iX14 rO_0 rfl 7 (by decide) (hts (.fieldLink RX14 26 "HighRecipesModel" "length" "[I") (by decide +kernel)) (fun _ h9 => h9) (v := .ref (M + 5)) rfl dX14_isSameName_21 ?_
        refine lv_iload_n hx hb dX14_isSameName_24 rfl (lv_at hl 1 rfl) ?_
        refine q_ald hx hb hA hW (rO_5 (g := r 5) rfl) i rfl (by omega) (by decide) (x := nI (ln i)) li.2.1 dX14_isSameName_25 ?_
        refine lv_icmp_ge (tgt := 66) hx hb dX14_isSameName_26 (by decide) (fun c_26 => ?_) (fun c_26 => ?_)
        · have ek : k = ln i := by rcases Nat.lt_or_ge k (ln i) with h9 | h9; exact absurd c_26 (nI_ge h9 (by omega)); omega
          refine lv_iconst (v := 1) hx hb dX14_isSameName_66 (by decide) ?_
          exact q_zret hx hb hr hlocks hW hS rfl ⟨by rw [decide_eq_true (hiff.2 ⟨el, fun q hq => hbe q (by omega)⟩)]; rfl, hmE, rfl⟩ (Nat.le_of_ble_eq_true rfl) (Nat.le_of_ble_eq_true rfl) dX14_isSameName_67
        · have hlt : k < ln i := by rcases Nat.lt_or_ge k (ln i) with h9 | h9; exact h9; exact absurd (nI_le h9 (by omega)) c_26
          refine lv_aload_n hx hb dX14_isSameName_29 rfl (lv_at hl 0 rfl) ?_
          refine q_get hx hb hts hown hA hW iX14 rO_0 rfl 1 (by decide) (hts (.fieldLink RX14 9 "HighRecipesModel" "tape" "[I") (by decide +kernel)) (fun _ h9 => h9) (v := .ref (M + 1)) rfl dX14_isSameName_30 ?_
          refine lv_aload_n hx hb dX14_isSameName_33 rfl (lv_at hl 0 rfl) ?_
          refine q_get hx hb hts hown hA hW iX14 rO_0 rfl 6 (by decide) (hts (.fieldLink RX14 23 "HighRecipesModel" "position" "[I") (by decide +kernel)) (fun _ h9 => h9) (v := .ref (M + 4)) rfl dX14_isSameName_34 ?_
          refine lv_iload_n hx hb dX14_isSameName_37 rfl (lv_at hl 1 rfl) ?_
          refine q_ald hx hb hA hW (rO_4 (g := r 4) rfl) i rfl (by omega) (by decide) (x := nI (ps i)) li.1 dX14_isSameName_38 ?_
          refine lv_iload_n hx hb dX14_isSameName_39 rfl (lv_at hl 3 rfl) ?_
          refine lv_iadd hx hb dX14_isSameName_40 ?_
          rw [nI_add]
          refine q_ald hx hb hA hW (rO_1 (g := r 1) rfl) (ps i + k) rfl (by omega) (by decide) (x := (r 1) (ps i + k)) rfl dX14_isSameName_41 ?_
          refine lv_aload_n hx hb dX14_isSameName_42 rfl (lv_at hl 0 rfl) ?_
          refine q_get hx hb hts hown hA hW iX14 rO_0 rfl 1 (by decide) (hts (.fieldLink RX14 9 "HighRecipesModel" "tape" "[I") (by decide +kernel)) (fun _ h9 => h9) (v := .ref (M + 1)) rfl dX14_isSameName_43 ?_
          refine lv_aload_n hx hb dX14_isSameName_46 rfl (lv_at hl 0 rfl) ?_
          refine q_get hx hb hts hown hA hW iX14 rO_0 rfl 6 (by decide) (hts (.fieldLink RX14 23 "HighRecipesModel" "position" "[I") (by decide +kernel)) (fun _ h9 => h9) (v := .ref (M + 4)) rfl dX14_isSameName_47 ?_
          refine lv_iload_n hx hb dX14_isSameName_50 rfl (lv_at hl 2 rfl) ?_
          refine q_ald hx hb hA hW (rO_4 (g := r 4) rfl) j rfl (by omega) (by decide) (x := nI (ps j)) lj.1 dX14_isSameName_51 ?_
          refine lv_iload_n hx hb dX14_isSameName_52 rfl (lv_at hl 3 rfl) ?_
          refine lv_iadd hx hb dX14_isSameName_53 ?_
          rw [nI_add]
          refine q_ald hx hb hA hW (rO_1 (g := r 1) rfl) (ps j + k) rfl (by omega) (by decide) (x := (r 1) (ps j + k)) rfl dX14_isSameName_54 ?_
          refine lv_icmp_eq (tgt := 60) hx hb dX14_isSameName_55 (by decide) (fun c_55 => ?_) (fun c_55 => ?_)
          · refine lv_iinc (v := nI (k + 1)) (lv' := [(3, .int (nI (k + 1))), (0, .ref M), (1, .int (nI i)), (2, .int (nI j))]) hx hb dX14_isSameName_60 hl (k := 3) rfl (nI_1 k) (by decide) rfl (fun ls hl => ?_)
            refine lv_goto (tgt := 19) hx hb dX14_isSameName_63 (by decide) ?_
            exact ih (k + 1) hlt (fun q hq => by rcases Nat.lt_or_ge q k with h9 | h9; exact hbe q h9; rw [show q = k by omega]; exact c_55) (by omega) _ _ _ hW hS (lv_sub hl [1, 2, 3, 0] rfl)
          · refine lv_iconst (v := 0) hx hb dX14_isSameName_58 (by decide) ?_
            exact q_zret hx hb hr hlocks hW hS rfl ⟨by rw [decide_eq_false (fun h9 => c_55 ((hiff.1 h9).2 k hlt))]; rfl, hmE, rfl⟩ (Nat.le_of_ble_eq_true rfl) (Nat.le_of_ble_eq_true rfl) dX14_isSameName_59
    exact K19 _ 0 (Nat.zero_le _) (fun q hq => absurd hq (Nat.not_lt_zero _)) (Nat.lt_succ_self _) _ _ _ hW hS (lv_sub hl [1, 2, 3, 0] rfl)
  · have el : ¬ ln i = ln j := fun h9 => c_12 (by rw [h9])
    refine lv_iconst (v := 0) hx hb dX14_isSameName_15 (by decide) ?_
    exact q_zret hx hb hr hlocks hW hS rfl ⟨by rw [decide_eq_false (fun h9 => el ((hiff.1 h9).1))]; rfl, hmE, rfl⟩ (Nat.le_of_ble_eq_true rfl) (Nat.le_of_ble_eq_true rfl) dX14_isSameName_16

theorem ixF_m1 {nm : Nat → Int64} {w : Int64} : ∀ (m j : Nat), j + m < 2 ^ 30 → ixF nm w m j < 0 → ixF nm w m j = -1
  | 0, _, _, _ => rfl
  | m + 1, j, hj, h => by
    unfold ixF at h ⊢
    split
    · next e => rw [if_pos e] at h; exact absurd h (nI_pos (by omega))
    · next e => rw [if_neg e] at h; exact ixF_m1 m (j + 1) (by omega) h
theorem ix_m1 {nm : Nat → Int64} {w : Int64} {cnt : Nat} (hc : cnt ≤ 8) (h : ix nm cnt w < 0) : ix nm cnt w = -1 := ixF_m1 cnt 0 (by omega) h

set_option maxHeartbeats 4000000 in
set_option maxRecDepth 100000 in
theorem kX14_known_6 (l : Launch) (E : q_E) (f : q_H) (n : Nat) (M : Nat) (r : q_R) (K : Nat → Nat) (Wd : Nat → Int64) (T : Nat) (u : p_S) (tk nd cc ac : Nat) (cnt : Nat) (nm : Nat → Int64)  (hm : RM E f M r) (hTK : r_T r K Wd T) (hT : T ≤ 400) (hKT : 39 ≤ K T) (hK41 : ∀ j, K j < 41) (hP : r_P r K T u tk nd cc ac) (hok : p_ok K T u) (hnm : r_nm r K Wd T 6 cnt nm) (hcnt : cnt ≤ 8) (hKt : K tk = 37) : Met l yX14_known wsX14_known ({ frames := 1, cells := 0, slots := 0, locals := 23 }) (q_P E [.ref M, .ref (M + 6), .int (nI cnt)] f n) (q_Qi E (fun r0 f1 n1 => ix nm cnt (Wd tk) = r0 ∧ f = f1 ∧ n = n1)) 0 0 (q_ge E) := by
  refine Met.ofW (cc := cX14_known) (maxL := 4) (ret := (some .int)) (by decide) rfl ?_
  intro p e s m args below meth c s₁ B hml hv
  obtain ⟨rfl, hA, hW⟩ := hv
  have hx := B.exec
  have hb := B.bytes
  have hr := B.returns
  have hts := atoms_spec (ws := wsX14_known) B.pre
  have hown : s.vm.findClass RX14 = some m.cls := findClass_of_methodNamed B.named
  have hlocks := B.notSynchronized
  have hS : va_S (q_ge E) s.heap s.heap [] := va_S.rf
  have iX14 : ∀ w ∈ wsX140, w ∈ wsX14_known := by decide +kernel
  have hl := lv_entry ([.ref M, .ref (M + 6), .int (nI cnt)]) (n := 4) (Nat.le_of_ble_eq_true rfl)
  rw [lg_entry_eq]
  generalize (lg_sl ([.ref M, .ref (M + 6), .int (nI cnt)]) ++ List.replicate (4 - (lg_sl ([.ref M, .ref (M + 6), .int (nI cnt)])).length) Slot.unset).toArray = ls at hl ⊢
  have hl : lv_has ls 4 [(0, .ref M), (1, .ref (M + 6)), (2, .int (nI cnt))] := hl
  have hmE := hm.eq
  rw [hm.eq] at hW
  have Q0 := r_Q.rf hP
  have htk := hP.1.2.1
  have hnd := hP.1.2.2.2.1
  have hcc := hP.1.2.2.2.2.2.1
  have hac := hP.1.2.2.2.2.2.2.2
  refine lv_iconst (v := 0) hx hb dX14_known_0 (by decide) ?_
  refine lv_istore_n (lv' := [(3, .int 0), (0, .ref M), (1, .ref (M + 6)), (2, .int (nI cnt))]) hx hb dX14_known_1 rfl hl (by decide) rfl (fun ls hl => ?_)
  have K2 : ∀ (fu : Nat) (k : Nat) (hk : k ≤ cnt) (hinv : ix nm cnt (Wd tk) = ixF nm (Wd tk) (cnt - k) k) (hm : cnt - k < fu) (H : Heap) (locs : List Loc) (ls : Array Slot), q_W E (rO E f M r) n H → va_S (q_ge E) s.heap H locs → lv_has ls 4 [(0, .ref M), (1, .ref (M + 6)), (2, .int (nI cnt)), (3, .int (nI k))] → W p l e (headSpec wsX14_known ({ frames := 1, cells := 0, slots := 0, locals := 23 })).room s m ([.ref M, .ref (M + 6), .int (nI cnt)] : List Value).toArray below meth c H locs 0 0 (MQ below (q_Qi E (fun r0 f1 n1 => ix nm cnt (Wd tk) = r0 ∧ f = f1 ∧ n = n1)) ([.ref M, .ref (M + 6), .int (nI cnt)] : List Value).toArray s 0 0 (q_ge E)) (F0 m 2 ls []) := by
    intro fu
    induction fu with
    | zero =>
      intro k hk hinv hm
      exact absurd hm (Nat.not_lt_zero _)
    | succ fu ih =>
      intro k hk hinv hm H locs ls hW hS hl
      refine lv_iload_n hx hb dX14_known_2 rfl (lv_at hl 3 rfl) ?_
      refine lv_iload_n hx hb dX14_known_3 rfl (lv_at hl 2 rfl) ?_
      refine lv_icmp_ge (tgt := 29) hx hb dX14_known_4 (by decide) (fun c_4 => ?_) (fun c_4 => ?_)
      · have ek : k = cnt := by rcases Nat.lt_or_ge k cnt with h9 | h9; exact absurd c_4 (nI_ge h9 (by omega)); omega
        refine lv_iconst (v := (-1)) hx hb dX14_known_29 (by decide) ?_
        exact q_iret hx hb hr hlocks hW hS ⟨by rw [hinv, ek, Nat.sub_self]; rfl, hmE, rfl⟩ (Nat.le_of_ble_eq_true rfl) (Nat.le_of_ble_eq_true rfl) dX14_known_30
      · have hlt : k < cnt := by rcases Nat.lt_or_ge k cnt with h9 | h9; exact h9; exact absurd (nI_le h9 (by omega)) c_4
        obtain ⟨t9, e1, e2, e3, e4⟩ := hnm k hlt
        refine lv_aload_n hx hb dX14_known_7 rfl (lv_at hl 0 rfl) ?_
        refine lv_aload_n hx hb dX14_known_8 rfl (lv_at hl 1 rfl) ?_
        refine lv_iload_n hx hb dX14_known_9 rfl (lv_at hl 3 rfl) ?_
        refine q_ald hx hb hA hW (rO_6 (g := r 6) rfl) k rfl (by omega) (by decide) (x := nI t9) e1 dX14_known_10 ?_
        refine lv_aload_n hx hb dX14_known_11 rfl (lv_at hl 0 rfl) ?_
        refine q_get hx hb hts hown hA hW iX14 rO_0 rfl 8 (by decide) (hts (.fieldLink RX14 120 "HighRecipesModel" "token" "I") (by decide +kernel)) (fun _ h9 => h9) (v := .int (nI tk)) (congrArg (fun z => some (Value.int z)) hP.1.1) dX14_known_12 ?_
        refine q_ci (va_runV (As := [.int (nI t9), .int (nI tk)]) (rest := []) ⟨hx, hb, hml, hown, hts⟩ (kX14_isSameName l E (rO E f M r) n M r K Wd T u tk nd cc ac t9 tk rO_K hTK hT hKT hK41 Q0.1 hok e2 htk e3 hKt) (cwV 2 hts gX14_known_X14_isSameName rfl rfl rfl (by decide +kernel) ⟨(Nat.le_of_ble_eq_true rfl), (Nat.le_of_ble_eq_true rfl)⟩) (q_pV hA hW hS (ci := 12) rfl rO_0) rfl rfl hl.1 rfl (lv_room (Nat.le_of_ble_eq_true rfl)) dX14_known_15 ⟨Nat.le_of_ble_eq_true rfl, Nat.le_of_ble_eq_true rfl⟩) hS (fun r_15 f_15 n_15 H locs hp hW hS => ?_)
        obtain ⟨rfl, rfl, rfl⟩ := hp
        have hW : q_W E (rO E f M r) n H := hW
        refine lv_if_eq (tgt := 23) hx hb dX14_known_18 (by decide) (fun c_18 => ?_) (fun c_18 => ?_)
        · have ne : ¬ nm k = Wd tk := by rw [← e4]; exact of_decide_eq_false (b01_0 c_18)
          refine lv_iinc (v := nI (k + 1)) (lv' := [(3, .int (nI (k + 1))), (0, .ref M), (1, .ref (M + 6)), (2, .int (nI cnt))]) hx hb dX14_known_23 hl (k := 3) rfl (nI_1 k) (by decide) rfl (fun ls hl => ?_)
          refine lv_goto (tgt := 2) hx hb dX14_known_26 (by decide) ?_
          exact ih (k + 1) hlt (by rw [hinv, show cnt - k = (cnt - (k + 1)) + 1 by omega]; exact if_neg ne) (by omega) _ _ _ hW hS (lv_sub hl [1, 2, 3, 0] rfl)
        · have ee : nm k = Wd tk := by rw [← e4]; exact of_decide_eq_true (b01_1 c_18)
          refine lv_iload_n hx hb dX14_known_21 rfl (lv_at hl 3 rfl) ?_
          exact q_iret hx hb hr hlocks hW hS ⟨by rw [hinv]; rw [show cnt - k = (cnt - (k + 1)) + 1 by omega]; exact if_pos ee, hmE, rfl⟩ (Nat.le_of_ble_eq_true rfl) (Nat.le_of_ble_eq_true rfl) dX14_known_22
  exact K2 _ 0 (Nat.zero_le _) rfl (Nat.lt_succ_self _) _ _ _ hW hS (lv_sub hl [1, 2, 3, 0] rfl)

set_option maxHeartbeats 4000000 in
set_option maxRecDepth 100000 in
theorem kX14_name_6 (l : Launch) (E : q_E) (f : q_H) (n : Nat) (M : Nat) (r : q_R) (K : Nat → Nat) (Wd : Nat → Int64) (T : Nat) (u : p_S) (tk nd cc ac : Nat) (cnt : Nat) (nm : Nat → Int64)  (hm : RM E f M r) (hTK : r_T r K Wd T) (hT : T ≤ 400) (hKT : 39 ≤ K T) (hK41 : ∀ j, K j < 41) (hP : r_P r K T u tk nd cc ac) (hok : p_ok K T u) (hnm : r_nm r K Wd T 6 cnt nm) (hcnt : cnt ≤ 8) : Met l yX14_name wsX14_name ({ frames := 2, cells := 0, slots := 0, locals := 46 }) (q_P E [.ref M, .ref (M + 6), .int (nI cnt)] f n) (q_Qi E (fun r0 f1 n1 => ∃ (r1 : q_R) (tk1 nd1 cc1 ac1 : Nat), r_Q r r1 K T (p_known K Wd nm cnt u) tk nd cc ac tk1 nd1 cc1 ac1 ∧ r1 107 0 = r 107 0 ∧ (r1 108 0 = r 108 0) ∧ (cc1 = cc ∧ ac1 = ac) ∧ (((p_known K Wd nm cnt u).2.1 ≠ 40 → (p_known K Wd nm cnt u).2.2.1 = 0 → ∃ i, i < cnt ∧ ix nm cnt (Wd u.1) = nI i ∧ r0 = nI i)) ∧ rO E f M r1 = f1 ∧ n = n1)) 0 0 (q_ge E) := by
  refine Met.ofW (cc := cX14_name) (maxL := 4) (ret := (some .int)) (by decide) rfl ?_
  intro p e s m args below meth c s₁ B hml hv
  obtain ⟨rfl, hA, hW⟩ := hv
  have hx := B.exec
  have hb := B.bytes
  have hr := B.returns
  have hts := atoms_spec (ws := wsX14_name) B.pre
  have hown : s.vm.findClass RX14 = some m.cls := findClass_of_methodNamed B.named
  have hlocks := B.notSynchronized
  have hS : va_S (q_ge E) s.heap s.heap [] := va_S.rf
  have hl := lv_entry ([.ref M, .ref (M + 6), .int (nI cnt)]) (n := 4) (Nat.le_of_ble_eq_true rfl)
  rw [lg_entry_eq]
  generalize (lg_sl ([.ref M, .ref (M + 6), .int (nI cnt)]) ++ List.replicate (4 - (lg_sl ([.ref M, .ref (M + 6), .int (nI cnt)])).length) Slot.unset).toArray = ls at hl ⊢
  have hl : lv_has ls 4 [(0, .ref M), (1, .ref (M + 6)), (2, .int (nI cnt))] := hl
  have hmE := hm.eq
  rw [hm.eq] at hW
  have Q0 := r_Q.rf hP
  have htk := hP.1.2.1
  have hnd := hP.1.2.2.2.1
  have hcc := hP.1.2.2.2.2.2.1
  have hac := hP.1.2.2.2.2.2.2.2
  refine lv_aload_n hx hb dX14_name_0 rfl (lv_at hl 0 rfl) ?_
  refine lv_bipush (v := 40) hx hb dX14_name_1 (by decide) ?_
  refine q_ci (va_runV (As := [.int 40]) (rest := []) ⟨hx, hb, hml, hown, hts⟩ (kX14_is l E (rO E f M r) n M r K Wd T u tk nd cc ac 37 40 rO_K hTK hT hKT hK41 Q0.1 hok rfl (by decide)) (cwV 1 hts gX14_name_X14_is rfl rfl rfl (by decide +kernel) ⟨(Nat.le_of_ble_eq_true rfl), (Nat.le_of_ble_eq_true rfl)⟩) (q_pV hA hW hS (ci := 12) rfl rO_0) rfl rfl hl.1 rfl (lv_room (Nat.le_of_ble_eq_true rfl)) dX14_name_3 ⟨Nat.le_of_ble_eq_true rfl, Nat.le_of_ble_eq_true rfl⟩) hS (fun r_3 f_3 n_3 H locs hp hW hS => ?_)
  obtain ⟨rfl, rfl, rfl⟩ := hp
  have hW : q_W E (rO E f M r) n H := hW
  refine lv_if_eq (tgt := 18) hx hb dX14_name_6 (by decide) (fun c_6 => ?_) (fun c_6 => ?_)
  · have eu : ¬ u.2.1 = 37 := of_decide_eq_false (b01_0 c_6)
    refine lv_iconst (v := 0) hx hb dX14_name_18 (by decide) ?_
    refine lv_istore_n (lv' := [(3, .int 0), (0, .ref M), (1, .ref (M + 6)), (2, .int (nI cnt))]) hx hb dX14_name_19 rfl hl (by decide) rfl (fun ls hl => ?_)
    refine lv_iload_n hx hb dX14_name_20 rfl (lv_at hl 0 rfl) ?_
    refine lv_iconst (v := (-1)) hx hb dX14_name_21 (by decide) ?_
    refine lv_icmp_ne (tgt := 30) hx hb dX14_name_22 (by decide) (fun c_22 => ?_) (fun c_22 => False.elim ((fun h9 => absurd h9 (by decide)) c_22))
    refine lv_aload_n hx hb dX14_name_30 rfl (lv_at hl 1 rfl) ?_
    refine lv_bipush (v := 40) hx hb dX14_name_31 (by decide) ?_
    refine q_cv (va_runV (As := [.int 40]) (rest := []) ⟨hx, hb, hml, hown, hts⟩ (kX14_take l E (rO E f M r) n M r K Wd T u tk nd cc ac 37 40 rO_K hTK hT hKT hK41 Q0.1 hok rfl (by decide)) (cwV 1 hts gX14_name_X14_take rfl rfl rfl (by decide +kernel) ⟨(Nat.le_of_ble_eq_true rfl), (Nat.le_of_ble_eq_true rfl)⟩) (q_pV hA hW hS (ci := 12) rfl rO_0) rfl rfl hl.1 rfl (lv_room (Nat.le_of_ble_eq_true rfl)) dX14_name_33 ⟨Nat.le_of_ble_eq_true rfl, Nat.le_of_ble_eq_true rfl⟩) hS (fun f_33 n_33 H locs hp hW hS => ?_)
    obtain ⟨R_33, tk_33, nd_33, cc_33, ac_33, q_33, e7_33, e8_33, ec_33, ex_33, rfl, rfl⟩ := hp
    have G_33 : p_go K T u (p_take K 37 u) := (go_take hKT (by decide))
    have GG_33 := G_33 hok
    have ok_33 := GG_33.1
    have le_33 := GG_33.2.2.2.1
    have er_33 := GG_33.2.2.2.2
    have Q_33 := Q0.trans q_33
    have T_33 := Q_33.tok hTK
    have num_33 := Q_33.2.2
    unfold r_num at num_33
    have bt_33 := Q_33.1.1.2.1
    have bn_33 := Q_33.1.1.2.2.2.1
    have bc_33 := Q_33.1.1.2.2.2.2.2.1
    have ba_33 := Q_33.1.1.2.2.2.2.2.2.2
    have qn_33 := q_33.2.2
    unfold r_num at qn_33
    rw [rO_rO] at hW
    have hW : q_W E (rO E f M R_33) n H := hW
    refine lv_iconst (v := 0) hx hb dX14_name_36 (by decide) ?_
    refine lv_iload_n hx hb dX14_name_37 rfl (lv_at hl 0 rfl) ?_
    refine va_mmax hx hb (hml.trans hl.1.symm) hown (hts (.methodLink RX14 63 Lib.Math.max.name) (by decide +kernel)) (hts (.static Lib.Math.max.name) (by decide +kernel)) (hts (.initialized "java/lang/Math") (by decide +kernel)) (hts (.code Lib.Math.max.name Lib.Math.max.code 2 (some .int)) (by decide +kernel)) (Nat.le_of_ble_eq_true rfl) (Nat.le_of_ble_eq_true rfl) (Nat.le_of_ble_eq_true rfl) (Nat.le_of_ble_eq_true rfl) dX14_name_38 ?_
    exact q_iret hx hb hr hlocks hW hS ⟨_, _, _, _, _, (by rw [show p_known K Wd nm cnt u = p_take K 37 u from by unfold p_known p_take; rw [decide_eq_false eu]; rfl]; exact Q_33), (e7_33.trans rfl), (e8_33.trans rfl), ⟨(ec_33.1.trans rfl), (ec_33.2.trans rfl)⟩, (fun h1 h2 => absurd (known_ok (by omega) h1 h2).1 eu), rfl, rfl⟩ (Nat.le_of_ble_eq_true rfl) (Nat.le_of_ble_eq_true rfl) dX14_name_41
  · have eu : u.2.1 = 37 := of_decide_eq_true (b01_1 c_6)
    have hnw := hP.nw (by omega)
    refine lv_aload_n hx hb dX14_name_9 rfl (lv_at hl 0 rfl) ?_
    refine lv_aload_n hx hb dX14_name_10 rfl (lv_at hl 1 rfl) ?_
    refine lv_iload_n hx hb dX14_name_11 rfl (lv_at hl 2 rfl) ?_
    refine q_ci (va_runV (As := [.ref (M + 6), .int (nI cnt)]) (rest := []) ⟨hx, hb, hml, hown, hts⟩ (kX14_known_6 l E (rO E f M r) n M r K Wd T u tk nd cc ac cnt nm rO_K hTK hT hKT hK41 Q0.1 hok hnm hcnt (by rw [hnw.2.1, ← hnw.2.2.1]; exact eu)) (cwV 2 hts gX14_name_X14_known rfl rfl rfl (by decide +kernel) ⟨(Nat.le_of_ble_eq_true rfl), (Nat.le_of_ble_eq_true rfl)⟩) (q_pV hA hW hS (ci := 12) rfl rO_0) rfl rfl hl.1 rfl (lv_room (Nat.le_of_ble_eq_true rfl)) dX14_name_12 ⟨Nat.le_of_ble_eq_true rfl, Nat.le_of_ble_eq_true rfl⟩) hS (fun r_12 f_12 n_12 H locs hp hW hS => ?_)
    obtain ⟨rfl, rfl, rfl⟩ := hp
    have hW : q_W E (rO E f M r) n H := hW
    refine lv_goto (tgt := 19) hx hb dX14_name_15 (by decide) ?_
    refine lv_istore_n (lv' := [(3, .int (ix nm cnt (Wd tk))), (0, .ref M), (1, .ref (M + 6)), (2, .int (nI cnt))]) hx hb dX14_name_19 rfl hl (by decide) rfl (fun ls hl => ?_)
    refine lv_iload_n hx hb dX14_name_20 rfl (lv_at hl 0 rfl) ?_
    refine lv_iconst (v := (-1)) hx hb dX14_name_21 (by decide) ?_
    refine lv_icmp_ne (tgt := 30) hx hb dX14_name_22 (by decide) (fun c_22 => ?_) (fun c_22 => ?_)
    · refine lv_aload_n hx hb dX14_name_30 rfl (lv_at hl 1 rfl) ?_
      refine lv_bipush (v := 40) hx hb dX14_name_31 (by decide) ?_
      refine q_cv (va_runV (As := [.int 40]) (rest := []) ⟨hx, hb, hml, hown, hts⟩ (kX14_take l E (rO E f M r) n M r K Wd T u tk nd cc ac 37 40 rO_K hTK hT hKT hK41 Q0.1 hok rfl (by decide)) (cwV 1 hts gX14_name_X14_take rfl rfl rfl (by decide +kernel) ⟨(Nat.le_of_ble_eq_true rfl), (Nat.le_of_ble_eq_true rfl)⟩) (q_pV hA hW hS (ci := 12) rfl rO_0) rfl rfl hl.1 rfl (lv_room (Nat.le_of_ble_eq_true rfl)) dX14_name_33 ⟨Nat.le_of_ble_eq_true rfl, Nat.le_of_ble_eq_true rfl⟩) hS (fun f_33 n_33 H locs hp hW hS => ?_)
      obtain ⟨R_33, tk_33, nd_33, cc_33, ac_33, q_33, e7_33, e8_33, ec_33, ex_33, rfl, rfl⟩ := hp
      have G_33 : p_go K T u (p_take K 37 u) := (go_take hKT (by decide))
      have GG_33 := G_33 hok
      have ok_33 := GG_33.1
      have le_33 := GG_33.2.2.2.1
      have er_33 := GG_33.2.2.2.2
      have Q_33 := Q0.trans q_33
      have T_33 := Q_33.tok hTK
      have num_33 := Q_33.2.2
      unfold r_num at num_33
      have bt_33 := Q_33.1.1.2.1
      have bn_33 := Q_33.1.1.2.2.2.1
      have bc_33 := Q_33.1.1.2.2.2.2.2.1
      have ba_33 := Q_33.1.1.2.2.2.2.2.2.2
      have qn_33 := q_33.2.2
      unfold r_num at qn_33
      rw [rO_rO] at hW
      have hW : q_W E (rO E f M R_33) n H := hW
      refine lv_iconst (v := 0) hx hb dX14_name_36 (by decide) ?_
      refine lv_iload_n hx hb dX14_name_37 rfl (lv_at hl 0 rfl) ?_
      refine va_mmax hx hb (hml.trans hl.1.symm) hown (hts (.methodLink RX14 63 Lib.Math.max.name) (by decide +kernel)) (hts (.static Lib.Math.max.name) (by decide +kernel)) (hts (.initialized "java/lang/Math") (by decide +kernel)) (hts (.code Lib.Math.max.name Lib.Math.max.code 2 (some .int)) (by decide +kernel)) (Nat.le_of_ble_eq_true rfl) (Nat.le_of_ble_eq_true rfl) (Nat.le_of_ble_eq_true rfl) (Nat.le_of_ble_eq_true rfl) dX14_name_38 ?_
      exact q_iret hx hb hr hlocks hW hS ⟨_, _, _, _, _, (by rw [show p_known K Wd nm cnt u = p_take K 37 u from by unfold p_known p_take; rw [decide_eq_true eu, ← hnw.2.1, decide_eq_false (show ¬ ix nm cnt (Wd tk) < 0 from fun h9 => c_22 (ix_m1 (by omega) h9))]; rfl]; exact Q_33), (e7_33.trans rfl), (e8_33.trans rfl), ⟨(ec_33.1.trans rfl), (ec_33.2.trans rfl)⟩, (fun h1 h2 => by obtain ⟨-, i, i1, i2⟩ := known_ok (by omega) h1 h2; refine ⟨i, i1, i2, ?_⟩; rw [hnw.2.1, i2]; exact if_pos_max (by omega)), rfl, rfl⟩ (Nat.le_of_ble_eq_true rfl) (Nat.le_of_ble_eq_true rfl) dX14_name_41
    · refine lv_aload_n hx hb dX14_name_25 rfl (lv_at hl 1 rfl) ?_
      refine lv_iconst (v := 3) hx hb dX14_name_26 (by decide) ?_
      refine q_cv (va_runV (As := [.int 3]) (rest := []) ⟨hx, hb, hml, hown, hts⟩ (kX14_mark l E (rO E f M r) n M r K Wd T u tk nd cc ac 3 rO_K hTK hT hKT hK41 Q0.1 hok) (cwV 1 hts gX14_name_X14_mark rfl rfl rfl (by decide +kernel) ⟨(Nat.le_of_ble_eq_true rfl), (Nat.le_of_ble_eq_true rfl)⟩) (q_pV hA hW hS (ci := 12) rfl rO_0) rfl rfl hl.1 rfl (lv_room (Nat.le_of_ble_eq_true rfl)) dX14_name_27 ⟨Nat.le_of_ble_eq_true rfl, Nat.le_of_ble_eq_true rfl⟩) hS (fun f_27 n_27 H locs hp hW hS => ?_)
      obtain ⟨R_27, tk_27, nd_27, cc_27, ac_27, q_27, e7_27, e8_27, ec_27, ex_27, rfl, rfl⟩ := hp
      have G_27 : p_go K T u (p_ci true 3 u) := (go_ci (by decide) (by decide))
      have GG_27 := G_27 hok
      have ok_27 := GG_27.1
      have le_27 := GG_27.2.2.2.1
      have er_27 := GG_27.2.2.2.2
      have Q_27 := Q0.trans q_27
      have T_27 := Q_27.tok hTK
      have num_27 := Q_27.2.2
      unfold r_num at num_27
      have bt_27 := Q_27.1.1.2.1
      have bn_27 := Q_27.1.1.2.2.2.1
      have bc_27 := Q_27.1.1.2.2.2.2.2.1
      have ba_27 := Q_27.1.1.2.2.2.2.2.2.2
      have qn_27 := q_27.2.2
      unfold r_num at qn_27
      rw [rO_rO] at hW
      have hW : q_W E (rO E f M R_27) n H := hW
      refine lv_aload_n hx hb dX14_name_30 rfl (lv_at hl 1 rfl) ?_
      refine lv_bipush (v := 40) hx hb dX14_name_31 (by decide) ?_
      refine q_cv (va_runV (As := [.int 40]) (rest := []) ⟨hx, hb, hml, hown, hts⟩ (kX14_take l E (rO E f M R_27) n M R_27 K Wd T (p_ci true 3 u) tk_27 nd_27 cc_27 ac_27 37 40 rO_K T_27 hT hKT hK41 Q_27.1 ok_27 rfl (by decide)) (cwV 1 hts gX14_name_X14_take rfl rfl rfl (by decide +kernel) ⟨(Nat.le_of_ble_eq_true rfl), (Nat.le_of_ble_eq_true rfl)⟩) (q_pV hA hW hS (ci := 12) rfl rO_0) rfl rfl hl.1 rfl (lv_room (Nat.le_of_ble_eq_true rfl)) dX14_name_33 ⟨Nat.le_of_ble_eq_true rfl, Nat.le_of_ble_eq_true rfl⟩) hS (fun f_33 n_33 H locs hp hW hS => ?_)
      obtain ⟨R_33, tk_33, nd_33, cc_33, ac_33, q_33, e7_33, e8_33, ec_33, ex_33, rfl, rfl⟩ := hp
      have G_33 : p_go K T (p_ci true 3 u) (p_take K 37 (p_ci true 3 u)) := (go_take hKT (by decide))
      have GG_33 := G_33 ok_27
      have ok_33 := GG_33.1
      have le_33 := GG_33.2.2.2.1
      have er_33 := GG_33.2.2.2.2
      have Q_33 := Q_27.trans q_33
      have T_33 := Q_33.tok hTK
      have num_33 := Q_33.2.2
      unfold r_num at num_33
      have bt_33 := Q_33.1.1.2.1
      have bn_33 := Q_33.1.1.2.2.2.1
      have bc_33 := Q_33.1.1.2.2.2.2.2.1
      have ba_33 := Q_33.1.1.2.2.2.2.2.2.2
      have qn_33 := q_33.2.2
      unfold r_num at qn_33
      rw [rO_rO] at hW
      have hW : q_W E (rO E f M R_33) n H := hW
      refine lv_iconst (v := 0) hx hb dX14_name_36 (by decide) ?_
      refine lv_iload_n hx hb dX14_name_37 rfl (lv_at hl 0 rfl) ?_
      refine va_mmax hx hb (hml.trans hl.1.symm) hown (hts (.methodLink RX14 63 Lib.Math.max.name) (by decide +kernel)) (hts (.static Lib.Math.max.name) (by decide +kernel)) (hts (.initialized "java/lang/Math") (by decide +kernel)) (hts (.code Lib.Math.max.name Lib.Math.max.code 2 (some .int)) (by decide +kernel)) (Nat.le_of_ble_eq_true rfl) (Nat.le_of_ble_eq_true rfl) (Nat.le_of_ble_eq_true rfl) (Nat.le_of_ble_eq_true rfl) dX14_name_38 ?_
      exact q_iret hx hb hr hlocks hW hS ⟨_, _, _, _, _, (by rw [show p_known K Wd nm cnt u = p_take K 37 (p_ci true 3 u) from by unfold p_known p_take; rw [show (p_ci true 3 u).2.1 = u.2.1 from rfl, decide_eq_true eu, ← hnw.2.1, decide_eq_true (show ix nm cnt (Wd tk) < 0 from by rw [c_22]; decide)]; rfl]; exact Q_33), (e7_33.trans (e7_27.trans rfl)), (e8_33.trans (e8_27.trans rfl)), ⟨(ec_33.1.trans (ec_27.1.trans rfl)), (ec_33.2.trans (ec_27.2.trans rfl))⟩, (fun h1 h2 => by obtain ⟨-, i, i1, i2⟩ := known_ok (by omega) h1 h2; rw [← hnw.2.1, c_22] at i2; exact absurd (show nI i < 0 from by rw [← i2]; decide) (nI_pos (by omega))), rfl, rfl⟩ (Nat.le_of_ble_eq_true rfl) (Nat.le_of_ble_eq_true rfl) dX14_name_41

set_option maxHeartbeats 4000000 in
set_option maxRecDepth 100000 in
theorem kX14_known_7 (l : Launch) (E : q_E) (f : q_H) (n : Nat) (M : Nat) (r : q_R) (K : Nat → Nat) (Wd : Nat → Int64) (T : Nat) (u : p_S) (tk nd cc ac : Nat) (cnt : Nat) (nm : Nat → Int64)  (hm : RM E f M r) (hTK : r_T r K Wd T) (hT : T ≤ 400) (hKT : 39 ≤ K T) (hK41 : ∀ j, K j < 41) (hP : r_P r K T u tk nd cc ac) (hok : p_ok K T u) (hnm : r_nm r K Wd T 7 cnt nm) (hcnt : cnt ≤ 6) (hKt : K tk = 37) : Met l yX14_known wsX14_known ({ frames := 1, cells := 0, slots := 0, locals := 23 }) (q_P E [.ref M, .ref (M + 7), .int (nI cnt)] f n) (q_Qi E (fun r0 f1 n1 => ix nm cnt (Wd tk) = r0 ∧ f = f1 ∧ n = n1)) 0 0 (q_ge E) := by
  refine Met.ofW (cc := cX14_known) (maxL := 4) (ret := (some .int)) (by decide) rfl ?_
  intro p e s m args below meth c s₁ B hml hv
  obtain ⟨rfl, hA, hW⟩ := hv
  have hx := B.exec
  have hb := B.bytes
  have hr := B.returns
  have hts := atoms_spec (ws := wsX14_known) B.pre
  have hown : s.vm.findClass RX14 = some m.cls := findClass_of_methodNamed B.named
  have hlocks := B.notSynchronized
  have hS : va_S (q_ge E) s.heap s.heap [] := va_S.rf
  have iX14 : ∀ w ∈ wsX140, w ∈ wsX14_known := by decide +kernel
  have hl := lv_entry ([.ref M, .ref (M + 7), .int (nI cnt)]) (n := 4) (Nat.le_of_ble_eq_true rfl)
  rw [lg_entry_eq]
  generalize (lg_sl ([.ref M, .ref (M + 7), .int (nI cnt)]) ++ List.replicate (4 - (lg_sl ([.ref M, .ref (M + 7), .int (nI cnt)])).length) Slot.unset).toArray = ls at hl ⊢
  have hl : lv_has ls 4 [(0, .ref M), (1, .ref (M + 7)), (2, .int (nI cnt))] := hl
  have hmE := hm.eq
  rw [hm.eq] at hW
  have Q0 := r_Q.rf hP
  have htk := hP.1.2.1
  have hnd := hP.1.2.2.2.1
  have hcc := hP.1.2.2.2.2.2.1
  have hac := hP.1.2.2.2.2.2.2.2
  refine lv_iconst (v := 0) hx hb dX14_known_0 (by decide) ?_
  refine lv_istore_n (lv' := [(3, .int 0), (0, .ref M), (1, .ref (M + 7)), (2, .int (nI cnt))]) hx hb dX14_known_1 rfl hl (by decide) rfl (fun ls hl => ?_)
  have K2 : ∀ (fu : Nat) (k : Nat) (hk : k ≤ cnt) (hinv : ix nm cnt (Wd tk) = ixF nm (Wd tk) (cnt - k) k) (hm : cnt - k < fu) (H : Heap) (locs : List Loc) (ls : Array Slot), q_W E (rO E f M r) n H → va_S (q_ge E) s.heap H locs → lv_has ls 4 [(0, .ref M), (1, .ref (M + 7)), (2, .int (nI cnt)), (3, .int (nI k))] → W p l e (headSpec wsX14_known ({ frames := 1, cells := 0, slots := 0, locals := 23 })).room s m ([.ref M, .ref (M + 7), .int (nI cnt)] : List Value).toArray below meth c H locs 0 0 (MQ below (q_Qi E (fun r0 f1 n1 => ix nm cnt (Wd tk) = r0 ∧ f = f1 ∧ n = n1)) ([.ref M, .ref (M + 7), .int (nI cnt)] : List Value).toArray s 0 0 (q_ge E)) (F0 m 2 ls []) := by
    intro fu
    induction fu with
    | zero =>
      intro k hk hinv hm
      exact absurd hm (Nat.not_lt_zero _)
    | succ fu ih =>
      intro k hk hinv hm H locs ls hW hS hl
      refine lv_iload_n hx hb dX14_known_2 rfl (lv_at hl 3 rfl) ?_
      refine lv_iload_n hx hb dX14_known_3 rfl (lv_at hl 2 rfl) ?_
      refine lv_icmp_ge (tgt := 29) hx hb dX14_known_4 (by decide) (fun c_4 => ?_) (fun c_4 => ?_)
      · have ek : k = cnt := by rcases Nat.lt_or_ge k cnt with h9 | h9; exact absurd c_4 (nI_ge h9 (by omega)); omega
        refine lv_iconst (v := (-1)) hx hb dX14_known_29 (by decide) ?_
        exact q_iret hx hb hr hlocks hW hS ⟨by rw [hinv, ek, Nat.sub_self]; rfl, hmE, rfl⟩ (Nat.le_of_ble_eq_true rfl) (Nat.le_of_ble_eq_true rfl) dX14_known_30
      · have hlt : k < cnt := by rcases Nat.lt_or_ge k cnt with h9 | h9; exact h9; exact absurd (nI_le h9 (by omega)) c_4
        obtain ⟨t9, e1, e2, e3, e4⟩ := hnm k hlt
        refine lv_aload_n hx hb dX14_known_7 rfl (lv_at hl 0 rfl) ?_
        refine lv_aload_n hx hb dX14_known_8 rfl (lv_at hl 1 rfl) ?_
        refine lv_iload_n hx hb dX14_known_9 rfl (lv_at hl 3 rfl) ?_
        refine q_ald hx hb hA hW (rO_7 (g := r 7) rfl) k rfl (by omega) (by decide) (x := nI t9) e1 dX14_known_10 ?_
        refine lv_aload_n hx hb dX14_known_11 rfl (lv_at hl 0 rfl) ?_
        refine q_get hx hb hts hown hA hW iX14 rO_0 rfl 8 (by decide) (hts (.fieldLink RX14 120 "HighRecipesModel" "token" "I") (by decide +kernel)) (fun _ h9 => h9) (v := .int (nI tk)) (congrArg (fun z => some (Value.int z)) hP.1.1) dX14_known_12 ?_
        refine q_ci (va_runV (As := [.int (nI t9), .int (nI tk)]) (rest := []) ⟨hx, hb, hml, hown, hts⟩ (kX14_isSameName l E (rO E f M r) n M r K Wd T u tk nd cc ac t9 tk rO_K hTK hT hKT hK41 Q0.1 hok e2 htk e3 hKt) (cwV 2 hts gX14_known_X14_isSameName rfl rfl rfl (by decide +kernel) ⟨(Nat.le_of_ble_eq_true rfl), (Nat.le_of_ble_eq_true rfl)⟩) (q_pV hA hW hS (ci := 12) rfl rO_0) rfl rfl hl.1 rfl (lv_room (Nat.le_of_ble_eq_true rfl)) dX14_known_15 ⟨Nat.le_of_ble_eq_true rfl, Nat.le_of_ble_eq_true rfl⟩) hS (fun r_15 f_15 n_15 H locs hp hW hS => ?_)
        obtain ⟨rfl, rfl, rfl⟩ := hp
        have hW : q_W E (rO E f M r) n H := hW
        refine lv_if_eq (tgt := 23) hx hb dX14_known_18 (by decide) (fun c_18 => ?_) (fun c_18 => ?_)
        · have ne : ¬ nm k = Wd tk := by rw [← e4]; exact of_decide_eq_false (b01_0 c_18)
          refine lv_iinc (v := nI (k + 1)) (lv' := [(3, .int (nI (k + 1))), (0, .ref M), (1, .ref (M + 7)), (2, .int (nI cnt))]) hx hb dX14_known_23 hl (k := 3) rfl (nI_1 k) (by decide) rfl (fun ls hl => ?_)
          refine lv_goto (tgt := 2) hx hb dX14_known_26 (by decide) ?_
          exact ih (k + 1) hlt (by rw [hinv, show cnt - k = (cnt - (k + 1)) + 1 by omega]; exact if_neg ne) (by omega) _ _ _ hW hS (lv_sub hl [1, 2, 3, 0] rfl)
        · have ee : nm k = Wd tk := by rw [← e4]; exact of_decide_eq_true (b01_1 c_18)
          refine lv_iload_n hx hb dX14_known_21 rfl (lv_at hl 3 rfl) ?_
          exact q_iret hx hb hr hlocks hW hS ⟨by rw [hinv]; rw [show cnt - k = (cnt - (k + 1)) + 1 by omega]; exact if_pos ee, hmE, rfl⟩ (Nat.le_of_ble_eq_true rfl) (Nat.le_of_ble_eq_true rfl) dX14_known_22
  exact K2 _ 0 (Nat.zero_le _) rfl (Nat.lt_succ_self _) _ _ _ hW hS (lv_sub hl [1, 2, 3, 0] rfl)

set_option maxHeartbeats 4000000 in
set_option maxRecDepth 100000 in
theorem kX14_name_7 (l : Launch) (E : q_E) (f : q_H) (n : Nat) (M : Nat) (r : q_R) (K : Nat → Nat) (Wd : Nat → Int64) (T : Nat) (u : p_S) (tk nd cc ac : Nat) (cnt : Nat) (nm : Nat → Int64)  (hm : RM E f M r) (hTK : r_T r K Wd T) (hT : T ≤ 400) (hKT : 39 ≤ K T) (hK41 : ∀ j, K j < 41) (hP : r_P r K T u tk nd cc ac) (hok : p_ok K T u) (hnm : r_nm r K Wd T 7 cnt nm) (hcnt : cnt ≤ 6) : Met l yX14_name wsX14_name ({ frames := 2, cells := 0, slots := 0, locals := 46 }) (q_P E [.ref M, .ref (M + 7), .int (nI cnt)] f n) (q_Qi E (fun r0 f1 n1 => ∃ (r1 : q_R) (tk1 nd1 cc1 ac1 : Nat), r_Q r r1 K T (p_known K Wd nm cnt u) tk nd cc ac tk1 nd1 cc1 ac1 ∧ r1 107 0 = r 107 0 ∧ (r1 108 0 = r 108 0) ∧ (cc1 = cc ∧ ac1 = ac) ∧ (((p_known K Wd nm cnt u).2.1 ≠ 40 → (p_known K Wd nm cnt u).2.2.1 = 0 → ∃ i, i < cnt ∧ ix nm cnt (Wd u.1) = nI i ∧ r0 = nI i)) ∧ rO E f M r1 = f1 ∧ n = n1)) 0 0 (q_ge E) := by
  refine Met.ofW (cc := cX14_name) (maxL := 4) (ret := (some .int)) (by decide) rfl ?_
  intro p e s m args below meth c s₁ B hml hv
  obtain ⟨rfl, hA, hW⟩ := hv
  have hx := B.exec
  have hb := B.bytes
  have hr := B.returns
  have hts := atoms_spec (ws := wsX14_name) B.pre
  have hown : s.vm.findClass RX14 = some m.cls := findClass_of_methodNamed B.named
  have hlocks := B.notSynchronized
  have hS : va_S (q_ge E) s.heap s.heap [] := va_S.rf
  have hl := lv_entry ([.ref M, .ref (M + 7), .int (nI cnt)]) (n := 4) (Nat.le_of_ble_eq_true rfl)
  rw [lg_entry_eq]
  generalize (lg_sl ([.ref M, .ref (M + 7), .int (nI cnt)]) ++ List.replicate (4 - (lg_sl ([.ref M, .ref (M + 7), .int (nI cnt)])).length) Slot.unset).toArray = ls at hl ⊢
  have hl : lv_has ls 4 [(0, .ref M), (1, .ref (M + 7)), (2, .int (nI cnt))] := hl
  have hmE := hm.eq
  rw [hm.eq] at hW
  have Q0 := r_Q.rf hP
  have htk := hP.1.2.1
  have hnd := hP.1.2.2.2.1
  have hcc := hP.1.2.2.2.2.2.1
  have hac := hP.1.2.2.2.2.2.2.2
  refine lv_aload_n hx hb dX14_name_0 rfl (lv_at hl 0 rfl) ?_
  refine lv_bipush (v := 40) hx hb dX14_name_1 (by decide) ?_
  refine q_ci (va_runV (As := [.int 40]) (rest := []) ⟨hx, hb, hml, hown, hts⟩ (kX14_is l E (rO E f M r) n M r K Wd T u tk nd cc ac 37 40 rO_K hTK hT hKT hK41 Q0.1 hok rfl (by decide)) (cwV 1 hts gX14_name_X14_is rfl rfl rfl (by decide +kernel) ⟨(Nat.le_of_ble_eq_true rfl), (Nat.le_of_ble_eq_true rfl)⟩) (q_pV hA hW hS (ci := 12) rfl rO_0) rfl rfl hl.1 rfl (lv_room (Nat.le_of_ble_eq_true rfl)) dX14_name_3 ⟨Nat.le_of_ble_eq_true rfl, Nat.le_of_ble_eq_true rfl⟩) hS (fun r_3 f_3 n_3 H locs hp hW hS => ?_)
  obtain ⟨rfl, rfl, rfl⟩ := hp
  have hW : q_W E (rO E f M r) n H := hW
  refine lv_if_eq (tgt := 18) hx hb dX14_name_6 (by decide) (fun c_6 => ?_) (fun c_6 => ?_)
  · have eu : ¬ u.2.1 = 37 := of_decide_eq_false (b01_0 c_6)
    refine lv_iconst (v := 0) hx hb dX14_name_18 (by decide) ?_
    refine lv_istore_n (lv' := [(3, .int 0), (0, .ref M), (1, .ref (M + 7)), (2, .int (nI cnt))]) hx hb dX14_name_19 rfl hl (by decide) rfl (fun ls hl => ?_)
    refine lv_iload_n hx hb dX14_name_20 rfl (lv_at hl 0 rfl) ?_
    refine lv_iconst (v := (-1)) hx hb dX14_name_21 (by decide) ?_
    refine lv_icmp_ne (tgt := 30) hx hb dX14_name_22 (by decide) (fun c_22 => ?_) (fun c_22 => False.elim ((fun h9 => absurd h9 (by decide)) c_22))
    refine lv_aload_n hx hb dX14_name_30 rfl (lv_at hl 1 rfl) ?_
    refine lv_bipush (v := 40) hx hb dX14_name_31 (by decide) ?_
    refine q_cv (va_runV (As := [.int 40]) (rest := []) ⟨hx, hb, hml, hown, hts⟩ (kX14_take l E (rO E f M r) n M r K Wd T u tk nd cc ac 37 40 rO_K hTK hT hKT hK41 Q0.1 hok rfl (by decide)) (cwV 1 hts gX14_name_X14_take rfl rfl rfl (by decide +kernel) ⟨(Nat.le_of_ble_eq_true rfl), (Nat.le_of_ble_eq_true rfl)⟩) (q_pV hA hW hS (ci := 12) rfl rO_0) rfl rfl hl.1 rfl (lv_room (Nat.le_of_ble_eq_true rfl)) dX14_name_33 ⟨Nat.le_of_ble_eq_true rfl, Nat.le_of_ble_eq_true rfl⟩) hS (fun f_33 n_33 H locs hp hW hS => ?_)
    obtain ⟨R_33, tk_33, nd_33, cc_33, ac_33, q_33, e7_33, e8_33, ec_33, ex_33, rfl, rfl⟩ := hp
    have G_33 : p_go K T u (p_take K 37 u) := (go_take hKT (by decide))
    have GG_33 := G_33 hok
    have ok_33 := GG_33.1
    have le_33 := GG_33.2.2.2.1
    have er_33 := GG_33.2.2.2.2
    have Q_33 := Q0.trans q_33
    have T_33 := Q_33.tok hTK
    have num_33 := Q_33.2.2
    unfold r_num at num_33
    have bt_33 := Q_33.1.1.2.1
    have bn_33 := Q_33.1.1.2.2.2.1
    have bc_33 := Q_33.1.1.2.2.2.2.2.1
    have ba_33 := Q_33.1.1.2.2.2.2.2.2.2
    have qn_33 := q_33.2.2
    unfold r_num at qn_33
    rw [rO_rO] at hW
    have hW : q_W E (rO E f M R_33) n H := hW
    refine lv_iconst (v := 0) hx hb dX14_name_36 (by decide) ?_
    refine lv_iload_n hx hb dX14_name_37 rfl (lv_at hl 0 rfl) ?_
    refine va_mmax hx hb (hml.trans hl.1.symm) hown (hts (.methodLink RX14 63 Lib.Math.max.name) (by decide +kernel)) (hts (.static Lib.Math.max.name) (by decide +kernel)) (hts (.initialized "java/lang/Math") (by decide +kernel)) (hts (.code Lib.Math.max.name Lib.Math.max.code 2 (some .int)) (by decide +kernel)) (Nat.le_of_ble_eq_true rfl) (Nat.le_of_ble_eq_true rfl) (Nat.le_of_ble_eq_true rfl) (Nat.le_of_ble_eq_true rfl) dX14_name_38 ?_
    exact q_iret hx hb hr hlocks hW hS ⟨_, _, _, _, _, (by rw [show p_known K Wd nm cnt u = p_take K 37 u from by unfold p_known p_take; rw [decide_eq_false eu]; rfl]; exact Q_33), (e7_33.trans rfl), (e8_33.trans rfl), ⟨(ec_33.1.trans rfl), (ec_33.2.trans rfl)⟩, (fun h1 h2 => absurd (known_ok (by omega) h1 h2).1 eu), rfl, rfl⟩ (Nat.le_of_ble_eq_true rfl) (Nat.le_of_ble_eq_true rfl) dX14_name_41
  · have eu : u.2.1 = 37 := of_decide_eq_true (b01_1 c_6)
    have hnw := hP.nw (by omega)
    refine lv_aload_n hx hb dX14_name_9 rfl (lv_at hl 0 rfl) ?_
    refine lv_aload_n hx hb dX14_name_10 rfl (lv_at hl 1 rfl) ?_
    refine lv_iload_n hx hb dX14_name_11 rfl (lv_at hl 2 rfl) ?_
    refine q_ci (va_runV (As := [.ref (M + 7), .int (nI cnt)]) (rest := []) ⟨hx, hb, hml, hown, hts⟩ (kX14_known_7 l E (rO E f M r) n M r K Wd T u tk nd cc ac cnt nm rO_K hTK hT hKT hK41 Q0.1 hok hnm hcnt (by rw [hnw.2.1, ← hnw.2.2.1]; exact eu)) (cwV 2 hts gX14_name_X14_known rfl rfl rfl (by decide +kernel) ⟨(Nat.le_of_ble_eq_true rfl), (Nat.le_of_ble_eq_true rfl)⟩) (q_pV hA hW hS (ci := 12) rfl rO_0) rfl rfl hl.1 rfl (lv_room (Nat.le_of_ble_eq_true rfl)) dX14_name_12 ⟨Nat.le_of_ble_eq_true rfl, Nat.le_of_ble_eq_true rfl⟩) hS (fun r_12 f_12 n_12 H locs hp hW hS => ?_)
    obtain ⟨rfl, rfl, rfl⟩ := hp
    have hW : q_W E (rO E f M r) n H := hW
    refine lv_goto (tgt := 19) hx hb dX14_name_15 (by decide) ?_
    refine lv_istore_n (lv' := [(3, .int (ix nm cnt (Wd tk))), (0, .ref M), (1, .ref (M + 7)), (2, .int (nI cnt))]) hx hb dX14_name_19 rfl hl (by decide) rfl (fun ls hl => ?_)
    refine lv_iload_n hx hb dX14_name_20 rfl (lv_at hl 0 rfl) ?_
    refine lv_iconst (v := (-1)) hx hb dX14_name_21 (by decide) ?_
    refine lv_icmp_ne (tgt := 30) hx hb dX14_name_22 (by decide) (fun c_22 => ?_) (fun c_22 => ?_)
    · refine lv_aload_n hx hb dX14_name_30 rfl (lv_at hl 1 rfl) ?_
      refine lv_bipush (v := 40) hx hb dX14_name_31 (by decide) ?_
      refine q_cv (va_runV (As := [.int 40]) (rest := []) ⟨hx, hb, hml, hown, hts⟩ (kX14_take l E (rO E f M r) n M r K Wd T u tk nd cc ac 37 40 rO_K hTK hT hKT hK41 Q0.1 hok rfl (by decide)) (cwV 1 hts gX14_name_X14_take rfl rfl rfl (by decide +kernel) ⟨(Nat.le_of_ble_eq_true rfl), (Nat.le_of_ble_eq_true rfl)⟩) (q_pV hA hW hS (ci := 12) rfl rO_0) rfl rfl hl.1 rfl (lv_room (Nat.le_of_ble_eq_true rfl)) dX14_name_33 ⟨Nat.le_of_ble_eq_true rfl, Nat.le_of_ble_eq_true rfl⟩) hS (fun f_33 n_33 H locs hp hW hS => ?_)
      obtain ⟨R_33, tk_33, nd_33, cc_33, ac_33, q_33, e7_33, e8_33, ec_33, ex_33, rfl, rfl⟩ := hp
      have G_33 : p_go K T u (p_take K 37 u) := (go_take hKT (by decide))
      have GG_33 := G_33 hok
      have ok_33 := GG_33.1
      have le_33 := GG_33.2.2.2.1
      have er_33 := GG_33.2.2.2.2
      have Q_33 := Q0.trans q_33
      have T_33 := Q_33.tok hTK
      have num_33 := Q_33.2.2
      unfold r_num at num_33
      have bt_33 := Q_33.1.1.2.1
      have bn_33 := Q_33.1.1.2.2.2.1
      have bc_33 := Q_33.1.1.2.2.2.2.2.1
      have ba_33 := Q_33.1.1.2.2.2.2.2.2.2
      have qn_33 := q_33.2.2
      unfold r_num at qn_33
      rw [rO_rO] at hW
      have hW : q_W E (rO E f M R_33) n H := hW
      refine lv_iconst (v := 0) hx hb dX14_name_36 (by decide) ?_
      refine lv_iload_n hx hb dX14_name_37 rfl (lv_at hl 0 rfl) ?_
      refine va_mmax hx hb (hml.trans hl.1.symm) hown (hts (.methodLink RX14 63 Lib.Math.max.name) (by decide +kernel)) (hts (.static Lib.Math.max.name) (by decide +kernel)) (hts (.initialized "java/lang/Math") (by decide +kernel)) (hts (.code Lib.Math.max.name Lib.Math.max.code 2 (some .int)) (by decide +kernel)) (Nat.le_of_ble_eq_true rfl) (Nat.le_of_ble_eq_true rfl) (Nat.le_of_ble_eq_true rfl) (Nat.le_of_ble_eq_true rfl) dX14_name_38 ?_
      exact q_iret hx hb hr hlocks hW hS ⟨_, _, _, _, _, (by rw [show p_known K Wd nm cnt u = p_take K 37 u from by unfold p_known p_take; rw [decide_eq_true eu, ← hnw.2.1, decide_eq_false (show ¬ ix nm cnt (Wd tk) < 0 from fun h9 => c_22 (ix_m1 (by omega) h9))]; rfl]; exact Q_33), (e7_33.trans rfl), (e8_33.trans rfl), ⟨(ec_33.1.trans rfl), (ec_33.2.trans rfl)⟩, (fun h1 h2 => by obtain ⟨-, i, i1, i2⟩ := known_ok (by omega) h1 h2; refine ⟨i, i1, i2, ?_⟩; rw [hnw.2.1, i2]; exact if_pos_max (by omega)), rfl, rfl⟩ (Nat.le_of_ble_eq_true rfl) (Nat.le_of_ble_eq_true rfl) dX14_name_41
    · refine lv_aload_n hx hb dX14_name_25 rfl (lv_at hl 1 rfl) ?_
      refine lv_iconst (v := 3) hx hb dX14_name_26 (by decide) ?_
      refine q_cv (va_runV (As := [.int 3]) (rest := []) ⟨hx, hb, hml, hown, hts⟩ (kX14_mark l E (rO E f M r) n M r K Wd T u tk nd cc ac 3 rO_K hTK hT hKT hK41 Q0.1 hok) (cwV 1 hts gX14_name_X14_mark rfl rfl rfl (by decide +kernel) ⟨(Nat.le_of_ble_eq_true rfl), (Nat.le_of_ble_eq_true rfl)⟩) (q_pV hA hW hS (ci := 12) rfl rO_0) rfl rfl hl.1 rfl (lv_room (Nat.le_of_ble_eq_true rfl)) dX14_name_27 ⟨Nat.le_of_ble_eq_true rfl, Nat.le_of_ble_eq_true rfl⟩) hS (fun f_27 n_27 H locs hp hW hS => ?_)
      obtain ⟨R_27, tk_27, nd_27, cc_27, ac_27, q_27, e7_27, e8_27, ec_27, ex_27, rfl, rfl⟩ := hp
      have G_27 : p_go K T u (p_ci true 3 u) := (go_ci (by decide) (by decide))
      have GG_27 := G_27 hok
      have ok_27 := GG_27.1
      have le_27 := GG_27.2.2.2.1
      have er_27 := GG_27.2.2.2.2
      have Q_27 := Q0.trans q_27
      have T_27 := Q_27.tok hTK
      have num_27 := Q_27.2.2
      unfold r_num at num_27
      have bt_27 := Q_27.1.1.2.1
      have bn_27 := Q_27.1.1.2.2.2.1
      have bc_27 := Q_27.1.1.2.2.2.2.2.1
      have ba_27 := Q_27.1.1.2.2.2.2.2.2.2
      have qn_27 := q_27.2.2
      unfold r_num at qn_27
      rw [rO_rO] at hW
      have hW : q_W E (rO E f M R_27) n H := hW
      refine lv_aload_n hx hb dX14_name_30 rfl (lv_at hl 1 rfl) ?_
      refine lv_bipush (v := 40) hx hb dX14_name_31 (by decide) ?_
      refine q_cv (va_runV (As := [.int 40]) (rest := []) ⟨hx, hb, hml, hown, hts⟩ (kX14_take l E (rO E f M R_27) n M R_27 K Wd T (p_ci true 3 u) tk_27 nd_27 cc_27 ac_27 37 40 rO_K T_27 hT hKT hK41 Q_27.1 ok_27 rfl (by decide)) (cwV 1 hts gX14_name_X14_take rfl rfl rfl (by decide +kernel) ⟨(Nat.le_of_ble_eq_true rfl), (Nat.le_of_ble_eq_true rfl)⟩) (q_pV hA hW hS (ci := 12) rfl rO_0) rfl rfl hl.1 rfl (lv_room (Nat.le_of_ble_eq_true rfl)) dX14_name_33 ⟨Nat.le_of_ble_eq_true rfl, Nat.le_of_ble_eq_true rfl⟩) hS (fun f_33 n_33 H locs hp hW hS => ?_)
      obtain ⟨R_33, tk_33, nd_33, cc_33, ac_33, q_33, e7_33, e8_33, ec_33, ex_33, rfl, rfl⟩ := hp
      have G_33 : p_go K T (p_ci true 3 u) (p_take K 37 (p_ci true 3 u)) := (go_take hKT (by decide))
      have GG_33 := G_33 ok_27
      have ok_33 := GG_33.1
      have le_33 := GG_33.2.2.2.1
      have er_33 := GG_33.2.2.2.2
      have Q_33 := Q_27.trans q_33
      have T_33 := Q_33.tok hTK
      have num_33 := Q_33.2.2
      unfold r_num at num_33
      have bt_33 := Q_33.1.1.2.1
      have bn_33 := Q_33.1.1.2.2.2.1
      have bc_33 := Q_33.1.1.2.2.2.2.2.1
      have ba_33 := Q_33.1.1.2.2.2.2.2.2.2
      have qn_33 := q_33.2.2
      unfold r_num at qn_33
      rw [rO_rO] at hW
      have hW : q_W E (rO E f M R_33) n H := hW
      refine lv_iconst (v := 0) hx hb dX14_name_36 (by decide) ?_
      refine lv_iload_n hx hb dX14_name_37 rfl (lv_at hl 0 rfl) ?_
      refine va_mmax hx hb (hml.trans hl.1.symm) hown (hts (.methodLink RX14 63 Lib.Math.max.name) (by decide +kernel)) (hts (.static Lib.Math.max.name) (by decide +kernel)) (hts (.initialized "java/lang/Math") (by decide +kernel)) (hts (.code Lib.Math.max.name Lib.Math.max.code 2 (some .int)) (by decide +kernel)) (Nat.le_of_ble_eq_true rfl) (Nat.le_of_ble_eq_true rfl) (Nat.le_of_ble_eq_true rfl) (Nat.le_of_ble_eq_true rfl) dX14_name_38 ?_
      exact q_iret hx hb hr hlocks hW hS ⟨_, _, _, _, _, (by rw [show p_known K Wd nm cnt u = p_take K 37 (p_ci true 3 u) from by unfold p_known p_take; rw [show (p_ci true 3 u).2.1 = u.2.1 from rfl, decide_eq_true eu, ← hnw.2.1, decide_eq_true (show ix nm cnt (Wd tk) < 0 from by rw [c_22]; decide)]; rfl]; exact Q_33), (e7_33.trans (e7_27.trans rfl)), (e8_33.trans (e8_27.trans rfl)), ⟨(ec_33.1.trans (ec_27.1.trans rfl)), (ec_33.2.trans (ec_27.2.trans rfl))⟩, (fun h1 h2 => by obtain ⟨-, i, i1, i2⟩ := known_ok (by omega) h1 h2; rw [← hnw.2.1, c_22] at i2; exact absurd (show nI i < 0 from by rw [← i2]; decide) (nI_pos (by omega))), rfl, rfl⟩ (Nat.le_of_ble_eq_true rfl) (Nat.le_of_ble_eq_true rfl) dX14_name_41
