/-! keywords are the kinds of words; where a token ends; numbers -/
theorem byt_dig : ∀ i, i < 27 → ∀ q, q < q_len.getD i 0 → 1 ≤ ((q_byt.getD i []).getD q 0).toNatClampNeg - 96 ∧ ((q_byt.getD i []).getD q 0).toNatClampNeg - 96 < 32 := fun i hi q hq => by
  have h8 := len_lt i hi
  obtain ⟨z, a, b, e⟩ := byt_let i hi q (by omega) hq
  rw [e, nI_clamp (by omega)]
  omega
theorem w_is_iff {g t : Nat → Int32} {L ps len i : Nat} (hi : i < 27) (ht : ∀ k, k < len → t (ps + k) = t_at g L (ps + k)) (hl : ∀ q, q < len → b_let (t_at g L (ps + q)) = true) (h8 : len ≤ 8) : w_is t ps len i ↔ q_wrd.getD i 0 = t_wor g L ps (ps + len) := by
  have b1 : ∀ k, k < len → 1 ≤ lcd g L (ps + k) ∧ lcd g L (ps + k) < 32 := fun k hk => by
    obtain ⟨z, a, b, -, e, -⟩ := let_at (hl k hk)
    omega
  have b2 := byt_dig i hi
  have h82 := len_lt i hi
  rw [wrd_pk i hi, wor_let hl]
  refine ⟨fun h => ?_, fun h => ?_⟩
  · obtain ⟨el, hk⟩ := h
    rw [el]
    rw [pkN_cong len (fun k hk1 => by
      show ((q_byt.getD i []).getD k 0).toNatClampNeg - 96 = lcd g L (ps + k)
      unfold lcd
      rw [hk k hk1, ht k hk1])]
  · obtain ⟨el, hk⟩ := pkN_inj _ _ _ _ b2 b1 (ofNat_inj (pkN_lt8 h82 (fun k hk => (b2 k hk).2)) (pkN_lt8 h8 (fun k hk => (b1 k hk).2)) h)
    refine ⟨el, fun k hk1 => ?_⟩
    have e := hk k (by omega)
    obtain ⟨z, a, b, e1, e2, -⟩ := let_at (hl k hk1)
    obtain ⟨y, c, d, ey⟩ := byt_let i hi k (by omega) (by omega)
    have e : ((q_byt.getD i []).getD k 0).toNatClampNeg - 96 = lcd g L (ps + k) := e
    rw [ey, nI_clamp (by omega)] at e
    rw [ht k hk1, e1, ey, show y = z by omega]
theorem wordF_no {w : Int64} (hw : ¬ w = -1) : ∀ m j, 27 ≤ j → j + m ≤ 41 → k_wordF w m j = 37
  | 0, _, _, _ => rfl
  | m + 1, j, hj, hm => by
    unfold k_wordF
    have z : ∀ j, j < 41 → 27 ≤ j → q_wrd.getD j 0 = -1 := by decide
    rw [if_neg (fun h9 => hw (h9.symm.trans (z j (by omega) hj)))]
    exact wordF_no hw m (j + 1) (by omega) (by omega)
theorem m_kd_id : ∀ i, i < 27 → m_kd i = i := by decide
theorem kwF_kind {g t : Nat → Int32} {L ps len : Nat} (ht : ∀ k, k < len → t (ps + k) = t_at g L (ps + k)) (hl : ∀ q, q < len → b_let (t_at g L (ps + q)) = true) (h8 : len ≤ 8) (hw : ¬ t_wor g L ps (ps + len) = -1) : ∀ m i, i + m = 27 → kwF t ps len m i = nI (m_kd (k_wordF (t_wor g L ps (ps + len)) (m + 14) i))
  | 0, i, e => by
    rw [wordF_no hw 14 i (by omega) (by omega)]
    exact if_neg (by omega)
  | m + 1, i, e => by
    show (if w_is t ps len i then nI i else kwF t ps len m (i + 1)) = nI (m_kd (if q_wrd.getD i 0 = t_wor g L ps (ps + len) then i else k_wordF (t_wor g L ps (ps + len)) (m + 14) (i + 1)))
    by_cases h : q_wrd.getD i 0 = t_wor g L ps (ps + len)
    · rw [if_pos h, if_pos ((w_is_iff (by omega) ht hl h8).2 h), m_kd_id i (by omega)]
    · rw [if_neg h, if_neg (fun h9 => h ((w_is_iff (by omega) ht hl h8).1 h9))]
      exact kwF_kind ht hl h8 hw m (i + 1) (by omega)
theorem kwF_long {t : Nat → Int32} {ps len : Nat} (h8 : 8 < len) : ∀ m i, i + m = 27 → kwF t ps len m i = 70
  | 0, _, _ => if_pos h8
  | m + 1, i, e => by
    unfold kwF
    rw [if_neg (fun h9 => by have z := len_lt i (by omega); have z2 := h9.1; omega)]
    exact kwF_long h8 m (i + 1) (by omega)
theorem kw_kind {g t : Nat → Int32} {L ps len : Nat} (h0 : 0 < len) (ht : ∀ k, k < len → t (ps + k) = t_at g L (ps + k)) (hl : ∀ q, q < len → b_let (t_at g L (ps + q)) = true) : kwF t ps len 27 0 = nI (m_kd (t_kind (t_at g L ps) len (t_wor g L ps (ps + len)))) := by
  have hc : b_let (t_at g L ps) = true := hl 0 h0
  unfold t_kind
  rw [if_pos hc]
  by_cases h8 : len ≤ 8
  · rw [if_pos h8]
    refine kwF_kind ht hl h8 (fun h9 => ?_) 27 0 rfl
    rw [wor_let hl] at h9
    have z := congrArg Int64.toInt h9
    have b1 : ∀ k, k < len → lcd g L (ps + k) < 32 := fun k hk => by
      obtain ⟨z, a, b, -, e, -⟩ := let_at (hl k hk)
      omega
    have b2 := pkN_lt8 h8 b1
    rw [Int64.toInt_ofNat_of_lt (by omega)] at z
    have z2 : (-1 : Int64).toInt = -1 := by decide
    omega
  · rw [if_neg h8, kwF_long (by omega) 27 0 rfl]
    rfl
theorem end_step {g : Nat → Int32} {L j : Nat} {c : Int32} (h : j < L) (hb : b_goes c (t_at g L j) = true) : t_endF g L c (L - j) j = t_endF g L c (L - (j + 1)) (j + 1) := by
  rw [show L - j = (L - (j + 1)) + 1 by omega]
  exact if_pos ⟨h, hb⟩
theorem end_stop {g : Nat → Int32} {L j : Nat} {c : Int32} (hb : ¬ b_goes c (t_at g L j) = true) : t_endF g L c (L - j) j = j := by
  cases L - j with
  | zero => rfl
  | succ m => exact if_neg (fun h9 => hb h9.2)
theorem worF_snoc {g : Nat → Int32} {L : Nat} : ∀ (m j : Nat) (w : Int64), t_worF g L (m + 1) j w = t_w1 (t_worF g L m j w) (t_at g L (j + m))
  | 0, _, _ => rfl
  | m + 1, j, w => by
    show t_worF g L (m + 1) (j + 1) (t_w1 w (t_at g L j)) = _
    rw [worF_snoc m (j + 1) (t_w1 w (t_at g L j)), show j + 1 + m = j + (m + 1) by omega]
    rfl
theorem wor_snoc {g : Nat → Int32} {L ps e : Nat} (h : ps ≤ e) : t_wor g L ps (e + 1) = t_w1 (t_wor g L ps e) (t_at g L e) := by
  unfold t_wor
  rw [show e + 1 - ps = (e - ps) + 1 by omega, worF_snoc, show ps + (e - ps) = e by omega]
