/-! words packed in base 32 -/
def pkN (c : Nat → Nat) : Nat → Nat
  | 0 => 0
  | m + 1 => pkN c m * 32 + c m
theorem pkN_inj : ∀ (m m' : Nat) (c c' : Nat → Nat), (∀ k, k < m → 1 ≤ c k ∧ c k < 32) → (∀ k, k < m' → 1 ≤ c' k ∧ c' k < 32) → pkN c m = pkN c' m' → m = m' ∧ ∀ k, k < m → c k = c' k
  | 0, 0, _, _, _, _, _ => ⟨rfl, fun k h => absurd h (Nat.not_lt_zero k)⟩
  | 0, m' + 1, c, c', _, h2, e => by
    have z := h2 m' (Nat.lt_succ_self m')
    unfold pkN at e
    omega
  | m + 1, 0, c, c', h1, _, e => by
    have z := h1 m (Nat.lt_succ_self m)
    unfold pkN at e
    omega
  | m + 1, m' + 1, c, c', h1, h2, e => by
    have z1 := h1 m (Nat.lt_succ_self m)
    have z2 := h2 m' (Nat.lt_succ_self m')
    have e : pkN c m * 32 + c m = pkN c' m' * 32 + c' m' := e
    have ea : pkN c m = pkN c' m' := by omega
    have eb : c m = c' m' := by omega
    obtain ⟨em, hk⟩ := pkN_inj m m' c c' (fun k h => h1 k (by omega)) (fun k h => h2 k (by omega)) ea
    subst em
    refine ⟨rfl, fun k h => ?_⟩
    rcases Nat.lt_or_ge k m with h9 | h9
    · exact hk k h9
    · rw [show k = m by omega]; exact eb
theorem pkN_cong {c c' : Nat → Nat} : ∀ m, (∀ k, k < m → c k = c' k) → pkN c m = pkN c' m
  | 0, _ => rfl
  | m + 1, h => by
    unfold pkN
    rw [pkN_cong m (fun k hk => h k (by omega)), h m (Nat.lt_succ_self m)]
theorem pkN_lt {c : Nat → Nat} : ∀ m, (∀ k, k < m → c k < 32) → pkN c m < 32 ^ m
  | 0, _ => by show 0 < 1; decide
  | m + 1, h => by
    have z := pkN_lt m (fun k hk => h k (by omega))
    have z2 := h m (Nat.lt_succ_self m)
    unfold pkN
    rw [Nat.pow_succ]
    omega
theorem pkN_lt8 {c : Nat → Nat} {m : Nat} (h8 : m ≤ 8) (h : ∀ k, k < m → c k < 32) : pkN c m < 2 ^ 40 := by
  have z := pkN_lt m h
  have z2 : 32 ^ m ≤ 32 ^ 8 := Nat.pow_le_pow_right (by decide) h8
  have z3 : (32 : Nat) ^ 8 = 2 ^ 40 := by decide
  omega
/-- the letter at j, as a number from 1 -/
def lcd (g : Nat → Int32) (L j : Nat) : Nat := (t_at g L j).toNatClampNeg - 96
theorem at_byte {g : Nat → Int32} {L j : Nat} (h : j < L) : ∃ z, z < 256 ∧ t_at g L j = nI z := by
  obtain ⟨z, hz, e⟩ := and255 (g j)
  exact ⟨z, hz, by unfold t_at; rw [if_pos h]; exact e⟩
theorem let_num : ∀ z, z < 256 → b_let (nI z) = true → 97 ≤ z ∧ z ≤ 122 ∧ b_dig (nI z) = false ∧ (nI z - 97 + 1).toInt64 = Int64.ofNat (z - 96) := by decide +kernel
theorem let_at {g : Nat → Int32} {L j : Nat} (h : b_let (t_at g L j) = true) : ∃ z, 97 ≤ z ∧ z ≤ 122 ∧ t_at g L j = nI z ∧ lcd g L j = z - 96 ∧ b_dig (t_at g L j) = false ∧ (t_at g L j - 97 + 1).toInt64 = Int64.ofNat (lcd g L j) := by
  have hj : j < L := at_in (fun h9 => by rw [h9] at h; exact absurd h (by decide))
  obtain ⟨z, hz, e⟩ := at_byte (g := g) hj
  rw [e] at h
  obtain ⟨a, b, c, d⟩ := let_num z hz h
  have e2 : lcd g L j = z - 96 := by unfold lcd; rw [e, nI_clamp (by omega)]
  exact ⟨z, a, b, e, e2, by rw [e]; exact c, by rw [e2, e]; exact d⟩
theorem wor_letF {g : Nat → Int32} {L ps : Nat} : ∀ (m k : Nat), (∀ q, q < k + m → b_let (t_at g L (ps + q)) = true) → t_worF g L m (ps + k) (Int64.ofNat (pkN (fun q => lcd g L (ps + q)) k)) = Int64.ofNat (pkN (fun q => lcd g L (ps + q)) (k + m))
  | 0, k, _ => rfl
  | m + 1, k, h => by
    obtain ⟨z, -, -, -, -, hd, he⟩ := let_at (h k (by omega))
    have e : t_w1 (Int64.ofNat (pkN (fun q => lcd g L (ps + q)) k)) (t_at g L (ps + k)) = Int64.ofNat (pkN (fun q => lcd g L (ps + q)) (k + 1)) := by
      unfold t_w1
      rw [hd, he]
      show Int64.ofNat _ * Int64.ofNat 32 + Int64.ofNat _ = _
      rw [← Int64.ofNat_mul, ← Int64.ofNat_add]
      rfl
    show t_worF g L m (ps + k + 1) (t_w1 _ (t_at g L (ps + k))) = _
    rw [e, show k + (m + 1) = (k + 1) + m by omega]
    exact wor_letF m (k + 1) (fun q hq => h q (by omega))
theorem wor_let {g : Nat → Int32} {L ps len : Nat} (h : ∀ q, q < len → b_let (t_at g L (ps + q)) = true) : t_wor g L ps (ps + len) = Int64.ofNat (pkN (fun q => lcd g L (ps + q)) len) := by
  have z := wor_letF (g := g) (L := L) (ps := ps) len 0 (fun q hq => h q (by omega))
  unfold t_wor
  rw [show ps + len - ps = len by omega]
  rw [show (0 : Nat) + len = len by omega] at z
  exact z
theorem ofNat_inj {a b : Nat} (ha : a < 2 ^ 40) (hb : b < 2 ^ 40) (h : Int64.ofNat a = Int64.ofNat b) : a = b := by
  have z := congrArg Int64.toInt h
  rw [Int64.toInt_ofNat_of_lt (by omega), Int64.toInt_ofNat_of_lt (by omega)] at z
  omega
/-- two words are one, when their packings are -/
theorem wor_iff {g : Nat → Int32} {L p1 l1 p2 l2 : Nat} (h1 : ∀ q, q < l1 → b_let (t_at g L (p1 + q)) = true) (h2 : ∀ q, q < l2 → b_let (t_at g L (p2 + q)) = true) (h18 : l1 ≤ 8) (h28 : l2 ≤ 8) : t_wor g L p1 (p1 + l1) = t_wor g L p2 (p2 + l2) ↔ l1 = l2 ∧ ∀ k, k < l1 → t_at g L (p1 + k) = t_at g L (p2 + k) := by
  have b1 : ∀ k, k < l1 → 1 ≤ lcd g L (p1 + k) ∧ lcd g L (p1 + k) < 32 := fun k hk => by
    obtain ⟨z, a, b, -, e, -⟩ := let_at (h1 k hk)
    omega
  have b2 : ∀ k, k < l2 → 1 ≤ lcd g L (p2 + k) ∧ lcd g L (p2 + k) < 32 := fun k hk => by
    obtain ⟨z, a, b, -, e, -⟩ := let_at (h2 k hk)
    omega
  rw [wor_let h1, wor_let h2]
  refine ⟨fun h => ?_, fun h => ?_⟩
  · obtain ⟨el, hk⟩ := pkN_inj l1 l2 _ _ b1 b2 (ofNat_inj (pkN_lt8 h18 (fun k hk => (b1 k hk).2)) (pkN_lt8 h28 (fun k hk => (b2 k hk).2)) h)
    refine ⟨el, fun k hk1 => ?_⟩
    have e := hk k hk1
    obtain ⟨z, a, b, e1, e2, -⟩ := let_at (h1 k hk1)
    obtain ⟨z', a', b', e1', e2', -⟩ := let_at (h2 k (by omega))
    rw [e1, e1', show z = z' by omega]
  · obtain ⟨el, hk⟩ := h
    subst el
    rw [pkN_cong l1 (fun k hk1 => by show lcd g L (p1 + k) = lcd g L (p2 + k); unfold lcd; rw [hk k hk1])]
theorem wrd_pk : ∀ i, i < 27 → q_wrd.getD i 0 = Int64.ofNat (pkN (fun q => ((q_byt.getD i []).getD q 0).toNatClampNeg - 96) (q_len.getD i 0)) := by decide +kernel
theorem byt_let : ∀ i, i < 27 → ∀ q, q < 8 → q < q_len.getD i 0 → ∃ z, z < 123 ∧ 97 ≤ z ∧ (q_byt.getD i []).getD q 0 = nI z := by decide +kernel
