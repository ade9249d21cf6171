/-! a kitchen: 20 addresses from k on (k + 7 .. k + 11 are the book that it was made with, and are no part of it); its numbers are one row v, in the order of the reference's row; hd: what each pan holds -/
abbrev cHis (h : Nat) (t : Int32) : va_E := .inr (5, [.ref (h + 1), .int t])
abbrev cKit (k bk : Nat) (v : Nat → Int32) : va_E := .inr (6, [.ref (k + 1), .ref (k + 2), .ref (k + 4), .ref (k + 6), .ref bk, .int (v 0), .int (v 1), .int (v 2), .int (v 3)])
abbrev cBook (b : Nat) (pc rc ac : Int32) : va_E := .inr (3, [.ref (b + 1), .ref (b + 2), .ref (b + 3), .ref (b + 4), .int pc, .int rc, .int ac])
def z_row (v : Nat → Int32) (b N : Nat) : Nat → Int32 := fun i => if i < N then v (b + i) else 0
def pA (k : Nat) : Nat → Option Nat := fun i => if i < 8 then some (k + 12 + i) else none
def kC (E : q_E) (k bk : Nat) (hd v : Nat → Int32) (j : Nat) : va_E :=
  if j = 0 then cKit k bk v else if j = 1 then aQ E 4 8 (pA k) else if j = 2 then cHis (k + 2) (v 4) else if j = 3 then aI E 20 (z_row v 12 20) else if j = 4 then cHis (k + 4) (v 5) else if j = 5 then aI E 20 (z_row v 32 20) else if j = 6 then aI E 6 (z_row v 6 6) else cPan (hd (j - 12)) (v (52 + 4 * (j - 12))) (v (53 + 4 * (j - 12))) (v (54 + 4 * (j - 12))) (v (55 + 4 * (j - 12)))
def kOut (k q : Nat) : Prop := q < k ∨ k + 20 ≤ q ∨ (k + 7 ≤ q ∧ q < k + 12)
def kO (E : q_E) (f : q_H) (k bk : Nat) (hd v : Nat → Int32) : q_H := fun q => if q < k ∨ k + 20 ≤ q ∨ (k + 7 ≤ q ∧ q < k + 12) then f q else some (kC E k bk hd v (q - k))
def KIT (E : q_E) (f : q_H) (k bk : Nat) (hd v : Nat → Int32) : Prop := ∀ q, ¬ kOut k q → f q = some (kC E k bk hd v (q - k))
section KO
variable {E : q_E} {f : q_H} {k bk bk' i : Nat} {hd hd' v w : Nat → Int32}
theorem KIT.eq (h : KIT E f k bk hd v) : f = kO E f k bk hd v := by
  funext q
  unfold kO
  split
  · rfl
  · next h1 => exact h q h1
theorem kO_K : KIT E (kO E f k bk hd v) k bk hd v := fun q hq => if_neg hq
theorem kO_out {q : Nat} (h : kOut k q) : kO E f k bk hd v q = f q := if_pos h
theorem kO_in {q : Nat} (h : ¬ kOut k q) : kO E f k bk hd v q = some (kC E k bk hd v (q - k)) := if_neg h
theorem kO_kO : kO E (kO E f k bk hd v) k bk' hd' w = kO E f k bk' hd' w := by
  funext q
  unfold kO
  split <;> rfl
theorem KIT.other {g : q_H} (h : KIT E f k bk hd v) (hg : ∀ q, ¬ kOut k q → g q = f q) : KIT E g k bk hd v := fun q hq => (hg q hq).trans (h q hq)
theorem kO_0 : kO E f k bk hd v k = some (cKit k bk v) := by rw [kO_in (by unfold kOut; omega), Nat.sub_self]; rfl
theorem kO_1 : kO E f k bk hd v (k + 1) = some (aQ E 4 8 (pA k)) := by rw [kO_in (by unfold kOut; omega), Nat.add_sub_cancel_left]; rfl
theorem kO_2 : kO E f k bk hd v (k + 2) = some (cHis (k + 2) (v 4)) := by rw [kO_in (by unfold kOut; omega), Nat.add_sub_cancel_left]; rfl
theorem kO_3 : kO E f k bk hd v (k + 3) = some (aI E 20 (z_row v 12 20)) := by rw [kO_in (by unfold kOut; omega), Nat.add_sub_cancel_left]; rfl
theorem kO_4 : kO E f k bk hd v (k + 4) = some (cHis (k + 4) (v 5)) := by rw [kO_in (by unfold kOut; omega), Nat.add_sub_cancel_left]; rfl
theorem kO_5 : kO E f k bk hd v (k + 5) = some (aI E 20 (z_row v 32 20)) := by rw [kO_in (by unfold kOut; omega), Nat.add_sub_cancel_left]; rfl
theorem kO_6 : kO E f k bk hd v (k + 6) = some (aI E 6 (z_row v 6 6)) := by rw [kO_in (by unfold kOut; omega), Nat.add_sub_cancel_left]; rfl
theorem kC_p (hi : 12 ≤ i) : kC E k bk hd v i = cPan (hd (i - 12)) (v (52 + 4 * (i - 12))) (v (53 + 4 * (i - 12))) (v (54 + 4 * (i - 12))) (v (55 + 4 * (i - 12))) := by
  unfold kC
  rw [if_neg (by omega), if_neg (by omega), if_neg (by omega), if_neg (by omega), if_neg (by omega), if_neg (by omega), if_neg (by omega)]
theorem kO_p (hi : i < 8) : kO E f k bk hd v (k + 12 + i) = some (cPan (hd i) (v (52 + 4 * i)) (v (53 + 4 * i)) (v (54 + 4 * i)) (v (55 + 4 * i))) := by
  rw [kO_in (by unfold kOut; omega), show k + 12 + i - k = 12 + i by omega, kC_p (by omega), show 12 + i - 12 = i by omega]
theorem kO_up {j : Nat} {e : va_E} (hj : ¬ kOut k (k + j)) (he : kC E k bk' hd' w j = e) (ho : ∀ i, i < 20 → ¬ (7 ≤ i ∧ i < 12) → i ≠ j → kC E k bk' hd' w i = kC E k bk hd v i) : va_up (kO E f k bk hd v) (k + j) (some e) = kO E f k bk' hd' w := by
  funext q
  by_cases hq : q = k + j
  · subst hq
    rw [va_up_self, kO_in hj, Nat.add_sub_cancel_left, he]
  · rw [va_up_ne _ _ hq]
    by_cases h1 : kOut k q
    · rw [kO_out h1, kO_out h1]
    · rw [kO_in h1, kO_in h1]
      unfold kOut at h1
      rw [ho (q - k) (by omega) (by omega) (by omega)]
theorem z_row_cong {b N : Nat} (h : ∀ j, j < N → w (b + j) = v (b + j)) : z_row w b N = z_row v b N := by
  funext j
  unfold z_row
  split
  · next hj => exact h j hj
  · rfl
/-- a cell says the same of two rows that agree where it looks -/
theorem kC_same (a0 : i = 0 → bk' = bk ∧ w 0 = v 0 ∧ w 1 = v 1 ∧ w 2 = v 2 ∧ w 3 = v 3) (a2 : i = 2 → w 4 = v 4) (a3 : i = 3 → ∀ j, j < 20 → w (12 + j) = v (12 + j)) (a4 : i = 4 → w 5 = v 5) (a5 : i = 5 → ∀ j, j < 20 → w (32 + j) = v (32 + j)) (a6 : i = 6 → ∀ j, j < 6 → w (6 + j) = v (6 + j)) (ap : 12 ≤ i → hd' (i - 12) = hd (i - 12) ∧ ∀ j, j < 4 → w (52 + 4 * (i - 12) + j) = v (52 + 4 * (i - 12) + j)) (hi : ¬ (7 ≤ i ∧ i < 12)) : kC E k bk' hd' w i = kC E k bk hd v i := by
  by_cases h12 : 12 ≤ i
  · obtain ⟨e0, e⟩ := ap h12
    have e1 := e 0 (by omega)
    have e2 := e 1 (by omega)
    have e3 := e 2 (by omega)
    have e4 := e 3 (by omega)
    rw [show 52 + 4 * (i - 12) + 1 = 53 + 4 * (i - 12) by omega] at e2
    rw [show 52 + 4 * (i - 12) + 2 = 54 + 4 * (i - 12) by omega] at e3
    rw [show 52 + 4 * (i - 12) + 3 = 55 + 4 * (i - 12) by omega] at e4
    rw [kC_p h12, kC_p h12, e0, e2, e3, e4]
    exact congrArg (fun x => cPan (hd (i - 12)) x (v (53 + 4 * (i - 12))) (v (54 + 4 * (i - 12))) (v (55 + 4 * (i - 12)))) e1
  · have h7 : i < 7 := by omega
    rcases (by omega : i = 0 ∨ i = 1 ∨ i = 2 ∨ i = 3 ∨ i = 4 ∨ i = 5 ∨ i = 6) with h | h | h | h | h | h | h
    · obtain ⟨z0, z1, z2, z3, z4⟩ := a0 h
      subst h
      show cKit k bk' w = cKit k bk v
      rw [cKit, z0, z1, z2, z3, z4]
    · subst h; rfl
    · have z := a2 h
      subst h
      show cHis (k + 2) (w 4) = cHis (k + 2) (v 4)
      rw [z]
    · have z := a3 h
      subst h
      show aI E 20 (z_row w 12 20) = aI E 20 (z_row v 12 20)
      rw [z_row_cong z]
    · have z := a4 h
      subst h
      show cHis (k + 4) (w 5) = cHis (k + 4) (v 5)
      rw [z]
    · have z := a5 h
      subst h
      show aI E 20 (z_row w 32 20) = aI E 20 (z_row v 32 20)
      rw [z_row_cong z]
    · have z := a6 h
      subst h
      show aI E 6 (z_row w 6 6) = aI E 6 (z_row v 6 6)
      rw [z_row_cong z]
theorem z_un {x : Int32} {j q : Nat} (h : q ≠ j) : upd v j x q = v q := by simp [upd, h]
theorem z_us {x : Int32} {j : Nat} : upd v j x j = x := by simp [upd]
def z_pan (v : Nat → Int32) (i : Nat) (a b c d : Int32) : Nat → Int32 := fun q => if q = 52 + 4 * i then a else if q = 53 + 4 * i then b else if q = 54 + 4 * i then c else if q = 55 + 4 * i then d else v q
theorem z_pan_n {a b c d : Int32} {q : Nat} (h : q < 52 + 4 * i ∨ 56 + 4 * i ≤ q) : z_pan v i a b c d q = v q := by
  unfold z_pan
  rw [if_neg (by omega), if_neg (by omega), if_neg (by omega), if_neg (by omega)]
theorem z_pan_0 {a b c d : Int32} : z_pan v i a b c d (52 + 4 * i) = a := if_pos rfl
theorem z_pan_1 {a b c d : Int32} : z_pan v i a b c d (53 + 4 * i) = b := by unfold z_pan; rw [if_neg (by omega), if_pos rfl]
theorem z_pan_2 {a b c d : Int32} : z_pan v i a b c d (54 + 4 * i) = c := by unfold z_pan; rw [if_neg (by omega), if_neg (by omega), if_pos rfl]
theorem z_pan_3 {a b c d : Int32} : z_pan v i a b c d (55 + 4 * i) = d := by unfold z_pan; rw [if_neg (by omega), if_neg (by omega), if_neg (by omega), if_pos rfl]
/-- a row of the row is written anew -/
def z_put (v : Nat → Int32) (b N : Nat) (g : Nat → Int32) : Nat → Int32 := fun q => if b ≤ q ∧ q < b + N then g (q - b) else v q
/-- the kitchen's own cell -/
theorem kO_s0 (h : ∀ j, 4 ≤ j → w j = v j) : va_up (kO E f k bk hd v) k (some (cKit k bk' w)) = kO E f k bk' hd w := by
  have := kO_up (E := E) (f := f) (k := k) (bk := bk) (bk' := bk') (hd := hd) (hd' := hd) (v := v) (w := w) (j := 0) (e := cKit k bk' w) (by unfold kOut; omega) rfl (fun i h1 h2 h3 => kC_same (fun z => absurd z h3) (fun _ => h 4 (by omega)) (fun _ j _ => h _ (by omega)) (fun _ => h 5 (by omega)) (fun _ j _ => h _ (by omega)) (fun _ j _ => h _ (by omega)) (fun _ => ⟨rfl, fun j _ => h _ (by omega)⟩) h2)
  rw [Nat.add_zero] at this
  exact this
theorem kO_s2 {x : Int32} : va_up (kO E f k bk hd v) (k + 2) (some (cHis (k + 2) x)) = kO E f k bk hd (upd v 4 x) :=
  kO_up (by unfold kOut; omega) (by show cHis (k + 2) (upd v 4 x 4) = _; rw [z_us]) (fun i h1 h2 h3 => kC_same (fun _ => ⟨rfl, z_un (by omega), z_un (by omega), z_un (by omega), z_un (by omega)⟩) (fun z => absurd z h3) (fun _ j _ => z_un (by omega)) (fun _ => z_un (by omega)) (fun _ j _ => z_un (by omega)) (fun _ j _ => z_un (by omega)) (fun _ => ⟨rfl, fun j _ => z_un (by omega)⟩) h2)
theorem kO_s4 {x : Int32} : va_up (kO E f k bk hd v) (k + 4) (some (cHis (k + 4) x)) = kO E f k bk hd (upd v 5 x) :=
  kO_up (by unfold kOut; omega) (by show cHis (k + 4) (upd v 5 x 5) = _; rw [z_us]) (fun i h1 h2 h3 => kC_same (fun _ => ⟨rfl, z_un (by omega), z_un (by omega), z_un (by omega), z_un (by omega)⟩) (fun _ => z_un (by omega)) (fun _ j _ => z_un (by omega)) (fun z => absurd z h3) (fun _ j _ => z_un (by omega)) (fun _ j _ => z_un (by omega)) (fun _ => ⟨rfl, fun j _ => z_un (by omega)⟩) h2)
theorem z_row_up {b N j : Nat} {x : Int32} (hj : j < N) : upd (z_row v b N) j x = z_row (upd v (b + j) x) b N := by
  funext q
  by_cases hq : q = j
  · subst hq
    simp [upd, z_row, hj]
  · have : b + q ≠ b + j := by omega
    simp [upd, z_row, hq, this]
theorem kO_s3 {j : Nat} {x : Int32} (hj : j < 20) : va_up (kO E f k bk hd v) (k + 3) (some (aI E 20 (upd (z_row v 12 20) j x))) = kO E f k bk hd (upd v (12 + j) x) := by
  rw [z_row_up hj]
  exact kO_up (by unfold kOut; omega) rfl (fun i h1 h2 h3 => kC_same (fun _ => ⟨rfl, z_un (by omega), z_un (by omega), z_un (by omega), z_un (by omega)⟩) (fun _ => z_un (by omega)) (fun z => absurd z h3) (fun _ => z_un (by omega)) (fun _ j _ => z_un (by omega)) (fun _ j _ => z_un (by omega)) (fun _ => ⟨rfl, fun j _ => z_un (by omega)⟩) h2)
theorem kO_s5 {j : Nat} {x : Int32} (hj : j < 20) : va_up (kO E f k bk hd v) (k + 5) (some (aI E 20 (upd (z_row v 32 20) j x))) = kO E f k bk hd (upd v (32 + j) x) := by
  rw [z_row_up hj]
  exact kO_up (by unfold kOut; omega) rfl (fun i h1 h2 h3 => kC_same (fun _ => ⟨rfl, z_un (by omega), z_un (by omega), z_un (by omega), z_un (by omega)⟩) (fun _ => z_un (by omega)) (fun _ j _ => z_un (by omega)) (fun _ => z_un (by omega)) (fun z => absurd z h3) (fun _ j _ => z_un (by omega)) (fun _ => ⟨rfl, fun j _ => z_un (by omega)⟩) h2)
theorem kO_s6 {j : Nat} {x : Int32} (hj : j < 6) : va_up (kO E f k bk hd v) (k + 6) (some (aI E 6 (upd (z_row v 6 6) j x))) = kO E f k bk hd (upd v (6 + j) x) := by
  rw [z_row_up hj]
  exact kO_up (by unfold kOut; omega) rfl (fun i h1 h2 h3 => kC_same (fun _ => ⟨rfl, z_un (by omega), z_un (by omega), z_un (by omega), z_un (by omega)⟩) (fun _ => z_un (by omega)) (fun _ j _ => z_un (by omega)) (fun _ => z_un (by omega)) (fun _ j _ => z_un (by omega)) (fun z => absurd z h3) (fun _ => ⟨rfl, fun j _ => z_un (by omega)⟩) h2)
theorem kO_sp {x a b c d : Int32} (hi : i < 8) : va_up (kO E f k bk hd v) (k + 12 + i) (some (cPan x a b c d)) = kO E f k bk (upd hd i x) (z_pan v i a b c d) := by
  rw [Nat.add_assoc]
  refine kO_up (by unfold kOut; omega) ?_ (fun j h1 h2 h3 => kC_same (fun _ => ⟨rfl, z_pan_n (by omega), z_pan_n (by omega), z_pan_n (by omega), z_pan_n (by omega)⟩) (fun _ => z_pan_n (by omega)) (fun _ j _ => z_pan_n (by omega)) (fun _ => z_pan_n (by omega)) (fun _ j _ => z_pan_n (by omega)) (fun _ j _ => z_pan_n (by omega)) (fun h12 => ⟨by simp only [upd]; rw [if_neg (by omega)], fun m hm => z_pan_n (by omega)⟩) h2)
  rw [kC_p (by omega), show 12 + i - 12 = i by omega, z_pan_0, z_pan_1, z_pan_2, z_pan_3]
  simp [upd]
theorem z_hd : upd hd i (hd i) = hd := by
  funext q
  by_cases hq : q = i
  · subst hq; simp [upd]
  · simp [upd, hq]
theorem kO_sq {a b c d : Int32} (hi : i < 8) : va_up (kO E f k bk hd v) (k + 12 + i) (some (cPan (hd i) a b c d)) = kO E f k bk hd (z_pan v i a b c d) := by
  rw [kO_sp hi, z_hd]
end KO

theorem z_row_at {v : Nat → Int32} {b N j : Nat} (h : j < N) : z_row v b N j = v (b + j) := if_pos h

section QF
variable {l : Launch}
/-- a method of a class some of whose methods the machine runs itself: this one it does not -/
theorem q_ofWF {y : MethodName} {ws ws' : List Cond} {rm : Room} {Pc : Array Value → State → Prop} {Qc : Array Value → State → Outcome → State → Prop} {mc ms : Nat} {free : Addr → Prop} {cc : ByteArray} {maxL : Nat} {ret : Option FieldType}
    (hy : plainFor y = true) (hw : ws = Cond.code y cc maxL ret :: ws')
    (body : ∀ p e s m args below meth c s₁, BodyLoose p l y (headSpec ws rm) cc maxL ret e s m args below meth c s₁ → c.maxLocals = maxL → Pc args s →
      W p l e (headSpec ws rm).room s m args below meth c s.heap [] 0 0 (MQ below Qc args s mc ms free) (entryFrame m args maxL)) : Met l y ws rm Pc Qc mc ms free := by
  refine MetFree.of_bodySF (code := cc) (maxLocals := maxL) (ret := ret) hy ?_ ?_
  · intro args s m h hn
    obtain ⟨meth, c, h1, h2, h3, h4, h5, h6, -, -⟩ := Cond.code_spec hn (atoms_spec (ws := ws) h _ (by rw [hw]; exact List.mem_cons_self))
    exact ⟨meth, c, h1, h2, h3, h4, h5, h6⟩
  · intro p e s m args below meth c s₁ B hml hP _
    have hh0 : s₁.heap = s.heap := by rw [B.state]; rfl
    obtain ⟨t, a1, o, b1, b2, b3⟩ := body p e s m args below meth c s₁ B hml hP s₁ hh0 (Stand.of_body B)
    exact ⟨t, o, a1, b1, b2, ⟨b3.1, b3.2⟩⟩
end QF

theorem nx_xor (a b : Nat) : nI a ^^^ nI b = nI (a ^^^ b) := by
  apply Int32.toBitVec_inj.1
  show BitVec.ofNat 32 a ^^^ BitVec.ofNat 32 b = BitVec.ofNat 32 (a ^^^ b)
  apply BitVec.eq_of_getLsbD_eq
  intro i hi
  simp [hi]
theorem q_xor20 {T : Nat} (hT : T < 2 ^ 31) : (0 : Int32) ≤ nI T ^^^ 20 := by
  rw [show (20 : Int32) = nI 20 from rfl, nx_xor]
  exact nI_pos' (Nat.xor_lt_two_pow hT (by decide))
theorem q_rem20 {T : Nat} (hT : T < 2 ^ 31) : nI T - nI T / 20 * 20 = nI (T % 20) := pk_rem hT (by decide) (by decide)
theorem q_20 (T : Nat) : T % 20 < 2 ^ 31 := Nat.lt_trans (Nat.mod_lt T (by decide : 20 > 0)) (by decide)
theorem q_in {i : Int32} {N : Nat} (h1 : ¬ i < 0) (h2 : ¬ Int32.ofNat N ≤ i) (hN : N < 2 ^ 31) : vp_in i N := by
  obtain ⟨j, hj, rfl⟩ := nI_of h1
  rcases Nat.lt_or_ge j N with h | h
  · exact vp_in_nI h hN
  · exact absurd (nI_le h hj) h2

set_option maxHeartbeats 4000000 in
set_option maxRecDepth 100000 in
theorem kJ9_floorMod_7cf53 (l : Launch) (E : q_E) (f : q_H) (n : Nat) (T : Nat)  (hT : T < 2 ^ 31) : Met l yJ9_floorMod_7cf53 wsJ9_floorMod_7cf53 ({ frames := 0, cells := 0, slots := 0, locals := 0 }) (q_P E [.int (nI T), .int 20] f n) (q_Qi E (fun r f1 n1 => nI (T % 20) = r ∧ f = f1 ∧ n = n1)) 0 0 (q_ge E) := by
  refine q_ofWF (cc := cJ9_floorMod_7cf53) (maxL := 3) (ret := (some .int)) (by decide +kernel) rfl ?_
  intro p e s m args below meth c s₁ B hml hv
  obtain ⟨rfl, hA, hW⟩ := hv
  have hx := B.exec
  have hb := B.bytes
  have hr := B.returns
  have hts := atoms_spec (ws := wsJ9_floorMod_7cf53) B.pre
  have hown : s.vm.findClass RJ9 = some m.cls := findClass_of_methodNamed B.named
  have hlocks := B.notSynchronized
  have hS : va_S (q_ge E) s.heap s.heap [] := va_S.rf
  have hl := lv_entry ([.int (nI T), .int 20]) (n := 3) (Nat.le_of_ble_eq_true rfl)
  rw [lg_entry_eq]
  generalize (lg_sl ([.int (nI T), .int 20]) ++ List.replicate (3 - (lg_sl ([.int (nI T), .int 20])).length) Slot.unset).toArray = ls at hl ⊢
  have hl : lv_has ls 3 [(0, .int (nI T)), (1, .int 20)] := hl
  refine lv_iload_n hx hb dJ9_floorMod_7cf53_0 rfl (lv_at hl 0 rfl) ?_
  refine lv_iload_n hx hb dJ9_floorMod_7cf53_1 rfl (lv_at hl 1 rfl) ?_
  refine lv_irem hx hb dJ9_floorMod_7cf53_2 (by decide) ?_
  rw [q_rem20 hT]
  refine lv_istore_n (lv' := [(2, .int (nI (T % 20))), (0, .int (nI T)), (1, .int 20)]) hx hb dJ9_floorMod_7cf53_3 rfl hl (by decide) rfl (fun ls hl => ?_)
  refine lv_iload_n hx hb dJ9_floorMod_7cf53_4 rfl (lv_at hl 1 rfl) ?_
  refine lv_iload_n hx hb dJ9_floorMod_7cf53_5 rfl (lv_at hl 2 rfl) ?_
  refine lv_ixor hx hb dJ9_floorMod_7cf53_6 ?_
  refine lv_if_ge (tgt := 18) hx hb dJ9_floorMod_7cf53_7 (by decide) (fun c_7 => ?_) (fun c_7 => absurd (q_xor20 hT) c_7)
  refine lv_iload_n hx hb dJ9_floorMod_7cf53_18 rfl (lv_at hl 0 rfl) ?_
  exact q_iret hx hb hr hlocks hW hS ⟨rfl, rfl, rfl⟩ (Nat.le_of_ble_eq_true rfl) (Nat.le_of_ble_eq_true rfl) dJ9_floorMod_7cf53_19

set_option maxHeartbeats 4000000 in
set_option maxRecDepth 100000 in
theorem kX4_clear (l : Launch) (E : q_E) (f : q_H) (n : Nat) (h : Nat) (t : Int32) (h0 : f h = some (cHis h t)) : Met l yX4_clear wsX4_clear ({ frames := 0, cells := 0, slots := 0, locals := 0 }) (q_P E [.ref h] f n) (q_Qv E (fun f1 n1 => va_up f h (some (cHis h 0)) = f1 ∧ n = n1)) 0 0 (q_ge E) := by
  refine Met.ofW (cc := cX4_clear) (maxL := 1) (ret := none) (by decide) rfl ?_
  intro p e s m args below meth c s₁ B hml hv
  obtain ⟨rfl, hA, hW⟩ := hv
  have hx := B.exec
  have hb := B.bytes
  have hr := B.returns
  have hts := atoms_spec (ws := wsX4_clear) B.pre
  have hown : s.vm.findClass RX4 = some m.cls := findClass_of_methodNamed B.named
  have hlocks := B.notSynchronized
  have hS : va_S (q_ge E) s.heap s.heap [] := va_S.rf
  have iX4 : ∀ w ∈ wsX40, w ∈ wsX4_clear := by decide +kernel
  have hl := lv_entry ([.ref h]) (n := 1) (Nat.le_of_ble_eq_true rfl)
  rw [lg_entry_eq]
  generalize (lg_sl ([.ref h]) ++ List.replicate (1 - (lg_sl ([.ref h])).length) Slot.unset).toArray = ls at hl ⊢
  have hl : lv_has ls 1 [(0, .ref h)] := hl
  refine lv_aload_n hx hb dX4_clear_0 rfl (lv_at hl 0 rfl) ?_
  refine lv_iconst (v := 0) hx hb dX4_clear_1 (by decide) ?_
  refine q_put hx hb hts hown hA hW hS iX4 tyX4 tyX4_ok nmX4 h0 rfl 1 (by decide) (hts (.fieldLink RX4 13 "HighRecipes$History" "total" "I") (by decide +kernel)) (fun _ h9 => h9) rfl rfl rfl (Nat.le_of_ble_eq_true rfl) dX4_clear_2 (fun H locs hW hS => ?_)
  have hW : q_W E (va_up f h (some (cHis h 0))) n H := hW
  exact q_vret hx hb hr hlocks hW hS ⟨rfl, rfl⟩ (Nat.le_of_ble_eq_true rfl) (Nat.le_of_ble_eq_true rfl) dX4_clear_5

set_option maxHeartbeats 4000000 in
set_option maxRecDepth 100000 in
theorem kX4_kept (l : Launch) (E : q_E) (f : q_H) (n : Nat) (h : Nat) (t : Int32) (h0 : f h = some (cHis h t)) : Met l yX4_kept wsX4_kept ({ frames := 1, cells := 0, slots := 0, locals := 21 }) (q_P E [.ref h] f n) (q_Qi E (fun r f1 n1 => q_min t 20 = r ∧ f = f1 ∧ n = n1)) 0 0 (q_ge E) := by
  refine Met.ofW (cc := cX4_kept) (maxL := 1) (ret := (some .int)) (by decide) rfl ?_
  intro p e s m args below meth c s₁ B hml hv
  obtain ⟨rfl, hA, hW⟩ := hv
  have hx := B.exec
  have hb := B.bytes
  have hr := B.returns
  have hts := atoms_spec (ws := wsX4_kept) B.pre
  have hown : s.vm.findClass RX4 = some m.cls := findClass_of_methodNamed B.named
  have hlocks := B.notSynchronized
  have hS : va_S (q_ge E) s.heap s.heap [] := va_S.rf
  have iX4 : ∀ w ∈ wsX40, w ∈ wsX4_kept := by decide +kernel
  have hl := lv_entry ([.ref h]) (n := 1) (Nat.le_of_ble_eq_true rfl)
  rw [lg_entry_eq]
  generalize (lg_sl ([.ref h]) ++ List.replicate (1 - (lg_sl ([.ref h])).length) Slot.unset).toArray = ls at hl ⊢
  have hl : lv_has ls 1 [(0, .ref h)] := hl
  refine lv_aload_n hx hb dX4_kept_0 rfl (lv_at hl 0 rfl) ?_
  refine q_get hx hb hts hown hA hW iX4 h0 rfl 1 (by decide) (hts (.fieldLink RX4 13 "HighRecipes$History" "total" "I") (by decide +kernel)) (fun _ h9 => h9) (v := .int t) rfl dX4_kept_1 ?_
  refine lv_bipush (v := 20) hx hb dX4_kept_4 (by decide) ?_
  refine va_mmin hx hb (hml.trans hl.1.symm) hown (hts (.methodLink RX4 23 Lib.Math.min.name) (by decide +kernel)) (hts (.static Lib.Math.min.name) (by decide +kernel)) (hts (.initialized "java/lang/Math") (by decide +kernel)) (hts (.code Lib.Math.min.name Lib.Math.min.code 2 (some .int)) (by decide +kernel)) (Nat.le_of_ble_eq_true rfl) (Nat.le_of_ble_eq_true rfl) (Nat.le_of_ble_eq_true rfl) (Nat.le_of_ble_eq_true rfl) dX4_kept_6 ?_
  exact q_iret hx hb hr hlocks hW hS ⟨rfl, rfl, rfl⟩ (Nat.le_of_ble_eq_true rfl) (Nat.le_of_ble_eq_true rfl) dX4_kept_9

set_option maxHeartbeats 4000000 in
set_option maxRecDepth 100000 in
theorem kX4_add (l : Launch) (E : q_E) (f : q_H) (n : Nat) (h T : Nat) (g : Nat → Int32) (x : Int32) (h0 : f h = some (cHis h (nI T))) (h1 : f (h + 1) = some (aI E 20 g)) (hT : T < 2 ^ 30) : Met l yX4_add wsX4_add ({ frames := 1, cells := 0, slots := 0, locals := 22 }) (q_P E [.ref h, .int x] f n) (q_Qv E (fun f1 n1 => va_up (va_up f (h + 1) (some (aI E 20 (upd g (T % 20) x)))) h (some (cHis h (nI T + 1))) = f1 ∧ n = n1)) 0 0 (q_ge E) := by
  refine Met.ofW (cc := cX4_add) (maxL := 3) (ret := none) (by decide) rfl ?_
  intro p e s m args below meth c s₁ B hml hv
  obtain ⟨rfl, hA, hW⟩ := hv
  have hx := B.exec
  have hb := B.bytes
  have hr := B.returns
  have hts := atoms_spec (ws := wsX4_add) B.pre
  have hown : s.vm.findClass RX4 = some m.cls := findClass_of_methodNamed B.named
  have hlocks := B.notSynchronized
  have hS : va_S (q_ge E) s.heap s.heap [] := va_S.rf
  have iX4 : ∀ w ∈ wsX40, w ∈ wsX4_add := by decide +kernel
  have hl := lv_entry ([.ref h, .int x]) (n := 3) (Nat.le_of_ble_eq_true rfl)
  rw [lg_entry_eq]
  generalize (lg_sl ([.ref h, .int x]) ++ List.replicate (3 - (lg_sl ([.ref h, .int x])).length) Slot.unset).toArray = ls at hl ⊢
  have hl : lv_has ls 3 [(0, .ref h), (1, .int x)] := hl
  refine lv_aload_n hx hb dX4_add_0 rfl (lv_at hl 0 rfl) ?_
  refine q_get hx hb hts hown hA hW iX4 h0 rfl 1 (by decide) (hts (.fieldLink RX4 13 "HighRecipes$History" "total" "I") (by decide +kernel)) (fun _ h9 => h9) (v := .int (nI T)) rfl dX4_add_1 ?_
  refine lv_bipush (v := 20) hx hb dX4_add_4 (by decide) ?_
  refine q_ci (va_runS (As := [.int (nI T), .int 20]) (rest := []) ⟨hx, hb, hml, hown, hts⟩ (kJ9_floorMod_7cf53 l E f n T (Nat.lt_trans hT (by decide))) (va_cwS 2 hts gX4_add_J9_floorMod_7cf53 rfl rfl rfl (by decide +kernel) ⟨(Nat.le_of_ble_eq_true rfl), (Nat.le_of_ble_eq_true rfl)⟩) (q_pS hA hW hS) rfl rfl hl.1 rfl (lv_room (Nat.le_of_ble_eq_true rfl)) dX4_add_6 ⟨Nat.le_of_ble_eq_true rfl, Nat.le_of_ble_eq_true rfl⟩) hS (fun r_6 f_6 n_6 H locs hp hW hS => ?_)
  obtain ⟨rfl, rfl, rfl⟩ := hp
  have hW : q_W E (f) n H := hW
  refine lv_istore_n (lv' := [(2, .int (nI (T % 20))), (0, .ref h), (1, .int x)]) hx hb dX4_add_9 rfl hl (by decide) rfl (fun ls hl => ?_)
  refine lv_iload_n hx hb dX4_add_10 rfl (lv_at hl 0 rfl) ?_
  refine lv_if_lt (tgt := 40) hx hb dX4_add_11 (by decide) (fun c_11 => absurd c_11 (nI_pos (q_20 T))) (fun c_11 => ?_)
  refine lv_iload_n hx hb dX4_add_14 rfl (lv_at hl 0 rfl) ?_
  refine lv_aload_n hx hb dX4_add_15 rfl (lv_at hl 1 rfl) ?_
  refine q_get hx hb hts hown hA hW iX4 h0 rfl 0 (by decide) (hts (.fieldLink RX4 9 "HighRecipes$History" "latest" "[I") (by decide +kernel)) (fun _ h9 => h9) (v := .ref (h + 1)) rfl dX4_add_16 ?_
  refine q_alen hx hb hA hW 0 rfl h1 (v := Int32.ofNat 20) rfl dX4_add_19 ?_
  refine lv_icmp_ge (tgt := 40) hx hb dX4_add_20 (by decide) (fun c_20 => absurd c_20 (nI_ge (Nat.mod_lt T (by decide : 20 > 0)) (by decide))) (fun c_20 => ?_)
  refine lv_aload_n hx hb dX4_add_23 rfl (lv_at hl 1 rfl) ?_
  refine q_get hx hb hts hown hA hW iX4 h0 rfl 0 (by decide) (hts (.fieldLink RX4 9 "HighRecipes$History" "latest" "[I") (by decide +kernel)) (fun _ h9 => h9) (v := .ref (h + 1)) rfl dX4_add_24 ?_
  refine lv_iload_n hx hb dX4_add_27 rfl (lv_at hl 0 rfl) ?_
  refine lv_iload_n hx hb dX4_add_28 rfl (lv_at hl 2 rfl) ?_
  refine q_iast hx hb hA hW hS h1 (vp_in_nI (Nat.mod_lt _ (by decide)) (by decide)) dX4_add_29 (fun H locs hW hS => ?_)
  rw [show (nI (T % 20)).toNatClampNeg = T % 20 from (nI_clamp (q_20 T))] at hW
  have hW : q_W E (va_up f (h + 1) (some (aI E 20 (upd g (T % 20) x)))) n H := hW
  refine lv_aload_n hx hb dX4_add_30 rfl (lv_at hl 1 rfl) ?_
  refine lv_dup hx hb dX4_add_31 rfl ?_
  refine q_get hx hb hts hown hA hW iX4 (q_ne (by omega) h0) rfl 1 (by decide) (hts (.fieldLink RX4 13 "HighRecipes$History" "total" "I") (by decide +kernel)) (fun _ h9 => h9) (v := .int (nI T)) rfl dX4_add_32 ?_
  refine lv_iconst (v := 1) hx hb dX4_add_35 (by decide) ?_
  refine lv_iadd hx hb dX4_add_36 ?_
  refine q_put hx hb hts hown hA hW hS iX4 tyX4 tyX4_ok nmX4 (q_ne (by omega) h0) rfl 1 (by decide) (hts (.fieldLink RX4 13 "HighRecipes$History" "total" "I") (by decide +kernel)) (fun _ h9 => h9) rfl rfl rfl (Nat.le_of_ble_eq_true rfl) dX4_add_37 (fun H locs hW hS => ?_)
  have hW : q_W E (va_up (va_up f (h + 1) (some (aI E 20 (upd g (T % 20) x)))) h (some (cHis h ((nI T) + 1)))) n H := hW
  exact q_vret hx hb hr hlocks hW hS ⟨rfl, rfl⟩ (Nat.le_of_ble_eq_true rfl) (Nat.le_of_ble_eq_true rfl) dX4_add_40

set_option maxHeartbeats 4000000 in
set_option maxRecDepth 100000 in
theorem kX4_recall (l : Launch) (E : q_E) (f : q_H) (n : Nat) (h T J : Nat) (g : Nat → Int32) (x : Int32) (h0 : f h = some (cHis h (nI T))) (h1 : f (h + 1) = some (aI E 20 g)) (hJ : nI T - 1 - x = nI J) (hJ2 : J < 2 ^ 31) : Met l yX4_recall wsX4_recall ({ frames := 1, cells := 0, slots := 0, locals := 22 }) (q_P E [.ref h, .int x] f n) (q_Qi E (fun r f1 n1 => g (J % 20) = r ∧ f = f1 ∧ n = n1)) 0 0 (q_ge E) := by
  refine Met.ofW (cc := cX4_recall) (maxL := 3) (ret := (some .int)) (by decide) rfl ?_
  intro p e s m args below meth c s₁ B hml hv
  obtain ⟨rfl, hA, hW⟩ := hv
  have hx := B.exec
  have hb := B.bytes
  have hr := B.returns
  have hts := atoms_spec (ws := wsX4_recall) B.pre
  have hown : s.vm.findClass RX4 = some m.cls := findClass_of_methodNamed B.named
  have hlocks := B.notSynchronized
  have hS : va_S (q_ge E) s.heap s.heap [] := va_S.rf
  have iX4 : ∀ w ∈ wsX40, w ∈ wsX4_recall := by decide +kernel
  have hl := lv_entry ([.ref h, .int x]) (n := 3) (Nat.le_of_ble_eq_true rfl)
  rw [lg_entry_eq]
  generalize (lg_sl ([.ref h, .int x]) ++ List.replicate (3 - (lg_sl ([.ref h, .int x])).length) Slot.unset).toArray = ls at hl ⊢
  have hl : lv_has ls 3 [(0, .ref h), (1, .int x)] := hl
  refine lv_aload_n hx hb dX4_recall_0 rfl (lv_at hl 0 rfl) ?_
  refine q_get hx hb hts hown hA hW iX4 h0 rfl 1 (by decide) (hts (.fieldLink RX4 13 "HighRecipes$History" "total" "I") (by decide +kernel)) (fun _ h9 => h9) (v := .int (nI T)) rfl dX4_recall_1 ?_
  refine lv_iconst (v := 1) hx hb dX4_recall_4 (by decide) ?_
  refine lv_isub hx hb dX4_recall_5 ?_
  refine lv_iload_n hx hb dX4_recall_6 rfl (lv_at hl 1 rfl) ?_
  refine lv_isub hx hb dX4_recall_7 ?_
  rw [hJ]
  refine lv_bipush (v := 20) hx hb dX4_recall_8 (by decide) ?_
  refine q_ci (va_runS (As := [.int (nI J), .int 20]) (rest := []) ⟨hx, hb, hml, hown, hts⟩ (kJ9_floorMod_7cf53 l E f n J hJ2) (va_cwS 2 hts gX4_recall_J9_floorMod_7cf53 rfl rfl rfl (by decide +kernel) ⟨(Nat.le_of_ble_eq_true rfl), (Nat.le_of_ble_eq_true rfl)⟩) (q_pS hA hW hS) rfl rfl hl.1 rfl (lv_room (Nat.le_of_ble_eq_true rfl)) dX4_recall_10 ⟨Nat.le_of_ble_eq_true rfl, Nat.le_of_ble_eq_true rfl⟩) hS (fun r_10 f_10 n_10 H locs hp hW hS => ?_)
  obtain ⟨rfl, rfl, rfl⟩ := hp
  have hW : q_W E (f) n H := hW
  refine lv_istore_n (lv' := [(2, .int (nI (J % 20))), (0, .ref h), (1, .int x)]) hx hb dX4_recall_13 rfl hl (by decide) rfl (fun ls hl => ?_)
  refine lv_iload_n hx hb dX4_recall_14 rfl (lv_at hl 0 rfl) ?_
  refine lv_if_lt (tgt := 36) hx hb dX4_recall_15 (by decide) (fun c_15 => absurd c_15 (nI_pos (q_20 J))) (fun c_15 => ?_)
  refine lv_iload_n hx hb dX4_recall_18 rfl (lv_at hl 0 rfl) ?_
  refine lv_aload_n hx hb dX4_recall_19 rfl (lv_at hl 1 rfl) ?_
  refine q_get hx hb hts hown hA hW iX4 h0 rfl 0 (by decide) (hts (.fieldLink RX4 9 "HighRecipes$History" "latest" "[I") (by decide +kernel)) (fun _ h9 => h9) (v := .ref (h + 1)) rfl dX4_recall_20 ?_
  refine q_alen hx hb hA hW 0 rfl h1 (v := Int32.ofNat 20) rfl dX4_recall_23 ?_
  refine lv_icmp_ge (tgt := 36) hx hb dX4_recall_24 (by decide) (fun c_24 => absurd c_24 (nI_ge (Nat.mod_lt J (by decide : 20 > 0)) (by decide))) (fun c_24 => ?_)
  refine lv_aload_n hx hb dX4_recall_27 rfl (lv_at hl 1 rfl) ?_
  refine q_get hx hb hts hown hA hW iX4 h0 rfl 0 (by decide) (hts (.fieldLink RX4 9 "HighRecipes$History" "latest" "[I") (by decide +kernel)) (fun _ h9 => h9) (v := .ref (h + 1)) rfl dX4_recall_28 ?_
  refine lv_iload_n hx hb dX4_recall_31 rfl (lv_at hl 0 rfl) ?_
  refine q_iald hx hb hA hW h1 (vp_in_nI (Nat.mod_lt _ (by decide)) (by decide)) dX4_recall_32 ?_
  rw [nI_clamp (q_20 J)]
  refine lv_goto (tgt := 37) hx hb dX4_recall_33 (by decide) ?_
  exact q_iret hx hb hr hlocks hW hS ⟨rfl, rfl, rfl⟩ (Nat.le_of_ble_eq_true rfl) (Nat.le_of_ble_eq_true rfl) dX4_recall_37

theorem q_8 {i pn : Nat} (h : i < pn) (h2 : pn ≤ 8) : i < 8 := Nat.lt_of_lt_of_le h h2
theorem q_31 {i : Nat} (h : i ≤ 8) : i < 2 ^ 31 := by omega
theorem pA_at {k i : Nat} (hi : i < 8) : pA k (nI i).toNatClampNeg = some (k + 12 + i) := by rw [nI_clamp (by omega)]; exact if_pos hi

set_option maxHeartbeats 4000000 in
set_option maxRecDepth 100000 in
theorem kX6_boilingHeat (l : Launch) (E : q_E) (f : q_H) (n : Nat) (k bk : Nat) (hd v : Nat → Int32)  (hk : KIT E f k bk hd v) : Met l yX6_boilingHeat wsX6_boilingHeat ({ frames := 1, cells := 0, slots := 0, locals := 20 }) (q_P E [.ref k] f n) (q_Qi E (fun r f1 n1 => z_boil (v 0) = r ∧ f = f1 ∧ n = n1)) 0 0 (q_ge E) := by
  refine Met.ofW (cc := cX6_boilingHeat) (maxL := 1) (ret := (some .int)) (by decide) rfl ?_
  intro p e s m args below meth c s₁ B hml hv
  obtain ⟨rfl, hA, hW⟩ := hv
  have hx := B.exec
  have hb := B.bytes
  have hr := B.returns
  have hts := atoms_spec (ws := wsX6_boilingHeat) B.pre
  have hown : s.vm.findClass RX6 = some m.cls := findClass_of_methodNamed B.named
  have hlocks := B.notSynchronized
  have hS : va_S (q_ge E) s.heap s.heap [] := va_S.rf
  have iX6 : ∀ w ∈ wsX60, w ∈ wsX6_boilingHeat := by decide +kernel
  have hl := lv_entry ([.ref k]) (n := 1) (Nat.le_of_ble_eq_true rfl)
  rw [lg_entry_eq]
  generalize (lg_sl ([.ref k]) ++ List.replicate (1 - (lg_sl ([.ref k])).length) Slot.unset).toArray = ls at hl ⊢
  have hl : lv_has ls 1 [(0, .ref k)] := hl
  rw [hk.eq] at hW
  refine lv_aload_n hx hb dX6_boilingHeat_0 rfl (lv_at hl 0 rfl) ?_
  refine q_get hx hb hts hown hA hW iX6 kO_0 rfl 5 (by decide) (hts (.fieldLink RX6 46 "HighRecipes$Kitchen" "altitude" "I") (by decide +kernel)) (fun _ h9 => h9) (v := .int (v 0)) rfl dX6_boilingHeat_1 ?_
  refine q_ci (va_runS (As := [.int (v 0)]) (rest := []) ⟨hx, hb, hml, hown, hts⟩ (kX6_boilingHeatAt l E (kO E f k bk hd v) n (v 0)) (va_cwS 1 hts gX6_boilingHeat_X6_boilingHeatAt rfl rfl rfl (by decide +kernel) ⟨(Nat.le_of_ble_eq_true rfl), (Nat.le_of_ble_eq_true rfl)⟩) (q_pS hA hW hS) rfl rfl hl.1 rfl (lv_room (Nat.le_of_ble_eq_true rfl)) dX6_boilingHeat_4 ⟨Nat.le_of_ble_eq_true rfl, Nat.le_of_ble_eq_true rfl⟩) hS (fun r_4 f_4 n_4 H locs hp hW hS => ?_)
  obtain ⟨rfl, rfl, rfl⟩ := hp
  have hW : q_W E (kO E f k bk hd v) n H := hW
  exact q_iret hx hb hr hlocks hW hS ⟨rfl, hk.eq, rfl⟩ (Nat.le_of_ble_eq_true rfl) (Nat.le_of_ble_eq_true rfl) dX6_boilingHeat_7

set_option maxHeartbeats 4000000 in
set_option maxRecDepth 100000 in
theorem kX6_panAt (l : Launch) (E : q_E) (f : q_H) (n : Nat) (k bk : Nat) (hd v : Nat → Int32) (pn : Nat) (rc ac : Int32) (i : Nat) (hB : f bk = some (cBook bk (nI pn) rc ac)) (hk : KIT E f k bk hd v) (hbo : kOut k bk) (hpn : pn ≤ 8) (hi : i < pn) : Met l yX6_panAt wsX6_panAt ({ frames := 0, cells := 0, slots := 0, locals := 0 }) (q_P E [.ref k, .int (nI i)] f n) (q_Qq E (fun r f1 n1 => some (k + 12 + i) = r ∧ f = f1 ∧ n = n1)) 0 0 (q_ge E) := by
  refine Met.ofW (cc := cX6_panAt) (maxL := 2) (ret := (some (.object "HighRecipes$Pan"))) (by decide) rfl ?_
  intro p e s m args below meth c s₁ B hml hv
  obtain ⟨rfl, hA, hW⟩ := hv
  have hx := B.exec
  have hb := B.bytes
  have hr := B.returns
  have hts := atoms_spec (ws := wsX6_panAt) B.pre
  have hown : s.vm.findClass RX6 = some m.cls := findClass_of_methodNamed B.named
  have hlocks := B.notSynchronized
  have hS : va_S (q_ge E) s.heap s.heap [] := va_S.rf
  have iX2 : ∀ w ∈ wsX20, w ∈ wsX6_panAt := by decide +kernel
  have iX6 : ∀ w ∈ wsX60, w ∈ wsX6_panAt := by decide +kernel
  have hl := lv_entry ([.ref k, .int (nI i)]) (n := 2) (Nat.le_of_ble_eq_true rfl)
  rw [lg_entry_eq]
  generalize (lg_sl ([.ref k, .int (nI i)]) ++ List.replicate (2 - (lg_sl ([.ref k, .int (nI i)])).length) Slot.unset).toArray = ls at hl ⊢
  have hl : lv_has ls 2 [(0, .ref k), (1, .int (nI i))] := hl
  rw [hk.eq] at hW
  refine lv_iload_n hx hb dX6_panAt_0 rfl (lv_at hl 1 rfl) ?_
  refine lv_if_lt (tgt := 33) hx hb dX6_panAt_1 (by decide) (fun c_1 => absurd c_1 (nI_pos (by omega))) (fun c_1 => ?_)
  refine lv_iload_n hx hb dX6_panAt_4 rfl (lv_at hl 1 rfl) ?_
  refine lv_aload_n hx hb dX6_panAt_5 rfl (lv_at hl 0 rfl) ?_
  refine q_get hx hb hts hown hA hW iX6 kO_0 rfl 4 (by decide) (hts (.fieldLink RX6 34 "HighRecipes$Kitchen" "book" "LHighRecipes$Book;") (by decide +kernel)) (fun _ h9 => h9) (v := .ref bk) rfl dX6_panAt_6 ?_
  refine q_getN hx hb hts hown hA hW iX2 ((kO_out hbo).trans hB) rfl 4 (by decide) (va_Nw.use rfl (hA.2.2.2.1 ("HighRecipes$Kitchen", 55, "HighRecipes$Book", "panCount", "I", "HighRecipes") (by decide +kernel))) (fun _ h9 => h9) (v := .int (nI pn)) rfl dX6_panAt_9 ?_
  refine lv_icmp_ge (tgt := 33) hx hb dX6_panAt_12 (by decide) (fun c_12 => absurd c_12 (nI_ge hi (by omega))) (fun c_12 => ?_)
  refine lv_iload_n hx hb dX6_panAt_15 rfl (lv_at hl 1 rfl) ?_
  refine lv_aload_n hx hb dX6_panAt_16 rfl (lv_at hl 0 rfl) ?_
  refine q_get hx hb hts hown hA hW iX6 kO_0 rfl 0 (by decide) (hts (.fieldLink RX6 13 "HighRecipes$Kitchen" "pans" "[LHighRecipes$Pan;") (by decide +kernel)) (fun _ h9 => h9) (v := .ref (k + 1)) rfl dX6_panAt_17 ?_
  refine q_alen hx hb hA hW 4 rfl kO_1 (v := Int32.ofNat 8) rfl dX6_panAt_20 ?_
  refine lv_icmp_ge (tgt := 33) hx hb dX6_panAt_21 (by decide) (fun c_21 => absurd c_21 (nI_ge (q_8 hi hpn) (by decide))) (fun c_21 => ?_)
  refine lv_aload_n hx hb dX6_panAt_24 rfl (lv_at hl 0 rfl) ?_
  refine q_get hx hb hts hown hA hW iX6 kO_0 rfl 0 (by decide) (hts (.fieldLink RX6 13 "HighRecipes$Kitchen" "pans" "[LHighRecipes$Pan;") (by decide +kernel)) (fun _ h9 => h9) (v := .ref (k + 1)) rfl dX6_panAt_25 ?_
  refine lv_iload_n hx hb dX6_panAt_28 rfl (lv_at hl 1 rfl) ?_
  refine q_aald hx hb hA hW 4 rfl kO_1 (vp_in_nI (q_8 hi hpn) (by decide)) dX6_panAt_29 ?_
  rw [pA_at (q_8 hi hpn)]
  refine lv_goto (tgt := 34) hx hb dX6_panAt_30 (by decide) ?_
  exact q_aret (v := some (k + 12 + i)) hx hb hr (Or.inl ⟨_, rfl⟩) hlocks hW hS ⟨rfl, hk.eq, rfl⟩ (Nat.le_of_ble_eq_true rfl) (Nat.le_of_ble_eq_true rfl) dX6_panAt_34

set_option maxHeartbeats 4000000 in
set_option maxRecDepth 100000 in
theorem kX6_panAtN (l : Launch) (E : q_E) (f : q_H) (n : Nat) (k bk : Nat) (hd v : Nat → Int32) (pn : Nat) (rc ac : Int32) (x : Int32) (hB : f bk = some (cBook bk (nI pn) rc ac)) (hk : KIT E f k bk hd v) (hbo : kOut k bk) (hpn : pn ≤ 8) (hi : x < 0 ∨ nI pn ≤ x) : Met l yX6_panAt wsX6_panAt ({ frames := 0, cells := 0, slots := 0, locals := 0 }) (q_P E [.ref k, .int x] f n) (q_Qq E (fun r f1 n1 => none = r ∧ f = f1 ∧ n = n1)) 0 0 (q_ge E) := by
  refine Met.ofW (cc := cX6_panAt) (maxL := 2) (ret := (some (.object "HighRecipes$Pan"))) (by decide) rfl ?_
  intro p e s m args below meth c s₁ B hml hv
  obtain ⟨rfl, hA, hW⟩ := hv
  have hx := B.exec
  have hb := B.bytes
  have hr := B.returns
  have hts := atoms_spec (ws := wsX6_panAt) B.pre
  have hown : s.vm.findClass RX6 = some m.cls := findClass_of_methodNamed B.named
  have hlocks := B.notSynchronized
  have hS : va_S (q_ge E) s.heap s.heap [] := va_S.rf
  have iX2 : ∀ w ∈ wsX20, w ∈ wsX6_panAt := by decide +kernel
  have iX6 : ∀ w ∈ wsX60, w ∈ wsX6_panAt := by decide +kernel
  have hl := lv_entry ([.ref k, .int x]) (n := 2) (Nat.le_of_ble_eq_true rfl)
  rw [lg_entry_eq]
  generalize (lg_sl ([.ref k, .int x]) ++ List.replicate (2 - (lg_sl ([.ref k, .int x])).length) Slot.unset).toArray = ls at hl ⊢
  have hl : lv_has ls 2 [(0, .ref k), (1, .int x)] := hl
  rw [hk.eq] at hW
  refine lv_iload_n hx hb dX6_panAt_0 rfl (lv_at hl 1 rfl) ?_
  refine lv_if_lt (tgt := 33) hx hb dX6_panAt_1 (by decide) (fun c_1 => ?_) (fun c_1 => ?_)
  · refine lv_null hx hb dX6_panAt_33 ?_
    exact q_aret (v := none) hx hb hr (Or.inl ⟨_, rfl⟩) hlocks hW hS ⟨rfl, hk.eq, rfl⟩ (Nat.le_of_ble_eq_true rfl) (Nat.le_of_ble_eq_true rfl) dX6_panAt_34
  · refine lv_iload_n hx hb dX6_panAt_4 rfl (lv_at hl 1 rfl) ?_
    refine lv_aload_n hx hb dX6_panAt_5 rfl (lv_at hl 0 rfl) ?_
    refine q_get hx hb hts hown hA hW iX6 kO_0 rfl 4 (by decide) (hts (.fieldLink RX6 34 "HighRecipes$Kitchen" "book" "LHighRecipes$Book;") (by decide +kernel)) (fun _ h9 => h9) (v := .ref bk) rfl dX6_panAt_6 ?_
    refine q_getN hx hb hts hown hA hW iX2 ((kO_out hbo).trans hB) rfl 4 (by decide) (va_Nw.use rfl (hA.2.2.2.1 ("HighRecipes$Kitchen", 55, "HighRecipes$Book", "panCount", "I", "HighRecipes") (by decide +kernel))) (fun _ h9 => h9) (v := .int (nI pn)) rfl dX6_panAt_9 ?_
    refine lv_icmp_ge (tgt := 33) hx hb dX6_panAt_12 (by decide) (fun c_12 => ?_) (fun c_12 => absurd (hi.resolve_left c_1) c_12)
    refine lv_null hx hb dX6_panAt_33 ?_
    exact q_aret (v := none) hx hb hr (Or.inl ⟨_, rfl⟩) hlocks hW hS ⟨rfl, hk.eq, rfl⟩ (Nat.le_of_ble_eq_true rfl) (Nat.le_of_ble_eq_true rfl) dX6_panAt_34

/-- minutes go by for the pans below j, but for one -/
def z_pass (v : Nat → Int32) (mi : Int32) (but j : Nat) : Nat → Int32 := fun q => if q = 3 then v 3 + mi else if 54 ≤ q ∧ q % 4 = 2 ∧ (q - 54) / 4 < j ∧ (q - 54) / 4 ≠ but then q_max 20 (v q - mi / 2) else v q
theorem z_pass_0 {v : Nat → Int32} {mi : Int32} {but : Nat} : upd v 3 (v 3 + mi) = z_pass v mi but 0 := by
  funext q
  unfold z_pass upd
  by_cases h : q = 3
  · rw [if_pos h, if_pos h]
  · rw [if_neg h, if_neg h, if_neg (by omega)]
theorem z_pass_s {v : Nat → Int32} {mi : Int32} {but j : Nat} (h : j ≠ but) : z_pan (z_pass v mi but j) j (z_pass v mi but j (52 + 4 * j)) (z_pass v mi but j (53 + 4 * j)) (q_max 20 (z_pass v mi but j (54 + 4 * j) - mi / 2)) (z_pass v mi but j (55 + 4 * j)) = z_pass v mi but (j + 1) := by
  funext q
  unfold z_pan
  split
  · next e => subst e; unfold z_pass; rw [if_neg (by omega), if_neg (by omega), if_neg (by omega), if_neg (by omega)]
  · split
    · next e => subst e; unfold z_pass; rw [if_neg (by omega), if_neg (by omega), if_neg (by omega), if_neg (by omega)]
    · split
      · next e => subst e; unfold z_pass; rw [if_neg (by omega), if_neg (by omega), if_neg (by omega), if_pos (by omega)]
      · split
        · next e => subst e; unfold z_pass; rw [if_neg (by omega), if_neg (by omega), if_neg (by omega), if_neg (by omega)]
        · unfold z_pass
          by_cases h3 : q = 3
          · rw [if_pos h3, if_pos h3]
          · rw [if_neg h3, if_neg h3]
            by_cases h4 : 54 ≤ q ∧ q % 4 = 2 ∧ (q - 54) / 4 < j ∧ (q - 54) / 4 ≠ but
            · rw [if_pos h4, if_pos (by omega)]
            · rw [if_neg h4, if_neg (by omega)]
theorem z_pass_b {v : Nat → Int32} {mi : Int32} {but j : Nat} (h : j = but) : z_pass v mi but j = z_pass v mi but (j + 1) := by
  funext q
  unfold z_pass
  by_cases h3 : q = 3
  · rw [if_pos h3, if_pos h3]
  · rw [if_neg h3, if_neg h3]
    by_cases h4 : 54 ≤ q ∧ q % 4 = 2 ∧ (q - 54) / 4 < j ∧ (q - 54) / 4 ≠ but
    · rw [if_pos h4, if_pos (by omega)]
    · rw [if_neg h4, if_neg (by omega)]

set_option maxHeartbeats 4000000 in
set_option maxRecDepth 100000 in
theorem kX6_pass (l : Launch) (E : q_E) (f : q_H) (n : Nat) (k bk : Nat) (hd v : Nat → Int32) (pn : Nat) (rc ac : Int32) (mi : Int32) (but : Nat) (hB : f bk = some (cBook bk (nI pn) rc ac)) (hk : KIT E f k bk hd v) (hbo : kOut k bk) (hpn : pn ≤ 8) : Met l yX6_pass wsX6_pass ({ frames := 2, cells := 0, slots := 0, locals := 42 }) (q_P E [.ref k, .int mi, .ref (k + 12 + but)] f n) (q_Qv E (fun f1 n1 => kO E f k bk hd (z_pass v mi but pn) = f1 ∧ n = n1)) 0 0 (q_ge E) := by
  refine Met.ofW (cc := cX6_pass) (maxL := 5) (ret := none) (by decide) rfl ?_
  intro p e s m args below meth c s₁ B hml hv
  obtain ⟨rfl, hA, hW⟩ := hv
  have hx := B.exec
  have hb := B.bytes
  have hr := B.returns
  have hts := atoms_spec (ws := wsX6_pass) B.pre
  have hown : s.vm.findClass RX6 = some m.cls := findClass_of_methodNamed B.named
  have hlocks := B.notSynchronized
  have hS : va_S (q_ge E) s.heap s.heap [] := va_S.rf
  have iX2 : ∀ w ∈ wsX20, w ∈ wsX6_pass := by decide +kernel
  have iX6 : ∀ w ∈ wsX60, w ∈ wsX6_pass := by decide +kernel
  have hl := lv_entry ([.ref k, .int mi, .ref (k + 12 + but)]) (n := 5) (Nat.le_of_ble_eq_true rfl)
  rw [lg_entry_eq]
  generalize (lg_sl ([.ref k, .int mi, .ref (k + 12 + but)]) ++ List.replicate (5 - (lg_sl ([.ref k, .int mi, .ref (k + 12 + but)])).length) Slot.unset).toArray = ls at hl ⊢
  have hl : lv_has ls 5 [(0, .ref k), (1, .int mi), (2, .ref (k + 12 + but))] := hl
  rw [hk.eq] at hW
  refine lv_aload_n hx hb dX6_pass_0 rfl (lv_at hl 0 rfl) ?_
  refine lv_dup hx hb dX6_pass_1 rfl ?_
  refine q_get hx hb hts hown hA hW iX6 kO_0 rfl 8 (by decide) (hts (.fieldLink RX6 49 "HighRecipes$Kitchen" "minute" "I") (by decide +kernel)) (fun _ h9 => h9) (v := .int (v 3)) rfl dX6_pass_2 ?_
  refine lv_iload_n hx hb dX6_pass_5 rfl (lv_at hl 1 rfl) ?_
  refine lv_iadd hx hb dX6_pass_6 ?_
  refine q_put hx hb hts hown hA hW hS iX6 tyX6 tyX6_ok nmX6 kO_0 rfl 8 (by decide) (hts (.fieldLink RX6 49 "HighRecipes$Kitchen" "minute" "I") (by decide +kernel)) (fun _ h9 => h9) rfl rfl rfl (Nat.le_of_ble_eq_true rfl) dX6_pass_7 (fun H locs hW hS => ?_)
  have hW : q_W E (va_up (kO E f k bk hd v) k (some (cKit k bk (upd v 3 ((v 3) + mi))))) n H := hW
  rw [kO_s0 (fun j hj => z_un (by omega))] at hW
  refine lv_iconst (v := 0) hx hb dX6_pass_10 (by decide) ?_
  refine lv_istore_n (lv' := [(3, .int 0), (0, .ref k), (1, .int mi), (2, .ref (k + 12 + but))]) hx hb dX6_pass_11 rfl hl (by decide) rfl (fun ls hl => ?_)
  have K12 : ∀ (fu : Nat) (j : Nat) (hj : j ≤ pn) (hm : pn - j < fu) (H : Heap) (locs : List Loc) (ls : Array Slot), q_W E (kO E f k bk hd (z_pass v mi but j)) n H → va_S (q_ge E) s.heap H locs → lv_has ls 5 [(0, .ref k), (1, .int mi), (2, .ref (k + 12 + but)), (3, .int (nI j))] → W p l e (headSpec wsX6_pass ({ frames := 2, cells := 0, slots := 0, locals := 42 })).room s m ([.ref k, .int mi, .ref (k + 12 + but)] : List Value).toArray below meth c H locs 0 0 (MQ below (q_Qv E (fun f1 n1 => kO E f k bk hd (z_pass v mi but pn) = f1 ∧ n = n1)) ([.ref k, .int mi, .ref (k + 12 + but)] : List Value).toArray s 0 0 (q_ge E)) (F0 m 12 ls []) := by
    intro fu
    induction fu with
    | zero =>
      intro j hj hm
      exact absurd hm (Nat.not_lt_zero _)
    | succ fu ih =>
      intro j hj hm H locs ls hW hS hl
      refine lv_iload_n hx hb dX6_pass_12 rfl (lv_at hl 3 rfl) ?_
      refine lv_aload_n hx hb dX6_pass_13 rfl (lv_at hl 0 rfl) ?_
      refine q_get hx hb hts hown hA hW iX6 kO_0 rfl 4 (by decide) (hts (.fieldLink RX6 34 "HighRecipes$Kitchen" "book" "LHighRecipes$Book;") (by decide +kernel)) (fun _ h9 => h9) (v := .ref bk) rfl dX6_pass_14 ?_
      refine q_getN hx hb hts hown hA hW iX2 ((kO_out hbo).trans hB) rfl 4 (by decide) (va_Nw.use rfl (hA.2.2.2.1 ("HighRecipes$Kitchen", 55, "HighRecipes$Book", "panCount", "I", "HighRecipes") (by decide +kernel))) (fun _ h9 => h9) (v := .int (nI pn)) rfl dX6_pass_17 ?_
      refine lv_icmp_ge (tgt := 53) hx hb dX6_pass_20 (by decide) (fun c_20 => ?_) (fun c_20 => ?_)
      · have ej : j = pn := by rcases Nat.lt_or_ge j pn with h9 | h9; exact absurd c_20 (nI_ge h9 (by omega)); omega
        subst ej
        exact q_vret hx hb hr hlocks hW hS ⟨rfl, rfl⟩ (Nat.le_of_ble_eq_true rfl) (Nat.le_of_ble_eq_true rfl) dX6_pass_53
      · have hlt : j < pn := by rcases Nat.lt_or_ge j pn with h9 | h9; exact h9; exact absurd (nI_le h9 (by omega)) c_20
        refine lv_aload_n hx hb dX6_pass_23 rfl (lv_at hl 0 rfl) ?_
        refine lv_iload_n hx hb dX6_pass_24 rfl (lv_at hl 3 rfl) ?_
        refine q_cq (va_runV (As := [.int (nI j)]) (rest := []) ⟨hx, hb, hml, hown, hts⟩ (kX6_panAt l E (kO E f k bk hd (z_pass v mi but j)) n k bk hd (z_pass v mi but j) pn rc ac j ((kO_out hbo).trans hB) kO_K (by assumption) (by assumption) hlt) (cwV 1 hts gX6_pass_X6_panAt rfl rfl rfl (by decide +kernel) ⟨(Nat.le_of_ble_eq_true rfl), (Nat.le_of_ble_eq_true rfl)⟩) (q_pV hA hW hS (ci := 6) rfl kO_0) rfl rfl hl.1 rfl (lv_room (Nat.le_of_ble_eq_true rfl)) dX6_pass_25 ⟨Nat.le_of_ble_eq_true rfl, Nat.le_of_ble_eq_true rfl⟩) hS (fun r_25 f_25 n_25 H locs hp hW hS => ?_)
        obtain ⟨rfl, rfl, rfl⟩ := hp
        have hW : q_W E (kO E f k bk hd (z_pass v mi but j)) n H := hW
        refine lv_astore (lv' := [(4, .ref (k + 12 + j)), (0, .ref k), (1, .int mi), (2, .ref (k + 12 + but)), (3, .int (nI j))]) hx hb dX6_pass_28 hl (by decide) rfl (fun ls hl => ?_)
        refine lv_aload hx hb dX6_pass_30 (lv_at hl 0 rfl) ?_
        refine lv_ifnull hx hb dX6_pass_32 ?_
        refine lv_aload hx hb dX6_pass_35 (lv_at hl 0 rfl) ?_
        refine lv_aload_n hx hb dX6_pass_37 rfl (lv_at hl 3 rfl) ?_
        refine lv_acmp_eq (rx := (some (k + 12 + j))) (ry := (some (k + 12 + but))) (tgt := 47) hx hb dX6_pass_38 (by decide) (fun c_38 => ?_) (fun c_38 => ?_)
        · have ejb : j = but := by injection c_38 with e9; omega
          refine lv_iinc (v := nI (j + 1)) (lv' := [(3, .int (nI (j + 1))), (4, .ref (k + 12 + j)), (0, .ref k), (1, .int mi), (2, .ref (k + 12 + but))]) hx hb dX6_pass_47 hl (k := 4) rfl (nI_1 j) (by decide) rfl (fun ls hl => ?_)
          refine lv_goto (tgt := 12) hx hb dX6_pass_50 (by decide) ?_
          rw [z_pass_b ejb] at hW
          exact ih (j + 1) hlt (by omega) _ _ _ hW hS (lv_sub hl [2, 3, 4, 0] rfl)
        · have ejb : j ≠ but := by intro e9; apply c_38; rw [e9]
          refine lv_aload hx hb dX6_pass_41 (lv_at hl 0 rfl) ?_
          refine lv_iload_n hx hb dX6_pass_43 rfl (lv_at hl 2 rfl) ?_
          refine q_cv (va_runV (As := [.int mi]) (rest := []) ⟨hx, hb, hml, hown, hts⟩ (kX7_cool l E (kO E f k bk hd (z_pass v mi but j)) n (k + 12 + j) (hd j) ((z_pass v mi but j) (52 + 4 * j)) ((z_pass v mi but j) (53 + 4 * j)) ((z_pass v mi but j) (54 + 4 * j)) ((z_pass v mi but j) (55 + 4 * j)) mi (kO_p (by omega))) (cwV 1 hts gX6_pass_X7_cool rfl rfl rfl (by decide +kernel) ⟨(Nat.le_of_ble_eq_true rfl), (Nat.le_of_ble_eq_true rfl)⟩) (q_pV hA hW hS (ci := 7) rfl (kO_p (by omega))) rfl rfl hl.1 rfl (lv_room (Nat.le_of_ble_eq_true rfl)) dX6_pass_44 ⟨Nat.le_of_ble_eq_true rfl, Nat.le_of_ble_eq_true rfl⟩) hS (fun f_44 n_44 H locs hp hW hS => ?_)
          obtain ⟨rfl, rfl⟩ := hp
          have hW : q_W E (va_up (kO E f k bk hd (z_pass v mi but j)) (k + 12 + j) (some (cPan (hd j) ((z_pass v mi but j) (52 + 4 * j)) ((z_pass v mi but j) (53 + 4 * j)) (q_max 20 (((z_pass v mi but j) (54 + 4 * j)) - mi / 2)) ((z_pass v mi but j) (55 + 4 * j))))) n H := hW
          rw [kO_sq (by omega)] at hW
          have hW : q_W E (kO E f k bk hd (z_pan (z_pass v mi but j) j ((z_pass v mi but j) (52 + 4 * j)) ((z_pass v mi but j) (53 + 4 * j)) (q_max 20 (((z_pass v mi but j) (54 + 4 * j)) - mi / 2)) ((z_pass v mi but j) (55 + 4 * j)))) n H := hW
          refine lv_iinc (v := nI (j + 1)) (lv' := [(3, .int (nI (j + 1))), (4, .ref (k + 12 + j)), (0, .ref k), (1, .int mi), (2, .ref (k + 12 + but))]) hx hb dX6_pass_47 hl (k := 4) rfl (nI_1 j) (by decide) rfl (fun ls hl => ?_)
          refine lv_goto (tgt := 12) hx hb dX6_pass_50 (by decide) ?_
          rw [z_pass_s ejb] at hW
          exact ih (j + 1) hlt (by omega) _ _ _ hW hS (lv_sub hl [2, 3, 4, 0] rfl)
  rw [z_pass_0 (but := but)] at hW
  exact K12 _ 0 (Nat.zero_le _) (Nat.lt_succ_self _) _ _ _ hW hS (lv_sub hl [1, 2, 3, 0] rfl)

set_option maxHeartbeats 4000000 in
set_option maxRecDepth 100000 in
theorem kX6_passN (l : Launch) (E : q_E) (f : q_H) (n : Nat) (k bk : Nat) (hd v : Nat → Int32) (pn : Nat) (rc ac : Int32) (mi : Int32) (hB : f bk = some (cBook bk (nI pn) rc ac)) (hk : KIT E f k bk hd v) (hbo : kOut k bk) (hpn : pn ≤ 8) : Met l yX6_pass wsX6_pass ({ frames := 2, cells := 0, slots := 0, locals := 42 }) (q_P E [.ref k, .int mi, .null] f n) (q_Qv E (fun f1 n1 => kO E f k bk hd (z_pass v mi 8 pn) = f1 ∧ n = n1)) 0 0 (q_ge E) := by
  refine Met.ofW (cc := cX6_pass) (maxL := 5) (ret := none) (by decide) rfl ?_
  intro p e s m args below meth c s₁ B hml hv
  obtain ⟨rfl, hA, hW⟩ := hv
  have hx := B.exec
  have hb := B.bytes
  have hr := B.returns
  have hts := atoms_spec (ws := wsX6_pass) B.pre
  have hown : s.vm.findClass RX6 = some m.cls := findClass_of_methodNamed B.named
  have hlocks := B.notSynchronized
  have hS : va_S (q_ge E) s.heap s.heap [] := va_S.rf
  have iX2 : ∀ w ∈ wsX20, w ∈ wsX6_pass := by decide +kernel
  have iX6 : ∀ w ∈ wsX60, w ∈ wsX6_pass := by decide +kernel
  have hl := lv_entry ([.ref k, .int mi, .null]) (n := 5) (Nat.le_of_ble_eq_true rfl)
  rw [lg_entry_eq]
  generalize (lg_sl ([.ref k, .int mi, .null]) ++ List.replicate (5 - (lg_sl ([.ref k, .int mi, .null])).length) Slot.unset).toArray = ls at hl ⊢
  have hl : lv_has ls 5 [(0, .ref k), (1, .int mi), (2, .null)] := hl
  rw [hk.eq] at hW
  refine lv_aload_n hx hb dX6_pass_0 rfl (lv_at hl 0 rfl) ?_
  refine lv_dup hx hb dX6_pass_1 rfl ?_
  refine q_get hx hb hts hown hA hW iX6 kO_0 rfl 8 (by decide) (hts (.fieldLink RX6 49 "HighRecipes$Kitchen" "minute" "I") (by decide +kernel)) (fun _ h9 => h9) (v := .int (v 3)) rfl dX6_pass_2 ?_
  refine lv_iload_n hx hb dX6_pass_5 rfl (lv_at hl 1 rfl) ?_
  refine lv_iadd hx hb dX6_pass_6 ?_
  refine q_put hx hb hts hown hA hW hS iX6 tyX6 tyX6_ok nmX6 kO_0 rfl 8 (by decide) (hts (.fieldLink RX6 49 "HighRecipes$Kitchen" "minute" "I") (by decide +kernel)) (fun _ h9 => h9) rfl rfl rfl (Nat.le_of_ble_eq_true rfl) dX6_pass_7 (fun H locs hW hS => ?_)
  have hW : q_W E (va_up (kO E f k bk hd v) k (some (cKit k bk (upd v 3 ((v 3) + mi))))) n H := hW
  rw [kO_s0 (fun j hj => z_un (by omega))] at hW
  refine lv_iconst (v := 0) hx hb dX6_pass_10 (by decide) ?_
  refine lv_istore_n (lv' := [(3, .int 0), (0, .ref k), (1, .int mi), (2, .null)]) hx hb dX6_pass_11 rfl hl (by decide) rfl (fun ls hl => ?_)
  have K12 : ∀ (fu : Nat) (j : Nat) (hj : j ≤ pn) (hm : pn - j < fu) (H : Heap) (locs : List Loc) (ls : Array Slot), q_W E (kO E f k bk hd (z_pass v mi 8 j)) n H → va_S (q_ge E) s.heap H locs → lv_has ls 5 [(0, .ref k), (1, .int mi), (2, .null), (3, .int (nI j))] → W p l e (headSpec wsX6_pass ({ frames := 2, cells := 0, slots := 0, locals := 42 })).room s m ([.ref k, .int mi, .null] : List Value).toArray below meth c H locs 0 0 (MQ below (q_Qv E (fun f1 n1 => kO E f k bk hd (z_pass v mi 8 pn) = f1 ∧ n = n1)) ([.ref k, .int mi, .null] : List Value).toArray s 0 0 (q_ge E)) (F0 m 12 ls []) := by
    intro fu
    induction fu with
    | zero =>
      intro j hj hm
      exact absurd hm (Nat.not_lt_zero _)
    | succ fu ih =>
      intro j hj hm H locs ls hW hS hl
      refine lv_iload_n hx hb dX6_pass_12 rfl (lv_at hl 3 rfl) ?_
      refine lv_aload_n hx hb dX6_pass_13 rfl (lv_at hl 0 rfl) ?_
      refine q_get hx hb hts hown hA hW iX6 kO_0 rfl 4 (by decide) (hts (.fieldLink RX6 34 "HighRecipes$Kitchen" "book" "LHighRecipes$Book;") (by decide +kernel)) (fun _ h9 => h9) (v := .ref bk) rfl dX6_pass_14 ?_
      refine q_getN hx hb hts hown hA hW iX2 ((kO_out hbo).trans hB) rfl 4 (by decide) (va_Nw.use rfl (hA.2.2.2.1 ("HighRecipes$Kitchen", 55, "HighRecipes$Book", "panCount", "I", "HighRecipes") (by decide +kernel))) (fun _ h9 => h9) (v := .int (nI pn)) rfl dX6_pass_17 ?_
      refine lv_icmp_ge (tgt := 53) hx hb dX6_pass_20 (by decide) (fun c_20 => ?_) (fun c_20 => ?_)
      · have ej : j = pn := by rcases Nat.lt_or_ge j pn with h9 | h9; exact absurd c_20 (nI_ge h9 (by omega)); omega
        subst ej
        exact q_vret hx hb hr hlocks hW hS ⟨rfl, rfl⟩ (Nat.le_of_ble_eq_true rfl) (Nat.le_of_ble_eq_true rfl) dX6_pass_53
      · have hlt : j < pn := by rcases Nat.lt_or_ge j pn with h9 | h9; exact h9; exact absurd (nI_le h9 (by omega)) c_20
        refine lv_aload_n hx hb dX6_pass_23 rfl (lv_at hl 0 rfl) ?_
        refine lv_iload_n hx hb dX6_pass_24 rfl (lv_at hl 3 rfl) ?_
        refine q_cq (va_runV (As := [.int (nI j)]) (rest := []) ⟨hx, hb, hml, hown, hts⟩ (kX6_panAt l E (kO E f k bk hd (z_pass v mi 8 j)) n k bk hd (z_pass v mi 8 j) pn rc ac j ((kO_out hbo).trans hB) kO_K (by assumption) (by assumption) hlt) (cwV 1 hts gX6_pass_X6_panAt rfl rfl rfl (by decide +kernel) ⟨(Nat.le_of_ble_eq_true rfl), (Nat.le_of_ble_eq_true rfl)⟩) (q_pV hA hW hS (ci := 6) rfl kO_0) rfl rfl hl.1 rfl (lv_room (Nat.le_of_ble_eq_true rfl)) dX6_pass_25 ⟨Nat.le_of_ble_eq_true rfl, Nat.le_of_ble_eq_true rfl⟩) hS (fun r_25 f_25 n_25 H locs hp hW hS => ?_)
        obtain ⟨rfl, rfl, rfl⟩ := hp
        have hW : q_W E (kO E f k bk hd (z_pass v mi 8 j)) n H := hW
        refine lv_astore (lv' := [(4, .ref (k + 12 + j)), (0, .ref k), (1, .int mi), (2, .null), (3, .int (nI j))]) hx hb dX6_pass_28 hl (by decide) rfl (fun ls hl => ?_)
        refine lv_aload hx hb dX6_pass_30 (lv_at hl 0 rfl) ?_
        refine lv_ifnull hx hb dX6_pass_32 ?_
        refine lv_aload hx hb dX6_pass_35 (lv_at hl 0 rfl) ?_
        refine lv_aload_nN hx hb dX6_pass_37 rfl (lv_at hl 3 rfl) ?_
        refine lv_acmp_eq (rx := (some (k + 12 + j))) (ry := none) (tgt := 47) hx hb dX6_pass_38 (by decide) (fun c_38 => absurd c_38 (fun h9 => by cases h9)) (fun c_38 => ?_)
        have ejb : j ≠ 8 := by omega
        refine lv_aload hx hb dX6_pass_41 (lv_at hl 0 rfl) ?_
        refine lv_iload_n hx hb dX6_pass_43 rfl (lv_at hl 2 rfl) ?_
        refine q_cv (va_runV (As := [.int mi]) (rest := []) ⟨hx, hb, hml, hown, hts⟩ (kX7_cool l E (kO E f k bk hd (z_pass v mi 8 j)) n (k + 12 + j) (hd j) ((z_pass v mi 8 j) (52 + 4 * j)) ((z_pass v mi 8 j) (53 + 4 * j)) ((z_pass v mi 8 j) (54 + 4 * j)) ((z_pass v mi 8 j) (55 + 4 * j)) mi (kO_p (by omega))) (cwV 1 hts gX6_pass_X7_cool rfl rfl rfl (by decide +kernel) ⟨(Nat.le_of_ble_eq_true rfl), (Nat.le_of_ble_eq_true rfl)⟩) (q_pV hA hW hS (ci := 7) rfl (kO_p (by omega))) rfl rfl hl.1 rfl (lv_room (Nat.le_of_ble_eq_true rfl)) dX6_pass_44 ⟨Nat.le_of_ble_eq_true rfl, Nat.le_of_ble_eq_true rfl⟩) hS (fun f_44 n_44 H locs hp hW hS => ?_)
        obtain ⟨rfl, rfl⟩ := hp
        have hW : q_W E (va_up (kO E f k bk hd (z_pass v mi 8 j)) (k + 12 + j) (some (cPan (hd j) ((z_pass v mi 8 j) (52 + 4 * j)) ((z_pass v mi 8 j) (53 + 4 * j)) (q_max 20 (((z_pass v mi 8 j) (54 + 4 * j)) - mi / 2)) ((z_pass v mi 8 j) (55 + 4 * j))))) n H := hW
        rw [kO_sq (by omega)] at hW
        have hW : q_W E (kO E f k bk hd (z_pan (z_pass v mi 8 j) j ((z_pass v mi 8 j) (52 + 4 * j)) ((z_pass v mi 8 j) (53 + 4 * j)) (q_max 20 (((z_pass v mi 8 j) (54 + 4 * j)) - mi / 2)) ((z_pass v mi 8 j) (55 + 4 * j)))) n H := hW
        refine lv_iinc (v := nI (j + 1)) (lv' := [(3, .int (nI (j + 1))), (4, .ref (k + 12 + j)), (0, .ref k), (1, .int mi), (2, .null)]) hx hb dX6_pass_47 hl (k := 4) rfl (nI_1 j) (by decide) rfl (fun ls hl => ?_)
        refine lv_goto (tgt := 12) hx hb dX6_pass_50 (by decide) ?_
        rw [z_pass_s ejb] at hW
        exact ih (j + 1) hlt (by omega) _ _ _ hW hS (lv_sub hl [2, 3, 4, 0] rfl)
  rw [z_pass_0 (but := 8)] at hW
  exact K12 _ 0 (Nat.zero_le _) (Nat.lt_succ_self _) _ _ _ hW hS (lv_sub hl [1, 2, 3, 0] rfl)

theorem q_id {f : q_H} {a : Nat} {e : va_E} (h : f a = some e) : va_up f a (some e) = f := by
  funext q
  by_cases hq : q = a
  · subst hq; rw [va_up_self, h]
  · rw [va_up_ne _ _ hq]
abbrev z_add (h w m k : Int32) : Int32 := q_min k (h - w - m)
abbrev z_fh (w m t x : Int32) : Int32 := q_quot (t * (w + m) + 20 * x) (w + m + x)
def z_fc (b h w m t d k : Int32) : va_E := if 0 < z_add h w m k then (if b = 0 then cPan h (w + z_add h w m k) m (z_fh w m t (z_add h w m k)) d else cPan h w (m + z_add h w m k) (z_fh w m t (z_add h w m k)) (q_quot (d * m) (m + z_add h w m k))) else cPan h w m t d
def z_fr (h w m k : Int32) : Int32 := if 0 < z_add h w m k then z_add h w m k else 0

set_option maxHeartbeats 4000000 in
set_option maxRecDepth 100000 in
theorem kX7_fill (l : Launch) (E : q_E) (f : q_H) (n : Nat) (a : Nat) (h w ml t d : Int32) (x b : Int32) (h0 : f a = some (cPan h w ml t d)) : Met l yX7_fill wsX7_fill ({ frames := 1, cells := 0, slots := 0, locals := 21 }) (q_P E [.ref a, .int x, .int b] f n) (q_Qi E (fun r f1 n1 => z_fr h w ml x = r ∧ va_up f a (some (z_fc b h w ml t d x)) = f1 ∧ n = n1)) 0 0 (q_ge E) := by
  refine Met.ofW (cc := cX7_fill) (maxL := 4) (ret := (some .int)) (by decide) rfl ?_
  intro p e s m args below meth c s₁ B hml hv
  obtain ⟨rfl, hA, hW⟩ := hv
  have hx := B.exec
  have hb := B.bytes
  have hr := B.returns
  have hts := atoms_spec (ws := wsX7_fill) B.pre
  have hown : s.vm.findClass RX7 = some m.cls := findClass_of_methodNamed B.named
  have hlocks := B.notSynchronized
  have hS : va_S (q_ge E) s.heap s.heap [] := va_S.rf
  have iX7 : ∀ w ∈ wsX70, w ∈ wsX7_fill := by decide +kernel
  have hl := lv_entry ([.ref a, .int x, .int b]) (n := 4) (Nat.le_of_ble_eq_true rfl)
  rw [lg_entry_eq]
  generalize (lg_sl ([.ref a, .int x, .int b]) ++ List.replicate (4 - (lg_sl ([.ref a, .int x, .int b])).length) Slot.unset).toArray = ls at hl ⊢
  have hl : lv_has ls 4 [(0, .ref a), (1, .int x), (2, .int b)] := hl
  refine lv_iload_n hx hb dX7_fill_0 rfl (lv_at hl 1 rfl) ?_
  refine lv_aload_n hx hb dX7_fill_1 rfl (lv_at hl 0 rfl) ?_
  refine q_ci (va_runV (As := []) (rest := [.int x]) ⟨hx, hb, hml, hown, hts⟩ (kX7_space l E f n a h w ml t d h0) (cwV 0 hts gX7_fill_X7_space rfl rfl rfl (by decide +kernel) ⟨(Nat.le_of_ble_eq_true rfl), (Nat.le_of_ble_eq_true rfl)⟩) (q_pV hA hW hS (ci := 7) rfl h0) rfl rfl hl.1 rfl (lv_room (Nat.le_of_ble_eq_true rfl)) dX7_fill_2 ⟨Nat.le_of_ble_eq_true rfl, Nat.le_of_ble_eq_true rfl⟩) hS (fun r_2 f_2 n_2 H locs hp hW hS => ?_)
  obtain ⟨rfl, rfl, rfl⟩ := hp
  have hW : q_W E (f) n H := hW
  refine va_mmin hx hb (hml.trans hl.1.symm) hown (hts (.methodLink RX7 31 Lib.Math.min.name) (by decide +kernel)) (hts (.static Lib.Math.min.name) (by decide +kernel)) (hts (.initialized "java/lang/Math") (by decide +kernel)) (hts (.code Lib.Math.min.name Lib.Math.min.code 2 (some .int)) (by decide +kernel)) (Nat.le_of_ble_eq_true rfl) (Nat.le_of_ble_eq_true rfl) (Nat.le_of_ble_eq_true rfl) (Nat.le_of_ble_eq_true rfl) dX7_fill_5 ?_
  refine lv_istore_n (lv' := [(3, .int (q_min x (h - w - ml))), (0, .ref a), (1, .int x), (2, .int b)]) hx hb dX7_fill_8 rfl hl (by decide) rfl (fun ls hl => ?_)
  refine lv_iload_n hx hb dX7_fill_9 rfl (lv_at hl 0 rfl) ?_
  refine lv_if_gt (tgt := 15) hx hb dX7_fill_10 (by decide) (fun c_10 => ?_) (fun c_10 => ?_)
  · refine lv_aload_n hx hb dX7_fill_15 rfl (lv_at hl 1 rfl) ?_
    refine lv_aload_n hx hb dX7_fill_16 rfl (lv_at hl 1 rfl) ?_
    refine q_get hx hb hts hown hA hW iX7 h0 rfl 3 (by decide) (hts (.fieldLink RX7 9 "HighRecipes$Pan" "heat" "I") (by decide +kernel)) (fun _ h9 => h9) (v := .int t) rfl dX7_fill_17 ?_
    refine lv_aload_n hx hb dX7_fill_20 rfl (lv_at hl 1 rfl) ?_
    refine q_ci (va_runV (As := []) (rest := [.int t, .ref a]) ⟨hx, hb, hml, hown, hts⟩ (kX7_inside l E f n a h w ml t d h0) (cwV 0 hts gX7_fill_X7_inside rfl rfl rfl (by decide +kernel) ⟨(Nat.le_of_ble_eq_true rfl), (Nat.le_of_ble_eq_true rfl)⟩) (q_pV hA hW hS (ci := 7) rfl h0) rfl rfl hl.1 rfl (lv_room (Nat.le_of_ble_eq_true rfl)) dX7_fill_21 ⟨Nat.le_of_ble_eq_true rfl, Nat.le_of_ble_eq_true rfl⟩) hS (fun r_21 f_21 n_21 H locs hp hW hS => ?_)
    obtain ⟨rfl, rfl, rfl⟩ := hp
    have hW : q_W E (f) n H := hW
    refine lv_imul hx hb dX7_fill_24 ?_
    refine lv_bipush (v := 20) hx hb dX7_fill_25 (by decide) ?_
    refine lv_iload_n hx hb dX7_fill_27 rfl (lv_at hl 0 rfl) ?_
    refine lv_imul hx hb dX7_fill_28 ?_
    refine lv_iadd hx hb dX7_fill_29 ?_
    refine lv_aload_n hx hb dX7_fill_30 rfl (lv_at hl 1 rfl) ?_
    refine q_ci (va_runV (As := []) (rest := [.int ((t * (w + ml)) + (20 * (q_min x (h - w - ml)))), .ref a]) ⟨hx, hb, hml, hown, hts⟩ (kX7_inside l E f n a h w ml t d h0) (cwV 0 hts gX7_fill_X7_inside rfl rfl rfl (by decide +kernel) ⟨(Nat.le_of_ble_eq_true rfl), (Nat.le_of_ble_eq_true rfl)⟩) (q_pV hA hW hS (ci := 7) rfl h0) rfl rfl hl.1 rfl (lv_room (Nat.le_of_ble_eq_true rfl)) dX7_fill_31 ⟨Nat.le_of_ble_eq_true rfl, Nat.le_of_ble_eq_true rfl⟩) hS (fun r_31 f_31 n_31 H locs hp hW hS => ?_)
    obtain ⟨rfl, rfl, rfl⟩ := hp
    have hW : q_W E (f) n H := hW
    refine lv_iload_n hx hb dX7_fill_34 rfl (lv_at hl 0 rfl) ?_
    refine lv_iadd hx hb dX7_fill_35 ?_
    refine q_ci (va_runSN (As := [.int ((t * (w + ml)) + (20 * (q_min x (h - w - ml)))), .int ((w + ml) + (q_min x (h - w - ml)))]) (rest := [.ref a]) ⟨hx, hb, hml, hown, hts⟩ (kX12_quotient l E f n ((t * (w + ml)) + (20 * (q_min x (h - w - ml)))) ((w + ml) + (q_min x (h - w - ml)))) ⟨va_cnB 2 hts gX7_fill_X12_quotient_n40 rfl rfl rfl (hA.2.2.2.2.1 ("HighRecipes$Pan", 40, ⟨"HighRecipes", "quotient", "(II)I"⟩, "HighRecipes") (by decide +kernel)) (hts (.initialized RX12) (by decide +kernel)) (by decide +kernel) ⟨(Nat.le_of_ble_eq_true rfl), (Nat.le_of_ble_eq_true rfl)⟩, hts (.static yX12_quotient) (by decide +kernel), trivial⟩ (q_pS hA hW hS) rfl rfl hl.1 rfl (lv_room (Nat.le_of_ble_eq_true rfl)) dX7_fill_36 ⟨Nat.le_of_ble_eq_true rfl, Nat.le_of_ble_eq_true rfl⟩) hS (fun r_36 f_36 n_36 H locs hp hW hS => ?_)
    obtain ⟨rfl, rfl, rfl⟩ := hp
    have hW : q_W E (f) n H := hW
    refine q_put hx hb hts hown hA hW hS iX7 tyX7 tyX7_ok nmX7 h0 rfl 3 (by decide) (hts (.fieldLink RX7 9 "HighRecipes$Pan" "heat" "I") (by decide +kernel)) (fun _ h9 => h9) rfl rfl rfl (Nat.le_of_ble_eq_true rfl) dX7_fill_39 (fun H locs hW hS => ?_)
    have hW : q_W E (va_up f a (some (cPan h w ml (q_quot ((t * (w + ml)) + (20 * (q_min x (h - w - ml)))) ((w + ml) + (q_min x (h - w - ml)))) d))) n H := hW
    refine lv_iload_n hx hb dX7_fill_42 rfl (lv_at hl 3 rfl) ?_
    refine lv_if_eq (tgt := 81) hx hb dX7_fill_43 (by decide) (fun c_43 => ?_) (fun c_43 => ?_)
    · refine lv_aload_n hx hb dX7_fill_81 rfl (lv_at hl 1 rfl) ?_
      refine lv_dup hx hb dX7_fill_82 rfl ?_
      refine q_get hx hb hts hown hA hW iX7 q_eq rfl 1 (by decide) (hts (.fieldLink RX7 15 "HighRecipes$Pan" "water" "I") (by decide +kernel)) (fun _ h9 => h9) (v := .int w) rfl dX7_fill_83 ?_
      refine lv_iload_n hx hb dX7_fill_86 rfl (lv_at hl 0 rfl) ?_
      refine lv_iadd hx hb dX7_fill_87 ?_
      refine q_put hx hb hts hown hA hW hS iX7 tyX7 tyX7_ok nmX7 q_eq rfl 1 (by decide) (hts (.fieldLink RX7 15 "HighRecipes$Pan" "water" "I") (by decide +kernel)) (fun _ h9 => h9) rfl rfl rfl (Nat.le_of_ble_eq_true rfl) dX7_fill_88 (fun H locs hW hS => ?_)
      rw [q_upup] at hW
      have hW : q_W E (va_up f a (some (cPan h (w + (q_min x (h - w - ml))) ml (q_quot ((t * (w + ml)) + (20 * (q_min x (h - w - ml)))) ((w + ml) + (q_min x (h - w - ml)))) d))) n H := hW
      refine lv_iload_n hx hb dX7_fill_91 rfl (lv_at hl 0 rfl) ?_
      exact q_iret hx hb hr hlocks hW hS ⟨if_pos c_10, congrArg (fun z => va_up f a (some z)) ((if_pos c_10).trans (if_pos c_43)), rfl⟩ (Nat.le_of_ble_eq_true rfl) (Nat.le_of_ble_eq_true rfl) dX7_fill_92
    · refine lv_aload_n hx hb dX7_fill_46 rfl (lv_at hl 1 rfl) ?_
      refine lv_aload_n hx hb dX7_fill_47 rfl (lv_at hl 1 rfl) ?_
      refine q_get hx hb hts hown hA hW iX7 q_eq rfl 4 (by decide) (hts (.fieldLink RX7 21 "HighRecipes$Pan" "done" "I") (by decide +kernel)) (fun _ h9 => h9) (v := .int d) rfl dX7_fill_48 ?_
      refine lv_aload_n hx hb dX7_fill_51 rfl (lv_at hl 1 rfl) ?_
      refine q_get hx hb hts hown hA hW iX7 q_eq rfl 2 (by decide) (hts (.fieldLink RX7 18 "HighRecipes$Pan" "meal" "I") (by decide +kernel)) (fun _ h9 => h9) (v := .int ml) rfl dX7_fill_52 ?_
      refine lv_imul hx hb dX7_fill_55 ?_
      refine lv_aload_n hx hb dX7_fill_56 rfl (lv_at hl 1 rfl) ?_
      refine q_get hx hb hts hown hA hW iX7 q_eq rfl 2 (by decide) (hts (.fieldLink RX7 18 "HighRecipes$Pan" "meal" "I") (by decide +kernel)) (fun _ h9 => h9) (v := .int ml) rfl dX7_fill_57 ?_
      refine lv_iload_n hx hb dX7_fill_60 rfl (lv_at hl 0 rfl) ?_
      refine lv_iadd hx hb dX7_fill_61 ?_
      refine q_ci (va_runSN (As := [.int (d * ml), .int (ml + (q_min x (h - w - ml)))]) (rest := [.ref a]) ⟨hx, hb, hml, hown, hts⟩ (kX12_quotient l E (va_up f a (some (cPan h w ml (q_quot ((t * (w + ml)) + (20 * (q_min x (h - w - ml)))) ((w + ml) + (q_min x (h - w - ml)))) d))) n (d * ml) (ml + (q_min x (h - w - ml)))) ⟨va_cnB 2 hts gX7_fill_X12_quotient_n40 rfl rfl rfl (hA.2.2.2.2.1 ("HighRecipes$Pan", 40, ⟨"HighRecipes", "quotient", "(II)I"⟩, "HighRecipes") (by decide +kernel)) (hts (.initialized RX12) (by decide +kernel)) (by decide +kernel) ⟨(Nat.le_of_ble_eq_true rfl), (Nat.le_of_ble_eq_true rfl)⟩, hts (.static yX12_quotient) (by decide +kernel), trivial⟩ (q_pS hA hW hS) rfl rfl hl.1 rfl (lv_room (Nat.le_of_ble_eq_true rfl)) dX7_fill_62 ⟨Nat.le_of_ble_eq_true rfl, Nat.le_of_ble_eq_true rfl⟩) hS (fun r_62 f_62 n_62 H locs hp hW hS => ?_)
      obtain ⟨rfl, rfl, rfl⟩ := hp
      have hW : q_W E (va_up f a (some (cPan h w ml (q_quot ((t * (w + ml)) + (20 * (q_min x (h - w - ml)))) ((w + ml) + (q_min x (h - w - ml)))) d))) n H := hW
      refine q_put hx hb hts hown hA hW hS iX7 tyX7 tyX7_ok nmX7 q_eq rfl 4 (by decide) (hts (.fieldLink RX7 21 "HighRecipes$Pan" "done" "I") (by decide +kernel)) (fun _ h9 => h9) rfl rfl rfl (Nat.le_of_ble_eq_true rfl) dX7_fill_65 (fun H locs hW hS => ?_)
      rw [q_upup] at hW
      have hW : q_W E (va_up f a (some (cPan h w ml (q_quot ((t * (w + ml)) + (20 * (q_min x (h - w - ml)))) ((w + ml) + (q_min x (h - w - ml)))) (q_quot (d * ml) (ml + (q_min x (h - w - ml))))))) n H := hW
      refine lv_aload_n hx hb dX7_fill_68 rfl (lv_at hl 1 rfl) ?_
      refine lv_dup hx hb dX7_fill_69 rfl ?_
      refine q_get hx hb hts hown hA hW iX7 q_eq rfl 2 (by decide) (hts (.fieldLink RX7 18 "HighRecipes$Pan" "meal" "I") (by decide +kernel)) (fun _ h9 => h9) (v := .int ml) rfl dX7_fill_70 ?_
      refine lv_iload_n hx hb dX7_fill_73 rfl (lv_at hl 0 rfl) ?_
      refine lv_iadd hx hb dX7_fill_74 ?_
      refine q_put hx hb hts hown hA hW hS iX7 tyX7 tyX7_ok nmX7 q_eq rfl 2 (by decide) (hts (.fieldLink RX7 18 "HighRecipes$Pan" "meal" "I") (by decide +kernel)) (fun _ h9 => h9) rfl rfl rfl (Nat.le_of_ble_eq_true rfl) dX7_fill_75 (fun H locs hW hS => ?_)
      rw [q_upup] at hW
      have hW : q_W E (va_up f a (some (cPan h w (ml + (q_min x (h - w - ml))) (q_quot ((t * (w + ml)) + (20 * (q_min x (h - w - ml)))) ((w + ml) + (q_min x (h - w - ml)))) (q_quot (d * ml) (ml + (q_min x (h - w - ml))))))) n H := hW
      refine lv_goto (tgt := 91) hx hb dX7_fill_78 (by decide) ?_
      refine lv_iload_n hx hb dX7_fill_91 rfl (lv_at hl 0 rfl) ?_
      exact q_iret hx hb hr hlocks hW hS ⟨if_pos c_10, congrArg (fun z => va_up f a (some z)) ((if_pos c_10).trans (if_neg c_43)), rfl⟩ (Nat.le_of_ble_eq_true rfl) (Nat.le_of_ble_eq_true rfl) dX7_fill_92
  · refine lv_iconst (v := 0) hx hb dX7_fill_13 (by decide) ?_
    exact q_iret hx hb hr hlocks hW hS ⟨if_neg c_10, (congrArg (fun z => va_up f a (some z)) (if_neg c_10)).trans (q_id h0), rfl⟩ (Nat.le_of_ble_eq_true rfl) (Nat.le_of_ble_eq_true rfl) dX7_fill_14

set_option maxHeartbeats 4000000 in
set_option maxRecDepth 100000 in
theorem kX7_become (l : Launch) (E : q_E) (f : q_H) (n : Nat) (a b : Nat) (h w ml t d h2 w2 m2 t2 d2 : Int32) (h0 : f a = some (cPan h w ml t d)) (h1 : f b = some (cPan h2 w2 m2 t2 d2)) (hab : b ≠ a) : Met l yX7_become wsX7_become ({ frames := 0, cells := 0, slots := 0, locals := 0 }) (q_P E [.ref a, .ref b] f n) (q_Qv E (fun f1 n1 => va_up f a (some (cPan h2 w2 m2 t2 d2)) = f1 ∧ n = n1)) 0 0 (q_ge E) := by
  refine Met.ofW (cc := cX7_become) (maxL := 2) (ret := none) (by decide) rfl ?_
  intro p e s m args below meth c s₁ B hml hv
  obtain ⟨rfl, hA, hW⟩ := hv
  have hx := B.exec
  have hb := B.bytes
  have hr := B.returns
  have hts := atoms_spec (ws := wsX7_become) B.pre
  have hown : s.vm.findClass RX7 = some m.cls := findClass_of_methodNamed B.named
  have hlocks := B.notSynchronized
  have hS : va_S (q_ge E) s.heap s.heap [] := va_S.rf
  have iX7 : ∀ w ∈ wsX70, w ∈ wsX7_become := by decide +kernel
  have hl := lv_entry ([.ref a, .ref b]) (n := 2) (Nat.le_of_ble_eq_true rfl)
  rw [lg_entry_eq]
  generalize (lg_sl ([.ref a, .ref b]) ++ List.replicate (2 - (lg_sl ([.ref a, .ref b])).length) Slot.unset).toArray = ls at hl ⊢
  have hl : lv_has ls 2 [(0, .ref a), (1, .ref b)] := hl
  refine lv_aload_n hx hb dX7_become_0 rfl (lv_at hl 0 rfl) ?_
  refine lv_aload_n hx hb dX7_become_1 rfl (lv_at hl 1 rfl) ?_
  refine q_get hx hb hts hown hA hW iX7 h1 rfl 0 (by decide) (hts (.fieldLink RX7 24 "HighRecipes$Pan" "holds" "I") (by decide +kernel)) (fun _ h9 => h9) (v := .int h2) rfl dX7_become_2 ?_
  refine q_put hx hb hts hown hA hW hS iX7 tyX7 tyX7_ok nmX7 h0 rfl 0 (by decide) (hts (.fieldLink RX7 24 "HighRecipes$Pan" "holds" "I") (by decide +kernel)) (fun _ h9 => h9) rfl rfl rfl (Nat.le_of_ble_eq_true rfl) dX7_become_5 (fun H locs hW hS => ?_)
  have hW : q_W E (va_up f a (some (cPan h2 w ml t d))) n H := hW
  refine lv_aload_n hx hb dX7_become_8 rfl (lv_at hl 0 rfl) ?_
  refine lv_aload_n hx hb dX7_become_9 rfl (lv_at hl 1 rfl) ?_
  refine q_get hx hb hts hown hA hW iX7 (q_ne hab h1) rfl 1 (by decide) (hts (.fieldLink RX7 15 "HighRecipes$Pan" "water" "I") (by decide +kernel)) (fun _ h9 => h9) (v := .int w2) rfl dX7_become_10 ?_
  refine q_put hx hb hts hown hA hW hS iX7 tyX7 tyX7_ok nmX7 q_eq rfl 1 (by decide) (hts (.fieldLink RX7 15 "HighRecipes$Pan" "water" "I") (by decide +kernel)) (fun _ h9 => h9) rfl rfl rfl (Nat.le_of_ble_eq_true rfl) dX7_become_13 (fun H locs hW hS => ?_)
  rw [q_upup] at hW
  have hW : q_W E (va_up f a (some (cPan h2 w2 ml t d))) n H := hW
  refine lv_aload_n hx hb dX7_become_16 rfl (lv_at hl 0 rfl) ?_
  refine lv_aload_n hx hb dX7_become_17 rfl (lv_at hl 1 rfl) ?_
  refine q_get hx hb hts hown hA hW iX7 (q_ne hab h1) rfl 2 (by decide) (hts (.fieldLink RX7 18 "HighRecipes$Pan" "meal" "I") (by decide +kernel)) (fun _ h9 => h9) (v := .int m2) rfl dX7_become_18 ?_
  refine q_put hx hb hts hown hA hW hS iX7 tyX7 tyX7_ok nmX7 q_eq rfl 2 (by decide) (hts (.fieldLink RX7 18 "HighRecipes$Pan" "meal" "I") (by decide +kernel)) (fun _ h9 => h9) rfl rfl rfl (Nat.le_of_ble_eq_true rfl) dX7_become_21 (fun H locs hW hS => ?_)
  rw [q_upup] at hW
  have hW : q_W E (va_up f a (some (cPan h2 w2 m2 t d))) n H := hW
  refine lv_aload_n hx hb dX7_become_24 rfl (lv_at hl 0 rfl) ?_
  refine lv_aload_n hx hb dX7_become_25 rfl (lv_at hl 1 rfl) ?_
  refine q_get hx hb hts hown hA hW iX7 (q_ne hab h1) rfl 3 (by decide) (hts (.fieldLink RX7 9 "HighRecipes$Pan" "heat" "I") (by decide +kernel)) (fun _ h9 => h9) (v := .int t2) rfl dX7_become_26 ?_
  refine q_put hx hb hts hown hA hW hS iX7 tyX7 tyX7_ok nmX7 q_eq rfl 3 (by decide) (hts (.fieldLink RX7 9 "HighRecipes$Pan" "heat" "I") (by decide +kernel)) (fun _ h9 => h9) rfl rfl rfl (Nat.le_of_ble_eq_true rfl) dX7_become_29 (fun H locs hW hS => ?_)
  rw [q_upup] at hW
  have hW : q_W E (va_up f a (some (cPan h2 w2 m2 t2 d))) n H := hW
  refine lv_aload_n hx hb dX7_become_32 rfl (lv_at hl 0 rfl) ?_
  refine lv_aload_n hx hb dX7_become_33 rfl (lv_at hl 1 rfl) ?_
  refine q_get hx hb hts hown hA hW iX7 (q_ne hab h1) rfl 4 (by decide) (hts (.fieldLink RX7 21 "HighRecipes$Pan" "done" "I") (by decide +kernel)) (fun _ h9 => h9) (v := .int d2) rfl dX7_become_34 ?_
  refine q_put hx hb hts hown hA hW hS iX7 tyX7 tyX7_ok nmX7 q_eq rfl 4 (by decide) (hts (.fieldLink RX7 21 "HighRecipes$Pan" "done" "I") (by decide +kernel)) (fun _ h9 => h9) rfl rfl rfl (Nat.le_of_ble_eq_true rfl) dX7_become_37 (fun H locs hW hS => ?_)
  rw [q_upup] at hW
  have hW : q_W E (va_up f a (some (cPan h2 w2 m2 t2 d2))) n H := hW
  exact q_vret hx hb hr hlocks hW hS ⟨rfl, rfl⟩ (Nat.le_of_ble_eq_true rfl) (Nat.le_of_ble_eq_true rfl) dX7_become_40

abbrev z_tr (v : Nat → Int32) (x : Int32) : Int32 := q_quot (q_clamp x 0 999 * v 1 + 2 * v 2) (4 * v 2) * v 2

set_option maxHeartbeats 4000000 in
set_option maxRecDepth 100000 in
theorem kX6_translated (l : Launch) (E : q_E) (f : q_H) (n : Nat) (k bk : Nat) (hd v : Nat → Int32) (x : Int32)  (hk : KIT E f k bk hd v) : Met l yX6_translated wsX6_translated ({ frames := 2, cells := 0, slots := 0, locals := 43 }) (q_P E [.ref k, .int x] f n) (q_Qi E (fun r f1 n1 => z_tr v x = r ∧ f = f1 ∧ n = n1)) 0 0 (q_ge E) := by
  refine Met.ofW (cc := cX6_translated) (maxL := 3) (ret := (some .int)) (by decide) rfl ?_
  intro p e s m args below meth c s₁ B hml hv
  obtain ⟨rfl, hA, hW⟩ := hv
  have hx := B.exec
  have hb := B.bytes
  have hr := B.returns
  have hts := atoms_spec (ws := wsX6_translated) B.pre
  have hown : s.vm.findClass RX6 = some m.cls := findClass_of_methodNamed B.named
  have hlocks := B.notSynchronized
  have hS : va_S (q_ge E) s.heap s.heap [] := va_S.rf
  have iX6 : ∀ w ∈ wsX60, w ∈ wsX6_translated := by decide +kernel
  have hl := lv_entry ([.ref k, .int x]) (n := 3) (Nat.le_of_ble_eq_true rfl)
  rw [lg_entry_eq]
  generalize (lg_sl ([.ref k, .int x]) ++ List.replicate (3 - (lg_sl ([.ref k, .int x])).length) Slot.unset).toArray = ls at hl ⊢
  have hl : lv_has ls 3 [(0, .ref k), (1, .int x)] := hl
  rw [hk.eq] at hW
  refine lv_iload_n hx hb dX6_translated_0 rfl (lv_at hl 1 rfl) ?_
  refine lv_iconst (v := 0) hx hb dX6_translated_1 (by decide) ?_
  refine lv_sipush (v := 999) hx hb dX6_translated_2 (by decide) ?_
  refine q_ci (va_runSN (As := [.int x, .int 0, .int 999]) (rest := []) ⟨hx, hb, hml, hown, hts⟩ (kX12_clamped l E (kO E f k bk hd v) n x 0 999) ⟨va_cnB 3 hts gX6_translated_X12_clamped_n106 rfl rfl rfl (hA.2.2.2.2.1 ("HighRecipes$Kitchen", 106, ⟨"HighRecipes", "clamped", "(III)I"⟩, "HighRecipes") (by decide +kernel)) (hts (.initialized RX12) (by decide +kernel)) (by decide +kernel) ⟨(Nat.le_of_ble_eq_true rfl), (Nat.le_of_ble_eq_true rfl)⟩, hts (.static yX12_clamped) (by decide +kernel), trivial⟩ (q_pS hA hW hS) rfl rfl hl.1 rfl (lv_room (Nat.le_of_ble_eq_true rfl)) dX6_translated_5 ⟨Nat.le_of_ble_eq_true rfl, Nat.le_of_ble_eq_true rfl⟩) hS (fun r_5 f_5 n_5 H locs hp hW hS => ?_)
  obtain ⟨rfl, rfl, rfl⟩ := hp
  have hW : q_W E (kO E f k bk hd v) n H := hW
  refine lv_aload_n hx hb dX6_translated_8 rfl (lv_at hl 0 rfl) ?_
  refine q_get hx hb hts hown hA hW iX6 kO_0 rfl 6 (by decide) (hts (.fieldLink RX6 38 "HighRecipes$Kitchen" "servings" "I") (by decide +kernel)) (fun _ h9 => h9) (v := .int (v 1)) rfl dX6_translated_9 ?_
  refine lv_imul hx hb dX6_translated_12 ?_
  refine lv_istore_n (lv' := [(2, .int ((q_clamp x 0 999) * (v 1))), (0, .ref k), (1, .int x)]) hx hb dX6_translated_13 rfl hl (by decide) rfl (fun ls hl => ?_)
  refine lv_iload_n hx hb dX6_translated_14 rfl (lv_at hl 0 rfl) ?_
  refine lv_iconst (v := 2) hx hb dX6_translated_15 (by decide) ?_
  refine lv_aload_n hx hb dX6_translated_16 rfl (lv_at hl 1 rfl) ?_
  refine q_get hx hb hts hown hA hW iX6 kO_0 rfl 7 (by decide) (hts (.fieldLink RX6 42 "HighRecipes$Kitchen" "spoon" "I") (by decide +kernel)) (fun _ h9 => h9) (v := .int (v 2)) rfl dX6_translated_17 ?_
  refine lv_imul hx hb dX6_translated_20 ?_
  refine lv_iadd hx hb dX6_translated_21 ?_
  refine lv_iconst (v := 4) hx hb dX6_translated_22 (by decide) ?_
  refine lv_aload_n hx hb dX6_translated_23 rfl (lv_at hl 1 rfl) ?_
  refine q_get hx hb hts hown hA hW iX6 kO_0 rfl 7 (by decide) (hts (.fieldLink RX6 42 "HighRecipes$Kitchen" "spoon" "I") (by decide +kernel)) (fun _ h9 => h9) (v := .int (v 2)) rfl dX6_translated_24 ?_
  refine lv_imul hx hb dX6_translated_27 ?_
  refine q_ci (va_runSN (As := [.int (((q_clamp x 0 999) * (v 1)) + (2 * (v 2))), .int (4 * (v 2))]) (rest := []) ⟨hx, hb, hml, hown, hts⟩ (kX12_quotient l E (kO E f k bk hd v) n (((q_clamp x 0 999) * (v 1)) + (2 * (v 2))) (4 * (v 2))) ⟨va_cnB 2 hts gX6_translated_X12_quotient_n110 rfl rfl rfl (hA.2.2.2.2.1 ("HighRecipes$Kitchen", 110, ⟨"HighRecipes", "quotient", "(II)I"⟩, "HighRecipes") (by decide +kernel)) (hts (.initialized RX12) (by decide +kernel)) (by decide +kernel) ⟨(Nat.le_of_ble_eq_true rfl), (Nat.le_of_ble_eq_true rfl)⟩, hts (.static yX12_quotient) (by decide +kernel), trivial⟩ (q_pS hA hW hS) rfl rfl hl.1 rfl (lv_room (Nat.le_of_ble_eq_true rfl)) dX6_translated_28 ⟨Nat.le_of_ble_eq_true rfl, Nat.le_of_ble_eq_true rfl⟩) hS (fun r_28 f_28 n_28 H locs hp hW hS => ?_)
  obtain ⟨rfl, rfl, rfl⟩ := hp
  have hW : q_W E (kO E f k bk hd v) n H := hW
  refine lv_aload_n hx hb dX6_translated_31 rfl (lv_at hl 1 rfl) ?_
  refine q_get hx hb hts hown hA hW iX6 kO_0 rfl 7 (by decide) (hts (.fieldLink RX6 42 "HighRecipes$Kitchen" "spoon" "I") (by decide +kernel)) (fun _ h9 => h9) (v := .int (v 2)) rfl dX6_translated_32 ?_
  refine lv_imul hx hb dX6_translated_35 ?_
  exact q_iret hx hb hr hlocks hW hS ⟨rfl, hk.eq, rfl⟩ (Nat.le_of_ble_eq_true rfl) (Nat.le_of_ble_eq_true rfl) dX6_translated_36

set_option maxHeartbeats 4000000 in
set_option maxRecDepth 100000 in
theorem kX6_warningsOfKind (l : Launch) (E : q_E) (f : q_H) (n : Nat) (k bk : Nat) (hd v : Nat → Int32) (kd : Nat)  (hk : KIT E f k bk hd v) (hc : kd < 6) : Met l yX6_warningsOfKind wsX6_warningsOfKind ({ frames := 0, cells := 0, slots := 0, locals := 0 }) (q_P E [.ref k, .int (nI kd)] f n) (q_Qi E (fun r f1 n1 => v (6 + kd) = r ∧ f = f1 ∧ n = n1)) 0 0 (q_ge E) := by
  refine Met.ofW (cc := cX6_warningsOfKind) (maxL := 2) (ret := (some .int)) (by decide) rfl ?_
  intro p e s m args below meth c s₁ B hml hv
  obtain ⟨rfl, hA, hW⟩ := hv
  have hx := B.exec
  have hb := B.bytes
  have hr := B.returns
  have hts := atoms_spec (ws := wsX6_warningsOfKind) B.pre
  have hown : s.vm.findClass RX6 = some m.cls := findClass_of_methodNamed B.named
  have hlocks := B.notSynchronized
  have hS : va_S (q_ge E) s.heap s.heap [] := va_S.rf
  have iX6 : ∀ w ∈ wsX60, w ∈ wsX6_warningsOfKind := by decide +kernel
  have hl := lv_entry ([.ref k, .int (nI kd)]) (n := 2) (Nat.le_of_ble_eq_true rfl)
  rw [lg_entry_eq]
  generalize (lg_sl ([.ref k, .int (nI kd)]) ++ List.replicate (2 - (lg_sl ([.ref k, .int (nI kd)])).length) Slot.unset).toArray = ls at hl ⊢
  have hl : lv_has ls 2 [(0, .ref k), (1, .int (nI kd))] := hl
  rw [hk.eq] at hW
  refine lv_iload_n hx hb dX6_warningsOfKind_0 rfl (lv_at hl 1 rfl) ?_
  refine lv_if_lt (tgt := 22) hx hb dX6_warningsOfKind_1 (by decide) (fun c_1 => absurd c_1 (nI_pos (by omega))) (fun c_1 => ?_)
  refine lv_iload_n hx hb dX6_warningsOfKind_4 rfl (lv_at hl 1 rfl) ?_
  refine lv_aload_n hx hb dX6_warningsOfKind_5 rfl (lv_at hl 0 rfl) ?_
  refine q_get hx hb hts hown hA hW iX6 kO_0 rfl 3 (by decide) (hts (.fieldLink RX6 29 "HighRecipes$Kitchen" "ofKind" "[I") (by decide +kernel)) (fun _ h9 => h9) (v := .ref (k + 6)) rfl dX6_warningsOfKind_6 ?_
  refine q_alen hx hb hA hW 0 rfl kO_6 (v := Int32.ofNat 6) rfl dX6_warningsOfKind_9 ?_
  refine lv_icmp_ge (tgt := 22) hx hb dX6_warningsOfKind_10 (by decide) (fun c_10 => absurd c_10 (nI_ge hc (by decide))) (fun c_10 => ?_)
  refine lv_aload_n hx hb dX6_warningsOfKind_13 rfl (lv_at hl 0 rfl) ?_
  refine q_get hx hb hts hown hA hW iX6 kO_0 rfl 3 (by decide) (hts (.fieldLink RX6 29 "HighRecipes$Kitchen" "ofKind" "[I") (by decide +kernel)) (fun _ h9 => h9) (v := .ref (k + 6)) rfl dX6_warningsOfKind_14 ?_
  refine lv_iload_n hx hb dX6_warningsOfKind_17 rfl (lv_at hl 1 rfl) ?_
  refine q_iald hx hb hA hW kO_6 (vp_in_nI hc (by decide)) dX6_warningsOfKind_18 ?_
  rw [nI_clamp (by omega), z_row_at hc]
  refine lv_goto (tgt := 23) hx hb dX6_warningsOfKind_19 (by decide) ?_
  exact q_iret hx hb hr hlocks hW hS ⟨rfl, hk.eq, rfl⟩ (Nat.le_of_ble_eq_true rfl) (Nat.le_of_ble_eq_true rfl) dX6_warningsOfKind_23

def z_note (v : Nat → Int32) (T : Nat) (x : Int32) : Nat → Int32 := upd (upd v (32 + T % 20) x) 5 (nI T + 1)
def z_warn (v : Nat → Int32) (T c : Nat) : Nat → Int32 := upd (upd (upd v (12 + T % 20) (nI c)) 4 (nI T + 1)) (6 + c) (v (6 + c) + 1)
theorem z_warn_at {v : Nat → Int32} {T c : Nat} (hc : c < 6) : upd (upd v (12 + T % 20) (nI c)) 4 (nI T + 1) (6 + c) = v (6 + c) := by rw [z_un (by omega), z_un (by omega)]

set_option maxHeartbeats 4000000 in
set_option maxRecDepth 100000 in
theorem kX6_warn (l : Launch) (E : q_E) (f : q_H) (n : Nat) (k bk : Nat) (hd v : Nat → Int32) (T kd : Nat)  (hk : KIT E f k bk hd v) (hv4 : v 4 = nI T) (hT : T < 2 ^ 30) (hc : kd < 6) : Met l yX6_warn wsX6_warn ({ frames := 2, cells := 0, slots := 0, locals := 44 }) (q_P E [.ref k, .int (nI kd)] f n) (q_Qv E (fun f1 n1 => kO E f k bk hd (z_warn v T kd) = f1 ∧ n = n1)) 0 0 (q_ge E) := by
  refine Met.ofW (cc := cX6_warn) (maxL := 2) (ret := none) (by decide) rfl ?_
  intro p e s m args below meth c s₁ B hml hv
  obtain ⟨rfl, hA, hW⟩ := hv
  have hx := B.exec
  have hb := B.bytes
  have hr := B.returns
  have hts := atoms_spec (ws := wsX6_warn) B.pre
  have hown : s.vm.findClass RX6 = some m.cls := findClass_of_methodNamed B.named
  have hlocks := B.notSynchronized
  have hS : va_S (q_ge E) s.heap s.heap [] := va_S.rf
  have iX6 : ∀ w ∈ wsX60, w ∈ wsX6_warn := by decide +kernel
  have hl := lv_entry ([.ref k, .int (nI kd)]) (n := 2) (Nat.le_of_ble_eq_true rfl)
  rw [lg_entry_eq]
  generalize (lg_sl ([.ref k, .int (nI kd)]) ++ List.replicate (2 - (lg_sl ([.ref k, .int (nI kd)])).length) Slot.unset).toArray = ls at hl ⊢
  have hl : lv_has ls 2 [(0, .ref k), (1, .int (nI kd))] := hl
  rw [hk.eq] at hW
  refine lv_aload_n hx hb dX6_warn_0 rfl (lv_at hl 0 rfl) ?_
  refine q_get hx hb hts hown hA hW iX6 kO_0 rfl 1 (by decide) (hts (.fieldLink RX6 22 "HighRecipes$Kitchen" "warnings" "LHighRecipes$History;") (by decide +kernel)) (fun _ h9 => h9) (v := .ref (k + 2)) rfl dX6_warn_1 ?_
  refine lv_iload_n hx hb dX6_warn_4 rfl (lv_at hl 1 rfl) ?_
  refine q_cv (va_runV (As := [.int (nI kd)]) (rest := []) ⟨hx, hb, hml, hown, hts⟩ (kX4_add l E (kO E f k bk hd v) n (k + 2) T (z_row v 12 20) (nI kd) (kO_2.trans (by rw [hv4])) kO_3 (by assumption)) (cwV 1 hts gX6_warn_X4_add rfl rfl rfl (by decide +kernel) ⟨(Nat.le_of_ble_eq_true rfl), (Nat.le_of_ble_eq_true rfl)⟩) (q_pV hA hW hS (ci := 5) rfl kO_2) rfl rfl hl.1 rfl (lv_room (Nat.le_of_ble_eq_true rfl)) dX6_warn_5 ⟨Nat.le_of_ble_eq_true rfl, Nat.le_of_ble_eq_true rfl⟩) hS (fun f_5 n_5 H locs hp hW hS => ?_)
  obtain ⟨rfl, rfl⟩ := hp
  have hW : q_W E (va_up (va_up (kO E f k bk hd v) (k + 3) (some (aI E 20 (upd (z_row v 12 20) (T % 20) (nI kd))))) (k + 2) (some (cHis (k + 2) (nI T + 1)))) n H := hW
  rw [kO_s3 (by omega)] at hW
  rw [kO_s2] at hW
  have hW : q_W E (kO E f k bk hd (upd (upd v (12 + (T % 20)) (nI kd)) 4 (nI T + 1))) n H := hW
  refine lv_iload_n hx hb dX6_warn_8 rfl (lv_at hl 1 rfl) ?_
  refine lv_if_lt (tgt := 31) hx hb dX6_warn_9 (by decide) (fun c_9 => absurd c_9 (nI_pos (by omega))) (fun c_9 => ?_)
  refine lv_iload_n hx hb dX6_warn_12 rfl (lv_at hl 1 rfl) ?_
  refine lv_aload_n hx hb dX6_warn_13 rfl (lv_at hl 0 rfl) ?_
  refine q_get hx hb hts hown hA hW iX6 kO_0 rfl 3 (by decide) (hts (.fieldLink RX6 29 "HighRecipes$Kitchen" "ofKind" "[I") (by decide +kernel)) (fun _ h9 => h9) (v := .ref (k + 6)) rfl dX6_warn_14 ?_
  refine q_alen hx hb hA hW 0 rfl kO_6 (v := Int32.ofNat 6) rfl dX6_warn_17 ?_
  refine lv_icmp_ge (tgt := 31) hx hb dX6_warn_18 (by decide) (fun c_18 => absurd c_18 (nI_ge hc (by decide))) (fun c_18 => ?_)
  refine lv_aload_n hx hb dX6_warn_21 rfl (lv_at hl 0 rfl) ?_
  refine q_get hx hb hts hown hA hW iX6 kO_0 rfl 3 (by decide) (hts (.fieldLink RX6 29 "HighRecipes$Kitchen" "ofKind" "[I") (by decide +kernel)) (fun _ h9 => h9) (v := .ref (k + 6)) rfl dX6_warn_22 ?_
  refine lv_iload_n hx hb dX6_warn_25 rfl (lv_at hl 1 rfl) ?_
  refine lv_dup2_11 hx hb dX6_warn_26 rfl rfl ?_
  refine q_iald hx hb hA hW kO_6 (vp_in_nI hc (by decide)) dX6_warn_27 ?_
  rw [nI_clamp (by omega), z_row_at hc, z_warn_at hc]
  refine lv_iconst (v := 1) hx hb dX6_warn_28 (by decide) ?_
  refine lv_iadd hx hb dX6_warn_29 ?_
  refine q_iast hx hb hA hW hS kO_6 (vp_in_nI hc (by decide)) dX6_warn_30 (fun H locs hW hS => ?_)
  rw [show (nI kd).toNatClampNeg = kd from (nI_clamp (by omega))] at hW
  have hW : q_W E (va_up (kO E f k bk hd (upd (upd v (12 + (T % 20)) (nI kd)) 4 (nI T + 1))) (k + 6) (some (aI E 6 (upd (z_row (upd (upd v (12 + (T % 20)) (nI kd)) 4 (nI T + 1)) 6 6) kd ((v (6 + kd)) + 1))))) n H := hW
  rw [kO_s6 hc] at hW
  exact q_vret hx hb hr hlocks hW hS ⟨rfl, rfl⟩ (Nat.le_of_ble_eq_true rfl) (Nat.le_of_ble_eq_true rfl) dX6_warn_31

def z_fg (v : Nat → Int32) (j : Nat) : Nat → Int32 := fun q => if q = 4 ∨ q = 5 ∨ (6 ≤ q ∧ q < 6 + j) then 0 else v q
theorem z_fg_0 {v : Nat → Int32} : upd (upd v 4 0) 5 0 = z_fg v 0 := by
  funext q
  unfold z_fg upd
  by_cases h5 : q = 5
  · rw [if_pos h5, if_pos (Or.inr (Or.inl h5))]
  · rw [if_neg h5]
    by_cases h4 : q = 4
    · rw [if_pos h4, if_pos (Or.inl h4)]
    · rw [if_neg h4, if_neg (by omega)]
theorem z_fg_s {v : Nat → Int32} {j : Nat} : upd (z_fg v j) (6 + j) 0 = z_fg v (j + 1) := by
  funext q
  by_cases h : q = 6 + j
  · subst h; rw [z_us]; unfold z_fg; rw [if_pos (by omega)]
  · rw [z_un h]; unfold z_fg
    by_cases h2 : q = 4 ∨ q = 5 ∨ (6 ≤ q ∧ q < 6 + j)
    · rw [if_pos h2, if_pos (by omega)]
    · rw [if_neg h2, if_neg (by omega)]
abbrev z_forget (v : Nat → Int32) : Nat → Int32 := z_fg v 6

set_option maxHeartbeats 4000000 in
set_option maxRecDepth 100000 in
theorem kX6_forget (l : Launch) (E : q_E) (f : q_H) (n : Nat) (k bk : Nat) (hd v : Nat → Int32)  (hk : KIT E f k bk hd v) : Met l yX6_forget wsX6_forget ({ frames := 1, cells := 0, slots := 0, locals := 20 }) (q_P E [.ref k] f n) (q_Qv E (fun f1 n1 => kO E f k bk hd (z_forget v) = f1 ∧ n = n1)) 0 0 (q_ge E) := by
  refine Met.ofW (cc := cX6_forget) (maxL := 2) (ret := none) (by decide) rfl ?_
  intro p e s m args below meth c s₁ B hml hv
  obtain ⟨rfl, hA, hW⟩ := hv
  have hx := B.exec
  have hb := B.bytes
  have hr := B.returns
  have hts := atoms_spec (ws := wsX6_forget) B.pre
  have hown : s.vm.findClass RX6 = some m.cls := findClass_of_methodNamed B.named
  have hlocks := B.notSynchronized
  have hS : va_S (q_ge E) s.heap s.heap [] := va_S.rf
  have iX6 : ∀ w ∈ wsX60, w ∈ wsX6_forget := by decide +kernel
  have hl := lv_entry ([.ref k]) (n := 2) (Nat.le_of_ble_eq_true rfl)
  rw [lg_entry_eq]
  generalize (lg_sl ([.ref k]) ++ List.replicate (2 - (lg_sl ([.ref k])).length) Slot.unset).toArray = ls at hl ⊢
  have hl : lv_has ls 2 [(0, .ref k)] := hl
  rw [hk.eq] at hW
  refine lv_aload_n hx hb dX6_forget_0 rfl (lv_at hl 0 rfl) ?_
  refine q_get hx hb hts hown hA hW iX6 kO_0 rfl 1 (by decide) (hts (.fieldLink RX6 22 "HighRecipes$Kitchen" "warnings" "LHighRecipes$History;") (by decide +kernel)) (fun _ h9 => h9) (v := .ref (k + 2)) rfl dX6_forget_1 ?_
  refine q_cv (va_runV (As := []) (rest := []) ⟨hx, hb, hml, hown, hts⟩ (kX4_clear l E (kO E f k bk hd v) n (k + 2) (v 4) kO_2) (cwV 0 hts gX6_forget_X4_clear rfl rfl rfl (by decide +kernel) ⟨(Nat.le_of_ble_eq_true rfl), (Nat.le_of_ble_eq_true rfl)⟩) (q_pV hA hW hS (ci := 5) rfl kO_2) rfl rfl hl.1 rfl (lv_room (Nat.le_of_ble_eq_true rfl)) dX6_forget_4 ⟨Nat.le_of_ble_eq_true rfl, Nat.le_of_ble_eq_true rfl⟩) hS (fun f_4 n_4 H locs hp hW hS => ?_)
  obtain ⟨rfl, rfl⟩ := hp
  have hW : q_W E (va_up (kO E f k bk hd v) (k + 2) (some (cHis (k + 2) 0))) n H := hW
  rw [kO_s2] at hW
  have hW : q_W E (kO E f k bk hd (upd v 4 0)) n H := hW
  refine lv_aload_n hx hb dX6_forget_7 rfl (lv_at hl 0 rfl) ?_
  refine q_get hx hb hts hown hA hW iX6 kO_0 rfl 2 (by decide) (hts (.fieldLink RX6 26 "HighRecipes$Kitchen" "notes" "LHighRecipes$History;") (by decide +kernel)) (fun _ h9 => h9) (v := .ref (k + 4)) rfl dX6_forget_8 ?_
  refine q_cv (va_runV (As := []) (rest := []) ⟨hx, hb, hml, hown, hts⟩ (kX4_clear l E (kO E f k bk hd (upd v 4 0)) n (k + 4) ((upd v 4 0) 5) kO_4) (cwV 0 hts gX6_forget_X4_clear rfl rfl rfl (by decide +kernel) ⟨(Nat.le_of_ble_eq_true rfl), (Nat.le_of_ble_eq_true rfl)⟩) (q_pV hA hW hS (ci := 5) rfl kO_4) rfl rfl hl.1 rfl (lv_room (Nat.le_of_ble_eq_true rfl)) dX6_forget_11 ⟨Nat.le_of_ble_eq_true rfl, Nat.le_of_ble_eq_true rfl⟩) hS (fun f_11 n_11 H locs hp hW hS => ?_)
  obtain ⟨rfl, rfl⟩ := hp
  have hW : q_W E (va_up (kO E f k bk hd (upd v 4 0)) (k + 4) (some (cHis (k + 4) 0))) n H := hW
  rw [kO_s4] at hW
  have hW : q_W E (kO E f k bk hd (upd (upd v 4 0) 5 0)) n H := hW
  refine lv_iconst (v := 0) hx hb dX6_forget_14 (by decide) ?_
  refine lv_istore_n (lv' := [(1, .int 0), (0, .ref k)]) hx hb dX6_forget_15 rfl hl (by decide) rfl (fun ls hl => ?_)
  have K16 : ∀ (fu : Nat) (j : Nat) (hj : j ≤ 6) (hm : 6 - j < fu) (H : Heap) (locs : List Loc) (ls : Array Slot), q_W E (kO E f k bk hd (z_fg v j)) n H → va_S (q_ge E) s.heap H locs → lv_has ls 2 [(0, .ref k), (1, .int (nI j))] → W p l e (headSpec wsX6_forget ({ frames := 1, cells := 0, slots := 0, locals := 20 })).room s m ([.ref k] : List Value).toArray below meth c H locs 0 0 (MQ below (q_Qv E (fun f1 n1 => kO E f k bk hd (z_forget v) = f1 ∧ n = n1)) ([.ref k] : List Value).toArray s 0 0 (q_ge E)) (F0 m 16 ls []) := by
    intro fu
    induction fu with
    | zero =>
      intro j hj hm
      exact absurd hm (Nat.not_lt_zero _)
    | succ fu ih =>
      intro j hj hm H locs ls hW hS hl
      refine lv_iload_n hx hb dX6_forget_16 rfl (lv_at hl 1 rfl) ?_
      refine lv_aload_n hx hb dX6_forget_17 rfl (lv_at hl 0 rfl) ?_
      refine q_get hx hb hts hown hA hW iX6 kO_0 rfl 3 (by decide) (hts (.fieldLink RX6 29 "HighRecipes$Kitchen" "ofKind" "[I") (by decide +kernel)) (fun _ h9 => h9) (v := .ref (k + 6)) rfl dX6_forget_18 ?_
      refine q_alen hx hb hA hW 0 rfl kO_6 (v := Int32.ofNat 6) rfl dX6_forget_21 ?_
      refine lv_icmp_ge (tgt := 38) hx hb dX6_forget_22 (by decide) (fun c_22 => ?_) (fun c_22 => ?_)
      · have ej : j = 6 := by rcases Nat.lt_or_ge j 6 with h9 | h9; exact absurd c_22 (nI_ge h9 (by omega)); omega
        subst ej
        exact q_vret hx hb hr hlocks hW hS ⟨rfl, rfl⟩ (Nat.le_of_ble_eq_true rfl) (Nat.le_of_ble_eq_true rfl) dX6_forget_38
      · have hlt : j < 6 := by rcases Nat.lt_or_ge j 6 with h9 | h9; exact h9; exact absurd (nI_le h9 (by omega)) c_22
        refine lv_aload_n hx hb dX6_forget_25 rfl (lv_at hl 0 rfl) ?_
        refine q_get hx hb hts hown hA hW iX6 kO_0 rfl 3 (by decide) (hts (.fieldLink RX6 29 "HighRecipes$Kitchen" "ofKind" "[I") (by decide +kernel)) (fun _ h9 => h9) (v := .ref (k + 6)) rfl dX6_forget_26 ?_
        refine lv_iload_n hx hb dX6_forget_29 rfl (lv_at hl 1 rfl) ?_
        refine lv_iconst (v := 0) hx hb dX6_forget_30 (by decide) ?_
        refine q_iast hx hb hA hW hS kO_6 (vp_in_nI hlt (by decide)) dX6_forget_31 (fun H locs hW hS => ?_)
        rw [show (nI j).toNatClampNeg = j from (nI_clamp (by omega))] at hW
        have hW : q_W E (va_up (kO E f k bk hd (z_fg v j)) (k + 6) (some (aI E 6 (upd (z_row (z_fg v j) 6 6) j 0)))) n H := hW
        rw [kO_s6 hlt] at hW
        refine lv_iinc (v := nI (j + 1)) (lv' := [(1, .int (nI (j + 1))), (0, .ref k)]) hx hb dX6_forget_32 hl (k := 1) rfl (nI_1 j) (by decide) rfl (fun ls hl => ?_)
        refine lv_goto (tgt := 16) hx hb dX6_forget_35 (by decide) ?_
        rw [z_fg_s] at hW
        exact ih (j + 1) hlt (by omega) _ _ _ hW hS (lv_sub hl [1, 0] rfl)
  rw [z_fg_0] at hW
  exact K16 _ 0 (Nat.zero_le _) (Nat.lt_succ_self _) _ _ _ hW hS (lv_sub hl [1, 0] rfl)

def z_move (v : Nat → Int32) (to : Int32) (j : Nat) : Nat → Int32 := fun q => if q = 0 then to else if 54 ≤ q ∧ q % 4 = 2 ∧ (q - 54) / 4 < j ∧ 0 < v (q - 2) then q_min (v q) (z_boil to) else v q
theorem z_move_0 {v : Nat → Int32} {to : Int32} : upd v 0 to = z_move v to 0 := by
  funext q
  unfold z_move upd
  by_cases h : q = 0
  · rw [if_pos h, if_pos h]
  · rw [if_neg h, if_neg h, if_neg (by omega)]
theorem z_move_n {v : Nat → Int32} {to : Int32} {i j q : Nat} (h0 : q ≠ 0) (h : ¬ (54 ≤ q ∧ q % 4 = 2 ∧ (q - 54) / 4 < j)) : z_move v to j q = v q := by
  unfold z_move
  rw [if_neg h0, if_neg (fun z => h ⟨z.1, z.2.1, z.2.2.1⟩)]
theorem z_move_s {v : Nat → Int32} {to : Int32} {j : Nat} (h : 0 < z_move v to j (52 + 4 * j)) : z_pan (z_move v to j) j (z_move v to j (52 + 4 * j)) (z_move v to j (53 + 4 * j)) (q_min (z_move v to j (54 + 4 * j)) (z_boil (z_move v to j 0))) (z_move v to j (55 + 4 * j)) = z_move v to (j + 1) := by
  have e0 : z_move v to j 0 = to := if_pos rfl
  have e1 : z_move v to j (54 + 4 * j) = v (54 + 4 * j) := z_move_n (i := 0) (by omega) (by omega)
  rw [z_move_n (i := 0) (by omega) (by omega)] at h
  rw [e0, e1]
  funext q
  unfold z_pan
  split
  · next e => subst e; rw [z_move_n (i := 0) (by omega) (by omega), z_move_n (i := 0) (by omega) (by omega)]
  · split
    · next e => subst e; rw [z_move_n (i := 0) (by omega) (by omega), z_move_n (i := 0) (by omega) (by omega)]
    · split
      · next e =>
          subst e
          unfold z_move
          rw [if_neg (by omega), if_pos ⟨by omega, by omega, by omega, by rw [show 54 + 4 * j - 2 = 52 + 4 * j by omega]; exact h⟩]
      · split
        · next e => subst e; rw [z_move_n (i := 0) (by omega) (by omega), z_move_n (i := 0) (by omega) (by omega)]
        · unfold z_move
          by_cases h3 : q = 0
          · rw [if_pos h3, if_pos h3]
          · rw [if_neg h3, if_neg h3]
            by_cases h4 : 54 ≤ q ∧ q % 4 = 2 ∧ (q - 54) / 4 < j ∧ 0 < v (q - 2)
            · rw [if_pos h4, if_pos ⟨h4.1, h4.2.1, by omega, h4.2.2.2⟩]
            · rw [if_neg h4, if_neg (fun z => h4 ⟨z.1, z.2.1, by omega, z.2.2.2⟩)]
theorem z_move_b {v : Nat → Int32} {to : Int32} {j : Nat} (h : ¬ 0 < z_move v to j (52 + 4 * j)) : z_move v to j = z_move v to (j + 1) := by
  rw [z_move_n (i := 0) (by omega) (by omega)] at h
  funext q
  unfold z_move
  by_cases h3 : q = 0
  · rw [if_pos h3, if_pos h3]
  · rw [if_neg h3, if_neg h3]
    by_cases h4 : 54 ≤ q ∧ q % 4 = 2 ∧ (q - 54) / 4 < j ∧ 0 < v (q - 2)
    · rw [if_pos h4, if_pos ⟨h4.1, h4.2.1, by omega, h4.2.2.2⟩]
    · rw [if_neg h4, if_neg ?_]
      intro z
      by_cases h5 : (q - 54) / 4 < j
      · exact h4 ⟨z.1, z.2.1, h5, z.2.2.2⟩
      · have h6 : q - 2 = 52 + 4 * j := by omega
        rw [h6] at z
        exact h z.2.2.2
theorem q_nle {x : Int32} (h : ¬ x ≤ 0) : 0 < x := by
  rw [Int32.lt_iff_toInt_lt]
  rw [Int32.le_iff_toInt_le] at h
  simp at h ⊢
  omega
theorem q_le0 {x : Int32} (h : x ≤ 0) : ¬ 0 < x := by
  rw [Int32.lt_iff_toInt_lt]
  rw [Int32.le_iff_toInt_le] at h
  omega

set_option maxHeartbeats 4000000 in
set_option maxRecDepth 100000 in
theorem kX6_moveTo (l : Launch) (E : q_E) (f : q_H) (n : Nat) (k bk : Nat) (hd v : Nat → Int32) (pn : Nat) (rc ac : Int32) (to : Int32) (hB : f bk = some (cBook bk (nI pn) rc ac)) (hk : KIT E f k bk hd v) (hbo : kOut k bk) (hpn : pn ≤ 8) : Met l yX6_moveTo wsX6_moveTo ({ frames := 2, cells := 0, slots := 0, locals := 40 }) (q_P E [.ref k, .int to] f n) (q_Qv E (fun f1 n1 => kO E f k bk hd (z_move v to pn) = f1 ∧ n = n1)) 0 0 (q_ge E) := by
  refine Met.ofW (cc := cX6_moveTo) (maxL := 4) (ret := none) (by decide) rfl ?_
  intro p e s m args below meth c s₁ B hml hv
  obtain ⟨rfl, hA, hW⟩ := hv
  have hx := B.exec
  have hb := B.bytes
  have hr := B.returns
  have hts := atoms_spec (ws := wsX6_moveTo) B.pre
  have hown : s.vm.findClass RX6 = some m.cls := findClass_of_methodNamed B.named
  have hlocks := B.notSynchronized
  have hS : va_S (q_ge E) s.heap s.heap [] := va_S.rf
  have iX2 : ∀ w ∈ wsX20, w ∈ wsX6_moveTo := by decide +kernel
  have iX6 : ∀ w ∈ wsX60, w ∈ wsX6_moveTo := by decide +kernel
  have iX7 : ∀ w ∈ wsX70, w ∈ wsX6_moveTo := by decide +kernel
  have hl := lv_entry ([.ref k, .int to]) (n := 4) (Nat.le_of_ble_eq_true rfl)
  rw [lg_entry_eq]
  generalize (lg_sl ([.ref k, .int to]) ++ List.replicate (4 - (lg_sl ([.ref k, .int to])).length) Slot.unset).toArray = ls at hl ⊢
  have hl : lv_has ls 4 [(0, .ref k), (1, .int to)] := hl
  rw [hk.eq] at hW
  refine lv_aload_n hx hb dX6_moveTo_0 rfl (lv_at hl 0 rfl) ?_
  refine lv_iload_n hx hb dX6_moveTo_1 rfl (lv_at hl 1 rfl) ?_
  refine q_put hx hb hts hown hA hW hS iX6 tyX6 tyX6_ok nmX6 kO_0 rfl 5 (by decide) (hts (.fieldLink RX6 46 "HighRecipes$Kitchen" "altitude" "I") (by decide +kernel)) (fun _ h9 => h9) rfl rfl rfl (Nat.le_of_ble_eq_true rfl) dX6_moveTo_2 (fun H locs hW hS => ?_)
  have hW : q_W E (va_up (kO E f k bk hd v) k (some (cKit k bk (upd v 0 to)))) n H := hW
  rw [kO_s0 (fun j hj => z_un (by omega))] at hW
  refine lv_iconst (v := 0) hx hb dX6_moveTo_5 (by decide) ?_
  refine lv_istore_n (lv' := [(2, .int 0), (0, .ref k), (1, .int to)]) hx hb dX6_moveTo_6 rfl hl (by decide) rfl (fun ls hl => ?_)
  have K7 : ∀ (fu : Nat) (j : Nat) (hj : j ≤ pn) (hm : pn - j < fu) (H : Heap) (locs : List Loc) (ls : Array Slot), q_W E (kO E f k bk hd (z_move v to j)) n H → va_S (q_ge E) s.heap H locs → lv_has ls 4 [(0, .ref k), (1, .int to), (2, .int (nI j))] → W p l e (headSpec wsX6_moveTo ({ frames := 2, cells := 0, slots := 0, locals := 40 })).room s m ([.ref k, .int to] : List Value).toArray below meth c H locs 0 0 (MQ below (q_Qv E (fun f1 n1 => kO E f k bk hd (z_move v to pn) = f1 ∧ n = n1)) ([.ref k, .int to] : List Value).toArray s 0 0 (q_ge E)) (F0 m 7 ls []) := by
    intro fu
    induction fu with
    | zero =>
      intro j hj hm
      exact absurd hm (Nat.not_lt_zero _)
    | succ fu ih =>
      intro j hj hm H locs ls hW hS hl
      refine lv_iload_n hx hb dX6_moveTo_7 rfl (lv_at hl 2 rfl) ?_
      refine lv_aload_n hx hb dX6_moveTo_8 rfl (lv_at hl 0 rfl) ?_
      refine q_get hx hb hts hown hA hW iX6 kO_0 rfl 4 (by decide) (hts (.fieldLink RX6 34 "HighRecipes$Kitchen" "book" "LHighRecipes$Book;") (by decide +kernel)) (fun _ h9 => h9) (v := .ref bk) rfl dX6_moveTo_9 ?_
      refine q_getN hx hb hts hown hA hW iX2 ((kO_out hbo).trans hB) rfl 4 (by decide) (va_Nw.use rfl (hA.2.2.2.1 ("HighRecipes$Kitchen", 55, "HighRecipes$Book", "panCount", "I", "HighRecipes") (by decide +kernel))) (fun _ h9 => h9) (v := .int (nI pn)) rfl dX6_moveTo_12 ?_
      refine lv_icmp_ge (tgt := 56) hx hb dX6_moveTo_15 (by decide) (fun c_15 => ?_) (fun c_15 => ?_)
      · have ej : j = pn := by rcases Nat.lt_or_ge j pn with h9 | h9; exact absurd c_15 (nI_ge h9 (by omega)); omega
        subst ej
        exact q_vret hx hb hr hlocks hW hS ⟨rfl, rfl⟩ (Nat.le_of_ble_eq_true rfl) (Nat.le_of_ble_eq_true rfl) dX6_moveTo_56
      · have hlt : j < pn := by rcases Nat.lt_or_ge j pn with h9 | h9; exact h9; exact absurd (nI_le h9 (by omega)) c_15
        refine lv_aload_n hx hb dX6_moveTo_18 rfl (lv_at hl 0 rfl) ?_
        refine lv_iload_n hx hb dX6_moveTo_19 rfl (lv_at hl 2 rfl) ?_
        refine q_cq (va_runV (As := [.int (nI j)]) (rest := []) ⟨hx, hb, hml, hown, hts⟩ (kX6_panAt l E (kO E f k bk hd (z_move v to j)) n k bk hd (z_move v to j) pn rc ac j ((kO_out hbo).trans hB) kO_K (by assumption) (by assumption) hlt) (cwV 1 hts gX6_moveTo_X6_panAt rfl rfl rfl (by decide +kernel) ⟨(Nat.le_of_ble_eq_true rfl), (Nat.le_of_ble_eq_true rfl)⟩) (q_pV hA hW hS (ci := 6) rfl kO_0) rfl rfl hl.1 rfl (lv_room (Nat.le_of_ble_eq_true rfl)) dX6_moveTo_20 ⟨Nat.le_of_ble_eq_true rfl, Nat.le_of_ble_eq_true rfl⟩) hS (fun r_20 f_20 n_20 H locs hp hW hS => ?_)
        obtain ⟨rfl, rfl, rfl⟩ := hp
        have hW : q_W E (kO E f k bk hd (z_move v to j)) n H := hW
        refine lv_astore_n (lv' := [(3, .ref (k + 12 + j)), (0, .ref k), (1, .int to), (2, .int (nI j))]) hx hb dX6_moveTo_23 rfl hl (by decide) rfl (fun ls hl => ?_)
        refine lv_aload_n hx hb dX6_moveTo_24 rfl (lv_at hl 0 rfl) ?_
        refine lv_ifnull hx hb dX6_moveTo_25 ?_
        refine lv_aload_n hx hb dX6_moveTo_28 rfl (lv_at hl 0 rfl) ?_
        refine q_getN hx hb hts hown hA hW iX7 (kO_p (by omega)) rfl 1 (by decide) (va_Nw.use rfl (hA.2.2.2.1 ("HighRecipes$Kitchen", 80, "HighRecipes$Pan", "water", "I", "HighRecipes") (by decide +kernel))) (fun _ h9 => h9) (v := .int ((z_move v to j) (52 + 4 * j))) rfl dX6_moveTo_29 ?_
        refine lv_if_le (tgt := 50) hx hb dX6_moveTo_32 (by decide) (fun c_32 => ?_) (fun c_32 => ?_)
        · refine lv_iinc (v := nI (j + 1)) (lv' := [(2, .int (nI (j + 1))), (3, .ref (k + 12 + j)), (0, .ref k), (1, .int to)]) hx hb dX6_moveTo_50 hl (k := 3) rfl (nI_1 j) (by decide) rfl (fun ls hl => ?_)
          refine lv_goto (tgt := 7) hx hb dX6_moveTo_53 (by decide) ?_
          rw [z_move_b (q_le0 c_32)] at hW
          exact ih (j + 1) hlt (by omega) _ _ _ hW hS (lv_sub hl [2, 3, 0] rfl)
        · refine lv_aload_n hx hb dX6_moveTo_35 rfl (lv_at hl 0 rfl) ?_
          refine lv_aload_n hx hb dX6_moveTo_36 rfl (lv_at hl 0 rfl) ?_
          refine q_getN hx hb hts hown hA hW iX7 (kO_p (by omega)) rfl 3 (by decide) (va_Nw.use rfl (hA.2.2.2.1 ("HighRecipes$Kitchen", 77, "HighRecipes$Pan", "heat", "I", "HighRecipes") (by decide +kernel))) (fun _ h9 => h9) (v := .int ((z_move v to j) (54 + 4 * j))) rfl dX6_moveTo_37 ?_
          refine lv_aload_n hx hb dX6_moveTo_40 rfl (lv_at hl 1 rfl) ?_
          refine q_ci (va_runV (As := []) (rest := [.int ((z_move v to j) (54 + 4 * j)), .ref (k + 12 + j)]) ⟨hx, hb, hml, hown, hts⟩ (kX6_boilingHeat l E (kO E f k bk hd (z_move v to j)) n k bk hd (z_move v to j) kO_K) (cwV 0 hts gX6_moveTo_X6_boilingHeat rfl rfl rfl (by decide +kernel) ⟨(Nat.le_of_ble_eq_true rfl), (Nat.le_of_ble_eq_true rfl)⟩) (q_pV hA hW hS (ci := 6) rfl kO_0) rfl rfl hl.1 rfl (lv_room (Nat.le_of_ble_eq_true rfl)) dX6_moveTo_41 ⟨Nat.le_of_ble_eq_true rfl, Nat.le_of_ble_eq_true rfl⟩) hS (fun r_41 f_41 n_41 H locs hp hW hS => ?_)
          obtain ⟨rfl, rfl, rfl⟩ := hp
          have hW : q_W E (kO E f k bk hd (z_move v to j)) n H := hW
          refine va_mmin hx hb (hml.trans hl.1.symm) hown (hts (.methodLink RX6 87 Lib.Math.min.name) (by decide +kernel)) (hts (.static Lib.Math.min.name) (by decide +kernel)) (hts (.initialized "java/lang/Math") (by decide +kernel)) (hts (.code Lib.Math.min.name Lib.Math.min.code 2 (some .int)) (by decide +kernel)) (Nat.le_of_ble_eq_true rfl) (Nat.le_of_ble_eq_true rfl) (Nat.le_of_ble_eq_true rfl) (Nat.le_of_ble_eq_true rfl) dX6_moveTo_44 ?_
          refine q_putN hx hb hts hown hA hW hS iX7 tyX7 tyX7_ok nmX7 (kO_p (by omega)) rfl 3 (by decide) (va_Nw.use rfl (hA.2.2.2.1 ("HighRecipes$Kitchen", 77, "HighRecipes$Pan", "heat", "I", "HighRecipes") (by decide +kernel))) (fun _ h9 => h9) rfl rfl rfl (Nat.le_of_ble_eq_true rfl) dX6_moveTo_47 (fun H locs hW hS => ?_)
          have hW : q_W E (va_up (kO E f k bk hd (z_move v to j)) (k + 12 + j) (some (cPan (hd j) ((z_move v to j) (52 + 4 * j)) ((z_move v to j) (53 + 4 * j)) (q_min ((z_move v to j) (54 + 4 * j)) (z_boil ((z_move v to j) 0))) ((z_move v to j) (55 + 4 * j))))) n H := hW
          rw [kO_sq (by omega)] at hW
          refine lv_iinc (v := nI (j + 1)) (lv' := [(2, .int (nI (j + 1))), (3, .ref (k + 12 + j)), (0, .ref k), (1, .int to)]) hx hb dX6_moveTo_50 hl (k := 3) rfl (nI_1 j) (by decide) rfl (fun ls hl => ?_)
          refine lv_goto (tgt := 7) hx hb dX6_moveTo_53 (by decide) ?_
          rw [z_move_s (q_nle c_32)] at hW
          exact ih (j + 1) hlt (by omega) _ _ _ hW hS (lv_sub hl [2, 3, 0] rfl)
  rw [z_move_0] at hW
  exact K7 _ 0 (Nat.zero_le _) (Nat.lt_succ_self _) _ _ _ hW hS (lv_sub hl [1, 2, 0] rfl)

def z_hot (v : Nat → Int32) : Nat → Int32
  | 0 => 0
  | j + 1 => if 20 < v (54 + 4 * j) then z_hot v j + 1 else z_hot v j
theorem q_nle2 {x y : Int32} (h : ¬ x ≤ y) : y < x := by
  rw [Int32.lt_iff_toInt_lt]
  rw [Int32.le_iff_toInt_le] at h
  omega
theorem q_nlt2 {x y : Int32} (h : x ≤ y) : ¬ y < x := by
  rw [Int32.lt_iff_toInt_lt]
  rw [Int32.le_iff_toInt_le] at h
  omega

set_option maxHeartbeats 4000000 in
set_option maxRecDepth 100000 in
theorem kX6_hotPans (l : Launch) (E : q_E) (f : q_H) (n : Nat) (k bk : Nat) (hd v : Nat → Int32) (pn : Nat) (rc ac : Int32) (hB : f bk = some (cBook bk (nI pn) rc ac)) (hk : KIT E f k bk hd v) (hbo : kOut k bk) (hpn : pn ≤ 8) : Met l yX6_hotPans wsX6_hotPans ({ frames := 1, cells := 0, slots := 0, locals := 21 }) (q_P E [.ref k] f n) (q_Qi E (fun r f1 n1 => z_hot v pn = r ∧ f = f1 ∧ n = n1)) 0 0 (q_ge E) := by
  refine Met.ofW (cc := cX6_hotPans) (maxL := 4) (ret := (some .int)) (by decide) rfl ?_
  intro p e s m args below meth c s₁ B hml hv
  obtain ⟨rfl, hA, hW⟩ := hv
  have hx := B.exec
  have hb := B.bytes
  have hr := B.returns
  have hts := atoms_spec (ws := wsX6_hotPans) B.pre
  have hown : s.vm.findClass RX6 = some m.cls := findClass_of_methodNamed B.named
  have hlocks := B.notSynchronized
  have hS : va_S (q_ge E) s.heap s.heap [] := va_S.rf
  have iX2 : ∀ w ∈ wsX20, w ∈ wsX6_hotPans := by decide +kernel
  have iX6 : ∀ w ∈ wsX60, w ∈ wsX6_hotPans := by decide +kernel
  have iX7 : ∀ w ∈ wsX70, w ∈ wsX6_hotPans := by decide +kernel
  have hl := lv_entry ([.ref k]) (n := 4) (Nat.le_of_ble_eq_true rfl)
  rw [lg_entry_eq]
  generalize (lg_sl ([.ref k]) ++ List.replicate (4 - (lg_sl ([.ref k])).length) Slot.unset).toArray = ls at hl ⊢
  have hl : lv_has ls 4 [(0, .ref k)] := hl
  rw [hk.eq] at hW
  refine lv_iconst (v := 0) hx hb dX6_hotPans_0 (by decide) ?_
  refine lv_istore_n (lv' := [(1, .int 0), (0, .ref k)]) hx hb dX6_hotPans_1 rfl hl (by decide) rfl (fun ls hl => ?_)
  refine lv_iconst (v := 0) hx hb dX6_hotPans_2 (by decide) ?_
  refine lv_istore_n (lv' := [(2, .int 0), (1, .int 0), (0, .ref k)]) hx hb dX6_hotPans_3 rfl hl (by decide) rfl (fun ls hl => ?_)
  have K4 : ∀ (fu : Nat) (j : Nat) (hj : j ≤ pn) (hm : pn - j < fu) (H : Heap) (locs : List Loc) (ls : Array Slot), q_W E (kO E f k bk hd v) n H → va_S (q_ge E) s.heap H locs → lv_has ls 4 [(0, .ref k), (1, .int (z_hot v j)), (2, .int (nI j))] → W p l e (headSpec wsX6_hotPans ({ frames := 1, cells := 0, slots := 0, locals := 21 })).room s m ([.ref k] : List Value).toArray below meth c H locs 0 0 (MQ below (q_Qi E (fun r f1 n1 => z_hot v pn = r ∧ f = f1 ∧ n = n1)) ([.ref k] : List Value).toArray s 0 0 (q_ge E)) (F0 m 4 ls []) := by
    intro fu
    induction fu with
    | zero =>
      intro j hj hm
      exact absurd hm (Nat.not_lt_zero _)
    | succ fu ih =>
      intro j hj hm H locs ls hW hS hl
      refine lv_iload_n hx hb dX6_hotPans_4 rfl (lv_at hl 2 rfl) ?_
      refine lv_aload_n hx hb dX6_hotPans_5 rfl (lv_at hl 0 rfl) ?_
      refine q_get hx hb hts hown hA hW iX6 kO_0 rfl 4 (by decide) (hts (.fieldLink RX6 34 "HighRecipes$Kitchen" "book" "LHighRecipes$Book;") (by decide +kernel)) (fun _ h9 => h9) (v := .ref bk) rfl dX6_hotPans_6 ?_
      refine q_getN hx hb hts hown hA hW iX2 ((kO_out hbo).trans hB) rfl 4 (by decide) (va_Nw.use rfl (hA.2.2.2.1 ("HighRecipes$Kitchen", 55, "HighRecipes$Book", "panCount", "I", "HighRecipes") (by decide +kernel))) (fun _ h9 => h9) (v := .int (nI pn)) rfl dX6_hotPans_9 ?_
      refine lv_icmp_ge (tgt := 43) hx hb dX6_hotPans_12 (by decide) (fun c_12 => ?_) (fun c_12 => ?_)
      · have ej : j = pn := by rcases Nat.lt_or_ge j pn with h9 | h9; exact absurd c_12 (nI_ge h9 (by omega)); omega
        subst ej
        refine lv_iload_n hx hb dX6_hotPans_43 rfl (lv_at hl 1 rfl) ?_
        exact q_iret hx hb hr hlocks hW hS ⟨rfl, hk.eq, rfl⟩ (Nat.le_of_ble_eq_true rfl) (Nat.le_of_ble_eq_true rfl) dX6_hotPans_44
      · have hlt : j < pn := by rcases Nat.lt_or_ge j pn with h9 | h9; exact h9; exact absurd (nI_le h9 (by omega)) c_12
        refine lv_aload_n hx hb dX6_hotPans_15 rfl (lv_at hl 0 rfl) ?_
        refine lv_iload_n hx hb dX6_hotPans_16 rfl (lv_at hl 2 rfl) ?_
        refine q_cq (va_runV (As := [.int (nI j)]) (rest := []) ⟨hx, hb, hml, hown, hts⟩ (kX6_panAt l E (kO E f k bk hd v) n k bk hd v pn rc ac j ((kO_out hbo).trans hB) kO_K (by assumption) (by assumption) hlt) (cwV 1 hts gX6_hotPans_X6_panAt rfl rfl rfl (by decide +kernel) ⟨(Nat.le_of_ble_eq_true rfl), (Nat.le_of_ble_eq_true rfl)⟩) (q_pV hA hW hS (ci := 6) rfl kO_0) rfl rfl hl.1 rfl (lv_room (Nat.le_of_ble_eq_true rfl)) dX6_hotPans_17 ⟨Nat.le_of_ble_eq_true rfl, Nat.le_of_ble_eq_true rfl⟩) hS (fun r_17 f_17 n_17 H locs hp hW hS => ?_)
        obtain ⟨rfl, rfl, rfl⟩ := hp
        have hW : q_W E (kO E f k bk hd v) n H := hW
        refine lv_astore_n (lv' := [(3, .ref (k + 12 + j)), (0, .ref k), (1, .int (z_hot v j)), (2, .int (nI j))]) hx hb dX6_hotPans_20 rfl hl (by decide) rfl (fun ls hl => ?_)
        refine lv_aload_n hx hb dX6_hotPans_21 rfl (lv_at hl 0 rfl) ?_
        refine lv_ifnull hx hb dX6_hotPans_22 ?_
        refine lv_aload_n hx hb dX6_hotPans_25 rfl (lv_at hl 0 rfl) ?_
        refine q_getN hx hb hts hown hA hW iX7 (kO_p (by omega)) rfl 3 (by decide) (va_Nw.use rfl (hA.2.2.2.1 ("HighRecipes$Kitchen", 77, "HighRecipes$Pan", "heat", "I", "HighRecipes") (by decide +kernel))) (fun _ h9 => h9) (v := .int (v (54 + 4 * j))) rfl dX6_hotPans_26 ?_
        refine lv_bipush (v := 20) hx hb dX6_hotPans_29 (by decide) ?_
        refine lv_icmp_le (tgt := 37) hx hb dX6_hotPans_31 (by decide) (fun c_31 => ?_) (fun c_31 => ?_)
        · have eh : z_hot v j = z_hot v (j + 1) := (if_neg (q_nlt2 c_31)).symm
          rw [eh] at hl
          refine lv_iinc (v := nI (j + 1)) (lv' := [(2, .int (nI (j + 1))), (3, .ref (k + 12 + j)), (0, .ref k), (1, .int (z_hot v (j + 1)))]) hx hb dX6_hotPans_37 hl (k := 3) rfl (nI_1 j) (by decide) rfl (fun ls hl => ?_)
          refine lv_goto (tgt := 4) hx hb dX6_hotPans_40 (by decide) ?_
          exact ih (j + 1) hlt (by omega) _ _ _ hW hS (lv_sub hl [2, 3, 0] rfl)
        · refine lv_iinc (v := z_hot v (j + 1)) (lv' := [(1, .int (z_hot v (j + 1))), (3, .ref (k + 12 + j)), (0, .ref k), (2, .int (nI j))]) hx hb dX6_hotPans_34 hl (k := 2) rfl ((if_pos (q_nle2 c_31)).symm) (by decide) rfl (fun ls hl => ?_)
          refine lv_iinc (v := nI (j + 1)) (lv' := [(2, .int (nI (j + 1))), (1, .int (z_hot v (j + 1))), (3, .ref (k + 12 + j)), (0, .ref k)]) hx hb dX6_hotPans_37 hl (k := 3) rfl (nI_1 j) (by decide) rfl (fun ls hl => ?_)
          refine lv_goto (tgt := 4) hx hb dX6_hotPans_40 (by decide) ?_
          exact ih (j + 1) hlt (by omega) _ _ _ hW hS (lv_sub hl [3, 1, 0] rfl)
  exact K4 _ 0 (Nat.zero_le _) (Nat.lt_succ_self _) _ _ _ hW hS (lv_sub hl [2, 1, 0] rfl)

