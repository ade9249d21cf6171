/-! THE REFERENCE: 44 addresses from m on; its numbers are rows r: r j is the row at m + j (42: the kitchen's own row), r 100 .. its scalars, r 120 .. those of the book told, r 130 .. of the fresh one (each at 0) -/
abbrev q_R : Type := Nat → Nat → Int32
def rp (r : q_R) (j : Nat) (g : Nat → Int32) : q_R := fun k => if k = j then g else r k
def rN (j : Nat) : Nat := if j = 1 then 1600 else if j = 2 then 402 else if j = 3 then 402 else if j = 4 then 402 else if j = 5 then 402 else if j = 6 then 8 else if j = 7 then 6 else if j = 9 then 9 else if j = 10 then 7 else if j = 11 then 81 else if j = 12 then 81 else if j = 13 then 81 else if j = 14 then 81 else if j = 15 then 81 else if j = 16 then 81 else if j = 17 then 81 else if j = 18 then 81 else if j = 19 then 400 else if j = 20 then 400 else if j = 21 then 400 else if j = 22 then 400 else if j = 23 then 400 else if j = 24 then 400 else if j = 26 then 9 else if j = 27 then 7 else if j = 28 then 81 else if j = 29 then 81 else if j = 30 then 81 else if j = 31 then 81 else if j = 32 then 81 else if j = 33 then 81 else if j = 34 then 81 else if j = 35 then 81 else if j = 36 then 400 else if j = 37 then 400 else if j = 38 then 400 else if j = 39 then 400 else if j = 40 then 400 else if j = 41 then 400 else if j = 42 then 84 else if j = 43 then 84 else 0
def rAr (j : Nat) : Bool := decide (j < 44) && !decide (j = 0) && !decide (j = 8) && !decide (j = 25)
abbrev cMod (m : Nat) (r : q_R) : va_E := .inr (12, [.int (r 100 0), .ref (m + 1), .int (r 101 0), .int (r 102 0), .ref (m + 2), .ref (m + 3), .ref (m + 4), .ref (m + 5), .int (r 103 0), .int (r 104 0), .int (r 105 0), .int (r 106 0), .int (r 107 0), .int (r 108 0), .ref (m + 6), .ref (m + 7), .int (r 109 0), .ref (m + 8), .ref (m + 25), .ref (m + 42), .ref (m + 43), .int (r 110 0), .int (r 111 0)])
abbrev cMB (b : Nat) (r : q_R) (k : Nat) : va_E := .inr (11, [.int (r k 0), .ref (b + 1), .int (r (k + 1) 0), .ref (b + 2), .int (r (k + 2) 0), .ref (b + 3), .ref (b + 4), .ref (b + 5), .ref (b + 6), .ref (b + 7), .ref (b + 8), .ref (b + 9), .ref (b + 10), .int (r (k + 3) 0), .ref (b + 11), .ref (b + 12), .ref (b + 13), .int (r (k + 4) 0), .ref (b + 14), .ref (b + 15), .ref (b + 16)])
def mRc (E : q_E) (m : Nat) (r : q_R) (j : Nat) : va_E := if j = 0 then cMod m r else if j = 8 then cMB (m + 8) r 120 else if j = 25 then cMB (m + 25) r 130 else aI E (rN j) (r j)
def rO (E : q_E) (f : q_H) (m : Nat) (r : q_R) : q_H := fun q => if m ≤ q ∧ q < m + 44 then some (mRc E m r (q - m)) else f q
def RM (E : q_E) (f : q_H) (m : Nat) (r : q_R) : Prop := ∀ j, j < 44 → f (m + j) = some (mRc E m r j)
section RO
variable {E : q_E} {f : q_H} {m n : Nat} {r r' : q_R} {H : Heap}
theorem RM.eq (h : RM E f m r) : f = rO E f m r := by
  funext q
  unfold rO
  split
  · next h1 =>
      have := h (q - m) (by omega)
      rw [show m + (q - m) = q by omega] at this
      exact this
  · rfl
theorem rO_at {j : Nat} (h : j < 44) : rO E f m r (m + j) = some (mRc E m r j) := by
  unfold rO
  rw [if_pos (by omega), Nat.add_sub_cancel_left]
theorem rO_K : RM E (rO E f m r) m r := fun j h => rO_at h
theorem rO_out {q : Nat} (h : q < m ∨ m + 44 ≤ q) : rO E f m r q = f q := if_neg (by omega)
theorem rO_rO : rO E (rO E f m r) m r' = rO E f m r' := by
  funext q
  unfold rO
  split <;> rfl
theorem rO_iu {q : Nat} {x : Option va_E} (h : q < m ∨ m + 44 ≤ q) : va_up (rO E f m r) q x = rO E (va_up f q x) m r := by
  funext z
  unfold rO va_up
  by_cases e : z = q
  · rw [if_pos e, if_neg (by omega), if_pos e]
  · rw [if_neg e, if_neg e]
theorem RM.other {g : q_H} (h : RM E f m r) (hg : ∀ q, m ≤ q → q < m + 44 → g q = f q) : RM E g m r := fun j hj => (hg _ (by omega) (by omega)).trans (h j hj)
theorem rO_0 : rO E f m r m = some (cMod m r) := by
  have := rO_at (E := E) (f := f) (m := m) (r := r) (j := 0) (by decide)
  exact this
theorem rO_8 : rO E f m r (m + 8) = some (cMB (m + 8) r 120) := rO_at (by decide)
theorem rO_25 : rO E f m r (m + 25) = some (cMB (m + 25) r 130) := rO_at (by decide)
theorem mRc_ar {j : Nat} (h : rAr j = true) : mRc E m r j = aI E (rN j) (r j) := by
  have h1 : j < 44 ∧ j ≠ 0 ∧ j ≠ 8 ∧ j ≠ 25 := by simpa [rAr, and_assoc] using h
  unfold mRc
  rw [if_neg h1.2.1, if_neg h1.2.2.1, if_neg h1.2.2.2]
theorem rO_ar (j : Nat) (h : rAr j = true) {g : Nat → Int32} (e : r j = g) : rO E f m r (m + j) = some (aI E (rN j) g) := by
  have h1 : j < 44 ∧ j ≠ 0 ∧ j ≠ 8 ∧ j ≠ 25 := by simpa [rAr, and_assoc] using h
  rw [rO_at h1.1, mRc_ar h, e]
theorem rO_1 {g : Nat → Int32} (e : r 1 = g) : rO E f m r (m + 1) = some (aI E 1600 g) := rO_ar 1 rfl e
theorem rO_2 {g : Nat → Int32} (e : r 2 = g) : rO E f m r (m + 2) = some (aI E 402 g) := rO_ar 2 rfl e
theorem rO_3 {g : Nat → Int32} (e : r 3 = g) : rO E f m r (m + 3) = some (aI E 402 g) := rO_ar 3 rfl e
theorem rO_4 {g : Nat → Int32} (e : r 4 = g) : rO E f m r (m + 4) = some (aI E 402 g) := rO_ar 4 rfl e
theorem rO_5 {g : Nat → Int32} (e : r 5 = g) : rO E f m r (m + 5) = some (aI E 402 g) := rO_ar 5 rfl e
theorem rO_6 {g : Nat → Int32} (e : r 6 = g) : rO E f m r (m + 6) = some (aI E 8 g) := rO_ar 6 rfl e
theorem rO_7 {g : Nat → Int32} (e : r 7 = g) : rO E f m r (m + 7) = some (aI E 6 g) := rO_ar 7 rfl e
theorem rO_9 {g : Nat → Int32} (e : r 9 = g) : rO E f m r (m + 9) = some (aI E 9 g) := rO_ar 9 rfl e
theorem rO_10 {g : Nat → Int32} (e : r 10 = g) : rO E f m r (m + 10) = some (aI E 7 g) := rO_ar 10 rfl e
theorem rO_11 {g : Nat → Int32} (e : r 11 = g) : rO E f m r (m + 11) = some (aI E 81 g) := rO_ar 11 rfl e
theorem rO_12 {g : Nat → Int32} (e : r 12 = g) : rO E f m r (m + 12) = some (aI E 81 g) := rO_ar 12 rfl e
theorem rO_13 {g : Nat → Int32} (e : r 13 = g) : rO E f m r (m + 13) = some (aI E 81 g) := rO_ar 13 rfl e
theorem rO_14 {g : Nat → Int32} (e : r 14 = g) : rO E f m r (m + 14) = some (aI E 81 g) := rO_ar 14 rfl e
theorem rO_15 {g : Nat → Int32} (e : r 15 = g) : rO E f m r (m + 15) = some (aI E 81 g) := rO_ar 15 rfl e
theorem rO_16 {g : Nat → Int32} (e : r 16 = g) : rO E f m r (m + 16) = some (aI E 81 g) := rO_ar 16 rfl e
theorem rO_17 {g : Nat → Int32} (e : r 17 = g) : rO E f m r (m + 17) = some (aI E 81 g) := rO_ar 17 rfl e
theorem rO_18 {g : Nat → Int32} (e : r 18 = g) : rO E f m r (m + 18) = some (aI E 81 g) := rO_ar 18 rfl e
theorem rO_19 {g : Nat → Int32} (e : r 19 = g) : rO E f m r (m + 19) = some (aI E 400 g) := rO_ar 19 rfl e
theorem rO_20 {g : Nat → Int32} (e : r 20 = g) : rO E f m r (m + 20) = some (aI E 400 g) := rO_ar 20 rfl e
theorem rO_21 {g : Nat → Int32} (e : r 21 = g) : rO E f m r (m + 21) = some (aI E 400 g) := rO_ar 21 rfl e
theorem rO_22 {g : Nat → Int32} (e : r 22 = g) : rO E f m r (m + 22) = some (aI E 400 g) := rO_ar 22 rfl e
theorem rO_23 {g : Nat → Int32} (e : r 23 = g) : rO E f m r (m + 23) = some (aI E 400 g) := rO_ar 23 rfl e
theorem rO_24 {g : Nat → Int32} (e : r 24 = g) : rO E f m r (m + 24) = some (aI E 400 g) := rO_ar 24 rfl e
theorem rO_26 {g : Nat → Int32} (e : r 26 = g) : rO E f m r (m + 26) = some (aI E 9 g) := rO_ar 26 rfl e
theorem rO_27 {g : Nat → Int32} (e : r 27 = g) : rO E f m r (m + 27) = some (aI E 7 g) := rO_ar 27 rfl e
theorem rO_28 {g : Nat → Int32} (e : r 28 = g) : rO E f m r (m + 28) = some (aI E 81 g) := rO_ar 28 rfl e
theorem rO_29 {g : Nat → Int32} (e : r 29 = g) : rO E f m r (m + 29) = some (aI E 81 g) := rO_ar 29 rfl e
theorem rO_30 {g : Nat → Int32} (e : r 30 = g) : rO E f m r (m + 30) = some (aI E 81 g) := rO_ar 30 rfl e
theorem rO_31 {g : Nat → Int32} (e : r 31 = g) : rO E f m r (m + 31) = some (aI E 81 g) := rO_ar 31 rfl e
theorem rO_32 {g : Nat → Int32} (e : r 32 = g) : rO E f m r (m + 32) = some (aI E 81 g) := rO_ar 32 rfl e
theorem rO_33 {g : Nat → Int32} (e : r 33 = g) : rO E f m r (m + 33) = some (aI E 81 g) := rO_ar 33 rfl e
theorem rO_34 {g : Nat → Int32} (e : r 34 = g) : rO E f m r (m + 34) = some (aI E 81 g) := rO_ar 34 rfl e
theorem rO_35 {g : Nat → Int32} (e : r 35 = g) : rO E f m r (m + 35) = some (aI E 81 g) := rO_ar 35 rfl e
theorem rO_36 {g : Nat → Int32} (e : r 36 = g) : rO E f m r (m + 36) = some (aI E 400 g) := rO_ar 36 rfl e
theorem rO_37 {g : Nat → Int32} (e : r 37 = g) : rO E f m r (m + 37) = some (aI E 400 g) := rO_ar 37 rfl e
theorem rO_38 {g : Nat → Int32} (e : r 38 = g) : rO E f m r (m + 38) = some (aI E 400 g) := rO_ar 38 rfl e
theorem rO_39 {g : Nat → Int32} (e : r 39 = g) : rO E f m r (m + 39) = some (aI E 400 g) := rO_ar 39 rfl e
theorem rO_40 {g : Nat → Int32} (e : r 40 = g) : rO E f m r (m + 40) = some (aI E 400 g) := rO_ar 40 rfl e
theorem rO_41 {g : Nat → Int32} (e : r 41 = g) : rO E f m r (m + 41) = some (aI E 400 g) := rO_ar 41 rfl e
theorem rO_42 {g : Nat → Int32} (e : r 42 = g) : rO E f m r (m + 42) = some (aI E 84 g) := rO_ar 42 rfl e
theorem rO_43 {g : Nat → Int32} (e : r 43 = g) : rO E f m r (m + 43) = some (aI E 84 g) := rO_ar 43 rfl e
theorem rp_s {j : Nat} {g : Nat → Int32} : rp r j g j = g := if_pos rfl
theorem rp_n {j k : Nat} {g : Nat → Int32} (h : k ≠ j) : rp r j g k = r k := if_neg h
theorem rp_id {j : Nat} : rp r j (r j) = r := by
  funext k
  unfold rp
  split
  · next e => rw [e]
  · rfl
theorem rp_d0 {j : Nat} {g g' : Nat → Int32}  : rp (rp r j g) j g' = rp r j g' := by
  funext q
  unfold rp
  by_cases e : q = j
  · rw [if_pos e, if_pos e]
  · simp only [if_neg e]
theorem rp_d1 {j : Nat} {g g' : Nat → Int32} {k0 : Nat} {h0 : Nat → Int32} : rp (rp (rp r j g) k0 h0) j g' = rp (rp r k0 h0) j g' := by
  funext q
  unfold rp
  by_cases e : q = j
  · rw [if_pos e, if_pos e]
  · simp only [if_neg e]
theorem rp_d2 {j : Nat} {g g' : Nat → Int32} {k0 : Nat} {h0 : Nat → Int32} {k1 : Nat} {h1 : Nat → Int32} : rp (rp (rp (rp r j g) k0 h0) k1 h1) j g' = rp (rp (rp r k0 h0) k1 h1) j g' := by
  funext q
  unfold rp
  by_cases e : q = j
  · rw [if_pos e, if_pos e]
  · simp only [if_neg e]
theorem rp_d3 {j : Nat} {g g' : Nat → Int32} {k0 : Nat} {h0 : Nat → Int32} {k1 : Nat} {h1 : Nat → Int32} {k2 : Nat} {h2 : Nat → Int32} : rp (rp (rp (rp (rp r j g) k0 h0) k1 h1) k2 h2) j g' = rp (rp (rp (rp r k0 h0) k1 h1) k2 h2) j g' := by
  funext q
  unfold rp
  by_cases e : q = j
  · rw [if_pos e, if_pos e]
  · simp only [if_neg e]
theorem rp_d4 {j : Nat} {g g' : Nat → Int32} {k0 : Nat} {h0 : Nat → Int32} {k1 : Nat} {h1 : Nat → Int32} {k2 : Nat} {h2 : Nat → Int32} {k3 : Nat} {h3 : Nat → Int32} : rp (rp (rp (rp (rp (rp r j g) k0 h0) k1 h1) k2 h2) k3 h3) j g' = rp (rp (rp (rp (rp r k0 h0) k1 h1) k2 h2) k3 h3) j g' := by
  funext q
  unfold rp
  by_cases e : q = j
  · rw [if_pos e, if_pos e]
  · simp only [if_neg e]
theorem rp_d5 {j : Nat} {g g' : Nat → Int32} {k0 : Nat} {h0 : Nat → Int32} {k1 : Nat} {h1 : Nat → Int32} {k2 : Nat} {h2 : Nat → Int32} {k3 : Nat} {h3 : Nat → Int32} {k4 : Nat} {h4 : Nat → Int32} : rp (rp (rp (rp (rp (rp (rp r j g) k0 h0) k1 h1) k2 h2) k3 h3) k4 h4) j g' = rp (rp (rp (rp (rp (rp r k0 h0) k1 h1) k2 h2) k3 h3) k4 h4) j g' := by
  funext q
  unfold rp
  by_cases e : q = j
  · rw [if_pos e, if_pos e]
  · simp only [if_neg e]
theorem rp_d6 {j : Nat} {g g' : Nat → Int32} {k0 : Nat} {h0 : Nat → Int32} {k1 : Nat} {h1 : Nat → Int32} {k2 : Nat} {h2 : Nat → Int32} {k3 : Nat} {h3 : Nat → Int32} {k4 : Nat} {h4 : Nat → Int32} {k5 : Nat} {h5 : Nat → Int32} : rp (rp (rp (rp (rp (rp (rp (rp r j g) k0 h0) k1 h1) k2 h2) k3 h3) k4 h4) k5 h5) j g' = rp (rp (rp (rp (rp (rp (rp r k0 h0) k1 h1) k2 h2) k3 h3) k4 h4) k5 h5) j g' := by
  funext q
  unfold rp
  by_cases e : q = j
  · rw [if_pos e, if_pos e]
  · simp only [if_neg e]
theorem rp_d7 {j : Nat} {g g' : Nat → Int32} {k0 : Nat} {h0 : Nat → Int32} {k1 : Nat} {h1 : Nat → Int32} {k2 : Nat} {h2 : Nat → Int32} {k3 : Nat} {h3 : Nat → Int32} {k4 : Nat} {h4 : Nat → Int32} {k5 : Nat} {h5 : Nat → Int32} {k6 : Nat} {h6 : Nat → Int32} : rp (rp (rp (rp (rp (rp (rp (rp (rp r j g) k0 h0) k1 h1) k2 h2) k3 h3) k4 h4) k5 h5) k6 h6) j g' = rp (rp (rp (rp (rp (rp (rp (rp r k0 h0) k1 h1) k2 h2) k3 h3) k4 h4) k5 h5) k6 h6) j g' := by
  funext q
  unfold rp
  by_cases e : q = j
  · rw [if_pos e, if_pos e]
  · simp only [if_neg e]
theorem rp_d8 {j : Nat} {g g' : Nat → Int32} {k0 : Nat} {h0 : Nat → Int32} {k1 : Nat} {h1 : Nat → Int32} {k2 : Nat} {h2 : Nat → Int32} {k3 : Nat} {h3 : Nat → Int32} {k4 : Nat} {h4 : Nat → Int32} {k5 : Nat} {h5 : Nat → Int32} {k6 : Nat} {h6 : Nat → Int32} {k7 : Nat} {h7 : Nat → Int32} : rp (rp (rp (rp (rp (rp (rp (rp (rp (rp r j g) k0 h0) k1 h1) k2 h2) k3 h3) k4 h4) k5 h5) k6 h6) k7 h7) j g' = rp (rp (rp (rp (rp (rp (rp (rp (rp r k0 h0) k1 h1) k2 h2) k3 h3) k4 h4) k5 h5) k6 h6) k7 h7) j g' := by
  funext q
  unfold rp
  by_cases e : q = j
  · rw [if_pos e, if_pos e]
  · simp only [if_neg e]
theorem rp_d9 {j : Nat} {g g' : Nat → Int32} {k0 : Nat} {h0 : Nat → Int32} {k1 : Nat} {h1 : Nat → Int32} {k2 : Nat} {h2 : Nat → Int32} {k3 : Nat} {h3 : Nat → Int32} {k4 : Nat} {h4 : Nat → Int32} {k5 : Nat} {h5 : Nat → Int32} {k6 : Nat} {h6 : Nat → Int32} {k7 : Nat} {h7 : Nat → Int32} {k8 : Nat} {h8 : Nat → Int32} : rp (rp (rp (rp (rp (rp (rp (rp (rp (rp (rp r j g) k0 h0) k1 h1) k2 h2) k3 h3) k4 h4) k5 h5) k6 h6) k7 h7) k8 h8) j g' = rp (rp (rp (rp (rp (rp (rp (rp (rp (rp r k0 h0) k1 h1) k2 h2) k3 h3) k4 h4) k5 h5) k6 h6) k7 h7) k8 h8) j g' := by
  funext q
  unfold rp
  by_cases e : q = j
  · rw [if_pos e, if_pos e]
  · simp only [if_neg e]
theorem rp_d10 {j : Nat} {g g' : Nat → Int32} {k0 : Nat} {h0 : Nat → Int32} {k1 : Nat} {h1 : Nat → Int32} {k2 : Nat} {h2 : Nat → Int32} {k3 : Nat} {h3 : Nat → Int32} {k4 : Nat} {h4 : Nat → Int32} {k5 : Nat} {h5 : Nat → Int32} {k6 : Nat} {h6 : Nat → Int32} {k7 : Nat} {h7 : Nat → Int32} {k8 : Nat} {h8 : Nat → Int32} {k9 : Nat} {h9 : Nat → Int32} : rp (rp (rp (rp (rp (rp (rp (rp (rp (rp (rp (rp r j g) k0 h0) k1 h1) k2 h2) k3 h3) k4 h4) k5 h5) k6 h6) k7 h7) k8 h8) k9 h9) j g' = rp (rp (rp (rp (rp (rp (rp (rp (rp (rp (rp r k0 h0) k1 h1) k2 h2) k3 h3) k4 h4) k5 h5) k6 h6) k7 h7) k8 h8) k9 h9) j g' := by
  funext q
  unfold rp
  by_cases e : q = j
  · rw [if_pos e, if_pos e]
  · simp only [if_neg e]
theorem rp_d11 {j : Nat} {g g' : Nat → Int32} {k0 : Nat} {h0 : Nat → Int32} {k1 : Nat} {h1 : Nat → Int32} {k2 : Nat} {h2 : Nat → Int32} {k3 : Nat} {h3 : Nat → Int32} {k4 : Nat} {h4 : Nat → Int32} {k5 : Nat} {h5 : Nat → Int32} {k6 : Nat} {h6 : Nat → Int32} {k7 : Nat} {h7 : Nat → Int32} {k8 : Nat} {h8 : Nat → Int32} {k9 : Nat} {h9 : Nat → Int32} {k10 : Nat} {h10 : Nat → Int32} : rp (rp (rp (rp (rp (rp (rp (rp (rp (rp (rp (rp (rp r j g) k0 h0) k1 h1) k2 h2) k3 h3) k4 h4) k5 h5) k6 h6) k7 h7) k8 h8) k9 h9) k10 h10) j g' = rp (rp (rp (rp (rp (rp (rp (rp (rp (rp (rp (rp r k0 h0) k1 h1) k2 h2) k3 h3) k4 h4) k5 h5) k6 h6) k7 h7) k8 h8) k9 h9) k10 h10) j g' := by
  funext q
  unfold rp
  by_cases e : q = j
  · rw [if_pos e, if_pos e]
  · simp only [if_neg e]
theorem rp_d12 {j : Nat} {g g' : Nat → Int32} {k0 : Nat} {h0 : Nat → Int32} {k1 : Nat} {h1 : Nat → Int32} {k2 : Nat} {h2 : Nat → Int32} {k3 : Nat} {h3 : Nat → Int32} {k4 : Nat} {h4 : Nat → Int32} {k5 : Nat} {h5 : Nat → Int32} {k6 : Nat} {h6 : Nat → Int32} {k7 : Nat} {h7 : Nat → Int32} {k8 : Nat} {h8 : Nat → Int32} {k9 : Nat} {h9 : Nat → Int32} {k10 : Nat} {h10 : Nat → Int32} {k11 : Nat} {h11 : Nat → Int32} : rp (rp (rp (rp (rp (rp (rp (rp (rp (rp (rp (rp (rp (rp r j g) k0 h0) k1 h1) k2 h2) k3 h3) k4 h4) k5 h5) k6 h6) k7 h7) k8 h8) k9 h9) k10 h10) k11 h11) j g' = rp (rp (rp (rp (rp (rp (rp (rp (rp (rp (rp (rp (rp r k0 h0) k1 h1) k2 h2) k3 h3) k4 h4) k5 h5) k6 h6) k7 h7) k8 h8) k9 h9) k10 h10) k11 h11) j g' := by
  funext q
  unfold rp
  by_cases e : q = j
  · rw [if_pos e, if_pos e]
  · simp only [if_neg e]
theorem rp_d13 {j : Nat} {g g' : Nat → Int32} {k0 : Nat} {h0 : Nat → Int32} {k1 : Nat} {h1 : Nat → Int32} {k2 : Nat} {h2 : Nat → Int32} {k3 : Nat} {h3 : Nat → Int32} {k4 : Nat} {h4 : Nat → Int32} {k5 : Nat} {h5 : Nat → Int32} {k6 : Nat} {h6 : Nat → Int32} {k7 : Nat} {h7 : Nat → Int32} {k8 : Nat} {h8 : Nat → Int32} {k9 : Nat} {h9 : Nat → Int32} {k10 : Nat} {h10 : Nat → Int32} {k11 : Nat} {h11 : Nat → Int32} {k12 : Nat} {h12 : Nat → Int32} : rp (rp (rp (rp (rp (rp (rp (rp (rp (rp (rp (rp (rp (rp (rp r j g) k0 h0) k1 h1) k2 h2) k3 h3) k4 h4) k5 h5) k6 h6) k7 h7) k8 h8) k9 h9) k10 h10) k11 h11) k12 h12) j g' = rp (rp (rp (rp (rp (rp (rp (rp (rp (rp (rp (rp (rp (rp r k0 h0) k1 h1) k2 h2) k3 h3) k4 h4) k5 h5) k6 h6) k7 h7) k8 h8) k9 h9) k10 h10) k11 h11) k12 h12) j g' := by
  funext q
  unfold rp
  by_cases e : q = j
  · rw [if_pos e, if_pos e]
  · simp only [if_neg e]
theorem mRc_cong {j : Nat} (hj : j < 44) (h0 : j = 0 → ∀ i, 100 ≤ i → i < 120 → r i 0 = r' i 0) (h8 : j = 8 → ∀ i, 120 ≤ i → i < 125 → r i 0 = r' i 0) (h25 : j = 25 → ∀ i, 130 ≤ i → i < 135 → r i 0 = r' i 0) (ha : rAr j = true → r j = r' j) : mRc E m r j = mRc E m r' j := by
  by_cases e : rAr j = true
  · rw [mRc_ar e, mRc_ar e, ha e]
  · have e1 : j = 0 ∨ j = 8 ∨ j = 25 := by
      rcases Nat.decEq j 0 with a | a
      · rcases Nat.decEq j 8 with b | b
        · rcases Nat.decEq j 25 with c | c
          · exact absurd (by simp [rAr, hj, a, b, c]) e
          · exact Or.inr (Or.inr c)
        · exact Or.inr (Or.inl b)
      · exact Or.inl a
    rcases e1 with rfl | rfl | rfl
    · have z := h0 rfl
      show cMod m r = cMod m r'
      unfold cMod
      simp only [z 100 (by decide) (by decide), z 101 (by decide) (by decide), z 102 (by decide) (by decide), z 103 (by decide) (by decide), z 104 (by decide) (by decide), z 105 (by decide) (by decide), z 106 (by decide) (by decide), z 107 (by decide) (by decide), z 108 (by decide) (by decide), z 109 (by decide) (by decide), z 110 (by decide) (by decide), z 111 (by decide) (by decide)]
    · have z := h8 rfl
      show cMB (m + 8) r 120 = cMB (m + 8) r' 120
      unfold cMB
      simp only [z 120 (by decide) (by decide), z 121 (by decide) (by decide), z 122 (by decide) (by decide), z 123 (by decide) (by decide), z 124 (by decide) (by decide), Nat.reduceAdd]
    · have z := h25 rfl
      show cMB (m + 25) r 130 = cMB (m + 25) r' 130
      unfold cMB
      simp only [z 130 (by decide) (by decide), z 131 (by decide) (by decide), z 132 (by decide) (by decide), z 133 (by decide) (by decide), z 134 (by decide) (by decide), Nat.reduceAdd]
theorem rO_upd {j k : Nat} {g : Nat → Int32} {e : va_E} (hk : k < 44) (he : e = mRc E m (rp r j g) k) (ho : ∀ i, i < 44 → i ≠ k → mRc E m (rp r j g) i = mRc E m r i) : va_up (rO E f m r) (m + k) (some e) = rO E f m (rp r j g) := by
  funext q
  by_cases hq : q = m + k
  · subst hq
    rw [va_up_self, rO_at hk, he]
  · rw [va_up_ne _ _ hq]
    unfold rO
    by_cases h1 : m ≤ q ∧ q < m + 44
    · rw [if_pos h1, if_pos h1, ho (q - m) (by omega) (by omega)]
    · rw [if_neg h1, if_neg h1]
theorem q_s0 {L : List Value} (j : Nat) (x : Int32) (h : q_W E (va_up (rO E f m r) m (some (.inr (12, L)))) n H) (e : (Sum.inr (12, L) : va_E) = cMod m (rp r j (fun _ => x))) (hj : 100 ≤ j ∧ j < 120) : q_W E (rO E f m (rp r j (fun _ => x))) n H := by
  have z := rO_upd (E := E) (f := f) (m := m) (r := r) (j := j) (k := 0) (g := fun _ => x) (by decide) e (fun i h1 h2 => mRc_cong h1 (fun z => absurd z h2) (fun z i a b => congrFun (rp_n (by omega)) 0) (fun z i a b => congrFun (rp_n (by omega)) 0) (fun z => rp_n (by have : i < 44 := h1; omega)))
  rw [← z]
  exact h
theorem q_s8 {L : List Value} (j : Nat) (x : Int32) (h : q_W E (va_up (rO E f m r) (m + 8) (some (.inr (11, L)))) n H) (e : (Sum.inr (11, L) : va_E) = cMB (m + 8) (rp r j (fun _ => x)) 120) (hj : 120 ≤ j ∧ j < 125) : q_W E (rO E f m (rp r j (fun _ => x))) n H := by
  have z := rO_upd (E := E) (f := f) (m := m) (r := r) (j := j) (k := 8) (g := fun _ => x) (by decide) e (fun i h1 h2 => mRc_cong h1 (fun z i a b => congrFun (rp_n (by omega)) 0) (fun z => absurd z h2) (fun z i a b => congrFun (rp_n (by omega)) 0) (fun z => rp_n (by have : i < 44 := h1; omega)))
  rw [← z]
  exact h
theorem q_s25 {L : List Value} (j : Nat) (x : Int32) (h : q_W E (va_up (rO E f m r) (m + 25) (some (.inr (11, L)))) n H) (e : (Sum.inr (11, L) : va_E) = cMB (m + 25) (rp r j (fun _ => x)) 130) (hj : 130 ≤ j ∧ j < 135) : q_W E (rO E f m (rp r j (fun _ => x))) n H := by
  have z := rO_upd (E := E) (f := f) (m := m) (r := r) (j := j) (k := 25) (g := fun _ => x) (by decide) e (fun i h1 h2 => mRc_cong h1 (fun z i a b => congrFun (rp_n (by omega)) 0) (fun z i a b => congrFun (rp_n (by omega)) 0) (fun z => absurd z h2) (fun z => rp_n (by have : i < 44 := h1; omega)))
  rw [← z]
  exact h
theorem q_sa {N : Nat} {g : Nat → Int32} (j : Nat) (h : q_W E (va_up (rO E f m r) (m + j) (some (aI E N g))) n H) (hN : N = rN j) (hj : rAr j = true) : q_W E (rO E f m (rp r j g)) n H := by
  have h1 : j < 44 ∧ j ≠ 0 ∧ j ≠ 8 ∧ j ≠ 25 := by simpa [rAr, and_assoc] using hj
  have z := rO_upd (E := E) (f := f) (m := m) (r := r) (j := j) (k := j) (g := g) (e := aI E N g) h1.1 (by rw [mRc_ar hj, rp_s, hN]) (fun i h3 h2 => mRc_cong h3 (fun z i a b => congrFun (rp_n (by omega)) 0) (fun z i a b => congrFun (rp_n (by omega)) 0) (fun z i a b => congrFun (rp_n (by omega)) 0) (fun z => rp_n h2))
  rw [← z]
  exact h
theorem arrV_cong {cI : ClassId} {N : Nat} {g g' : Nat → Value} (h : ∀ i, i < N → g i = g' i) : arrV cI N g = arrV cI N g' := by
  unfold arrV
  congr 1
  apply Array.ext
  · simp
  · intro i h1 h2
    simp at h1
    simp [h i h1]
/-- a row is the same to the heap as one that agrees within its length -/
theorem q_cg (j : Nat) {g g' : Nat → Int32} (h : q_W E (rO E f m (rp r j g)) n H) (hj : rAr j = true) (e : ∀ i, i < rN j → g i = g' i) : q_W E (rO E f m (rp r j g')) n H := by
  refine ⟨h.1, h.2.1, fun a c hc => ?_⟩
  by_cases ha : a = m + j
  · subst ha
    have h1 : j < 44 ∧ j ≠ 0 ∧ j ≠ 8 ∧ j ≠ 25 := by simpa [rAr, and_assoc] using hj
    rw [rO_ar j hj rp_s] at hc
    cases hc
    obtain ⟨z1, z2⟩ := h.2.2 (m + j) (aI E (rN j) g) (rO_ar j hj rp_s)
    refine ⟨z1, ?_⟩
    show H[m + j]? = some (vp_cell _ _)
    have z2 : H[m + j]? = some (vp_cell _ _) := z2
    rw [z2, vp_cell_i, vp_cell_i]
    congr 1
    exact arrV_cong (fun i hi => by rw [e i hi])
  · refine h.2.2 a c ?_
    rw [← hc]
    unfold rO
    by_cases hi : m ≤ a ∧ a < m + 44
    · rw [if_pos hi, if_pos hi]
      congr 1
      exact mRc_cong (by omega) (fun z i a b => (congrFun (rp_n (by have := (by simpa [rAr, and_assoc] using hj : j < 44 ∧ _); omega)) 0).trans (congrFun (rp_n (by have := (by simpa [rAr, and_assoc] using hj : j < 44 ∧ _); omega)) 0).symm) (fun z i a b => (congrFun (rp_n (by have := (by simpa [rAr, and_assoc] using hj : j < 44 ∧ _); omega)) 0).trans (congrFun (rp_n (by have := (by simpa [rAr, and_assoc] using hj : j < 44 ∧ _); omega)) 0).symm) (fun z i a b => (congrFun (rp_n (by have := (by simpa [rAr, and_assoc] using hj : j < 44 ∧ _); omega)) 0).trans (congrFun (rp_n (by have := (by simpa [rAr, and_assoc] using hj : j < 44 ∧ _); omega)) 0).symm) (fun z => (rp_n (by omega)).trans (rp_n (by omega)).symm)
    · rw [if_neg hi, if_neg hi]
theorem rO_cong (h : ∀ j, j < 44 → mRc E m r j = mRc E m r' j) : rO E f m r = rO E f m r' := by
  funext q
  unfold rO
  split
  · next h1 => rw [h (q - m) (by omega)]
  · rfl
theorem q_rr (j : Nat) {g : Nat → Int32} (h : q_W E (rO E f m r) n H) (e : r j = g) : q_W E (rO E f m (rp r j g)) n H := by
  rw [← e, rp_id]
  exact h
theorem q_sc (j : Nat) {x : Int32} (h : q_W E (rO E f m r) n H) (e : r j 0 = x) (hj : 100 ≤ j) : q_W E (rO E f m (rp r j (fun _ => x))) n H := by
  have z : ∀ i, r i 0 = rp r j (fun _ => x) i 0 := by
    intro i
    by_cases hi : i = j
    · rw [hi, rp_s, e]
    · rw [rp_n hi]
  rw [rO_cong (r' := r) (fun i hi => (mRc_cong hi (fun _ k _ _ => z k) (fun _ k _ _ => z k) (fun _ k _ _ => z k) (fun h9 => (rp_n (by omega)).symm)).symm)]
  exact h
/-- the state of cooking, in the rows -/
abbrev r_ks (r : q_R) (s : q_KS) : q_R := rp (rp (rp r 42 s.1) 110 (fun _ => nI s.2.1)) 111 (fun _ => s.2.2)
end RO
section RQ
variable {p : Program} {l : Launch} {e : Env} {R : Room} {s : State} {m : MethodId} {args : Array Value} {below : List Frame} {meth : Method} {c : Code} {H : Heap} {locs : List Loc} {cells slots : Nat} {Q : State → Prop}
variable {cc : ByteArray} {pc : Nat} {ls : Array Slot} {rest : List Value} {E : q_E} {f : q_H} {n a : Nat}
theorem q_ald (hx : p.tables.exec = Jvm.exec) (hb : c.code = cc) (hA : q_A E s) (hW : q_W E f n H) {N : Nat} {g : Nat → Int32} (he : f a = some (aI E N g)) {i : Int32} (j : Nat) (hi : i = nI j) (hj : j < N) (hN : N < 2 ^ 31) {x : Int32} (hv : g j = x) (hdg : decode cc pc = .ok (.iaload, 1))
    (kk : W p l e R s m args below meth c H locs cells slots Q (F0 m (pc + 1) ls (.int x :: rest))) : W p l e R s m args below meth c H locs cells slots Q (F0 m pc ls (.int i :: .ref a :: rest)) := by
  subst hi
  refine q_iald hx hb hA hW he (vp_in_nI hj hN) hdg ?_
  rw [nI_clamp (by omega), hv]
  exact kk
theorem q_ast (hx : p.tables.exec = Jvm.exec) (hb : c.code = cc) (hA : q_A E s) (hW : q_W E f n H) (hS : va_S (q_ge E) s.heap H locs) {N : Nat} {g : Nat → Int32} (he : f a = some (aI E N g)) {i x : Int32} (j : Nat) (hi : i = nI j) (hj : j < N) (hN : N < 2 ^ 31) (hdg : decode cc pc = .ok (.iastore, 1))
    (kk : ∀ (H1 : Heap) (locs1 : List Loc), q_W E (va_up f a (some (aI E N (upd g j x)))) n H1 → va_S (q_ge E) s.heap H1 locs1 → W p l e R s m args below meth c H1 locs1 cells slots Q (F0 m (pc + 1) ls rest)) : W p l e R s m args below meth c H locs cells slots Q (F0 m pc ls (.int x :: .int i :: .ref a :: rest)) := by
  subst hi
  refine q_iast hx hb hA hW hS he (vp_in_nI hj hN) hdg ?_
  rw [nI_clamp (by omega)]
  exact kk
end RQ
