/-! what the parts of whole say of the meaning, without the reference -/
def rN (j : Nat) : Nat := if j = 1 then 1600 else if j = 2 then 402 else if j = 3 then 402 else if j = 4 then 402 else if j = 5 then 402 else if j = 6 then 8 else if j = 7 then 6 else if j = 9 then 9 else if j = 10 then 7 else if j = 11 then 81 else if j = 12 then 81 else if j = 13 then 81 else if j = 14 then 81 else if j = 15 then 81 else if j = 16 then 81 else if j = 17 then 81 else if j = 18 then 81 else if j = 19 then 400 else if j = 20 then 400 else if j = 21 then 400 else if j = 22 then 400 else if j = 23 then 400 else if j = 24 then 400 else if j = 26 then 9 else if j = 27 then 7 else if j = 28 then 81 else if j = 29 then 81 else if j = 30 then 81 else if j = 31 then 81 else if j = 32 then 81 else if j = 33 then 81 else if j = 34 then 81 else if j = 35 then 81 else if j = 36 then 400 else if j = 37 then 400 else if j = 38 then 400 else if j = 39 then 400 else if j = 40 then 400 else if j = 41 then 400 else if j = 42 then 84 else if j = 43 then 84 else 0
section RO
variable {E : q_E} {f : q_H} {m n : Nat} {H : Heap}
end RO
section RQ
variable {p : Program} {l : Launch} {e : Env} {R : Room} {s : State} {m : MethodId} {args : Array Value} {below : List Frame} {meth : Method} {c : Code} {H : Heap} {locs : List Loc} {cells slots : Nat} {Q : State → Prop}
variable {cc : ByteArray} {pc : Nat} {ls : Array Slot} {rest : List Value} {E : q_E} {f : q_H} {n a : Nat}
end RQ
/-! the reference's kitchen -/
def b_in (x lo hi : Int32) : Bool := !decide (x < lo) && !decide (hi < x)
/-! the kitchen keeps to its bounds -/
def v_ok (pn : Nat) (hd v : q_V) : Prop := (∃ al, al ≤ 60 ∧ v 0 = nI al) ∧ (∃ sp, 1 ≤ sp ∧ sp ≤ 10 ∧ v 2 = nI sp) ∧ ∀ i, i < pn → ∃ a b h, v (52 + 4 * i) = nI a ∧ v (53 + 4 * i) = nI b ∧ hd i = nI h ∧ a + b ≤ h ∧ h ≤ 200
theorem v_ok_same {pn : Nat} {hd v w : q_V} (h : v_ok pn hd v) (h0 : w 0 = v 0) (h2 : w 2 = v 2) (hp : ∀ i, i < pn → w (52 + 4 * i) = v (52 + 4 * i) ∧ w (53 + 4 * i) = v (53 + 4 * i)) : v_ok pn hd w := by
  obtain ⟨⟨al, a1, a2⟩, ⟨sp, b1, b2, b3⟩, hq⟩ := h
  refine ⟨⟨al, a1, h0.trans a2⟩, ⟨sp, b1, b2, h2.trans b3⟩, fun i hi => ?_⟩
  obtain ⟨a, b, x, c1, c2, c3⟩ := hq i hi
  exact ⟨a, b, x, (hp i hi).1.trans c1, (hp i hi).2.trans c2, c3⟩
theorem v_ok_pan {pn : Nat} {hd v : q_V} {i : Nat} {a' b' c d : Int32} (h : v_ok pn hd v) (hp : ∃ a b x, a' = nI a ∧ b' = nI b ∧ hd i = nI x ∧ a + b ≤ x ∧ x ≤ 200) : v_ok pn hd (z_pan v i a' b' c d) := by
  obtain ⟨h0, h2, hq⟩ := h
  refine ⟨by rw [z_pan_n (by omega)]; exact h0, by rw [z_pan_n (by omega)]; exact h2, fun j hj => ?_⟩
  by_cases e : j = i
  · subst e
    rw [z_pan_0, z_pan_1]
    exact hp
  · rw [z_pan_n (by omega), z_pan_n (by omega)]
    exact hq j hj
theorem z_slow_n {al : Nat} (h : al ≤ 60) : z_slow (nI al) = nI (100 + 5 * (al / 3)) := by
  show nI 100 + nI 5 * (nI 100 - (nI 100 - nI al / nI 3)) = _
  rw [pk_div (by omega) (by decide) (by decide), pk_sub (by omega), pk_sub (by omega), pk_mul, nI_add]
  congr 1
  omega
theorem q_clamp_n {x : Int32} {N : Nat} (hN : N < 2 ^ 31) : ∃ t, t ≤ N ∧ q_clamp x 0 (nI N) = nI t := by
  unfold q_clamp q_max q_min
  by_cases h1 : x < nI N
  · rw [if_pos h1]
    by_cases h2 : (0 : Int32) < x
    · rw [if_pos h2]
      obtain ⟨j, hj, e⟩ := nI_of2 (M := nI N) (x := x) (nI_toInt hN) (Int32.not_lt.mpr (Int32.le_of_lt h2)) (Int32.le_of_lt h1)
      exact ⟨j, hj, e⟩
    · rw [if_neg h2]; exact ⟨0, Nat.zero_le _, nI_0.symm⟩
  · rw [if_neg h1]
    by_cases h2 : (0 : Int32) < nI N
    · rw [if_pos h2]; exact ⟨N, Nat.le_refl _, rfl⟩
    · rw [if_neg h2]; exact ⟨0, Nat.zero_le _, nI_0.symm⟩
theorem z_long_n {x : Int32} {al : Nat} (h : al ≤ 60) : ∃ t, t < 2 ^ 30 ∧ z_long (q_clamp x 0 999) (nI al) = nI t := by
  obtain ⟨t, ht, e⟩ := q_clamp_n (x := x) (N := 999) (by decide)
  have e : q_clamp x 0 999 = nI t := e
  refine ⟨(t * (100 + 5 * (al / 3)) + 99) / 100, ?_, ?_⟩
  · have : t * (100 + 5 * (al / 3)) ≤ 999 * 200 := Nat.mul_le_mul ht (by omega)
    omega
  · rw [e]
    unfold z_long
    rw [z_slow_n h, pk_mul]
    show (nI _ + nI 99) / nI 100 = _
    have : t * (100 + 5 * (al / 3)) ≤ 999 * 200 := Nat.mul_le_mul ht (by omega)
    rw [nI_add, pk_div (by omega) (by decide) (by decide)]
theorem z_add_n {h a b : Nat} {x : Int32} (hh : a + b ≤ h) (h2 : h ≤ 200) (h0 : 0 < z_add (nI h) (nI a) (nI b) x) : ∃ c, 1 ≤ c ∧ a + b + c ≤ h ∧ z_add (nI h) (nI a) (nI b) x = nI c := by
  unfold z_add at h0 ⊢
  rw [pk_sub (by omega), pk_sub (by omega)] at h0 ⊢
  unfold q_min at h0 ⊢
  by_cases h1 : nI (h - a - b) < x
  · rw [if_pos h1] at h0 ⊢
    refine ⟨h - a - b, ?_, by omega, rfl⟩
    rcases Nat.eq_zero_or_pos (h - a - b) with e | e
    · rw [e] at h0; exact absurd h0 (by decide)
    · exact e
  · rw [if_neg h1] at h0 ⊢
    obtain ⟨j, hj, e⟩ := nI_of2 (M := nI (h - a - b)) (x := x) (nI_toInt (by omega)) (Int32.not_lt.mpr (Int32.le_of_lt h0)) (Int32.not_lt.mp h1)
    refine ⟨j, ?_, by omega, e⟩
    rcases Nat.eq_zero_or_pos j with e2 | e2
    · rw [e, e2] at h0; exact absurd h0 (by decide)
    · exact e2
theorem v_ok_hz {pn : Nat} {hd v : q_V} (h : v_ok pn hd v) {i : Nat} (hi : i < pn) {x : Int32} : (0 < z_add (hd i) (v (52 + 4 * i)) (v (53 + 4 * i)) x → ¬ v (52 + 4 * i) + v (53 + 4 * i) + z_add (hd i) (v (52 + 4 * i)) (v (53 + 4 * i)) x = 0) ∧ (0 < z_add (hd i) (v (52 + 4 * i)) (v (53 + 4 * i)) x → ¬ v (53 + 4 * i) + z_add (hd i) (v (52 + 4 * i)) (v (53 + 4 * i)) x = 0) := by
  obtain ⟨a, b, y, e1, e2, e3, h1, h2⟩ := h.2.2 i hi
  rw [e1, e2, e3]
  refine ⟨fun h0 => ?_, fun h0 => ?_⟩
  · obtain ⟨c, c1, c2, c3⟩ := z_add_n h1 h2 h0
    rw [c3, nI_add, nI_add]
    exact nI_ne0 (by omega) (by omega)
  · obtain ⟨c, c1, c2, c3⟩ := z_add_n h1 h2 h0
    rw [c3, nI_add]
    exact nI_ne0 (by omega) (by omega)
theorem v_ok_fill {pn : Nat} {hd v : q_V} (h : v_ok pn hd v) {i : Nat} (hi : i < pn) {b x : Int32} : v_ok pn hd (z_fillv hd v i b x) := by
  obtain ⟨a, b', y, e1, e2, e3, h1, h2⟩ := h.2.2 i hi
  unfold z_fillv
  split
  · next h0 =>
    have h0' := h0
    rw [e1, e2, e3] at h0'
    obtain ⟨c, c1, c2, c3⟩ := z_add_n h1 h2 h0'
    split
    · refine v_ok_pan h ⟨a + c, b', y, ?_, e2, e3, by omega, h2⟩
      rw [e1, e2, e3, c3, nI_add]
    · refine v_ok_pan h ⟨a, b' + c, y, e1, ?_, e3, by omega, h2⟩
      rw [e1, e2, e3, c3, nI_add]
  · exact h
theorem v_ok_warn {pn : Nat} {hd v : q_V} {T kd : Nat} (h : v_ok pn hd v) (hk : kd < 6) : v_ok pn hd (z_warn v T kd) := by
  have : T % 20 < 20 := Nat.mod_lt _ (by decide)
  exact v_ok_same h (by unfold z_warn; rw [z_un (by omega), z_un (by omega), z_un (by omega)]) (by unfold z_warn; rw [z_un (by omega), z_un (by omega), z_un (by omega)]) (fun i _ => ⟨by unfold z_warn; rw [z_un (by omega), z_un (by omega), z_un (by omega)], by unfold z_warn; rw [z_un (by omega), z_un (by omega), z_un (by omega)]⟩)
theorem v_ok_note {pn : Nat} {hd v : q_V} {T : Nat} {x : Int32} (h : v_ok pn hd v) : v_ok pn hd (z_note v T x) := by
  have : T % 20 < 20 := Nat.mod_lt _ (by decide)
  exact v_ok_same h (by unfold z_note; rw [z_un (by omega), z_un (by omega)]) (by unfold z_note; rw [z_un (by omega), z_un (by omega)]) (fun i _ => ⟨by unfold z_note; rw [z_un (by omega), z_un (by omega)], by unfold z_note; rw [z_un (by omega), z_un (by omega)]⟩)
theorem z_pass_w {v : q_V} {mi : Int32} {but j q : Nat} (h3 : q ≠ 3) (h : ¬ (54 ≤ q ∧ q % 4 = 2)) : z_pass v mi but j q = v q := by
  unfold z_pass
  rw [if_neg h3, if_neg (by omega)]
theorem v_ok_pass {pn : Nat} {hd v : q_V} {mi : Int32} {but j : Nat} (h : v_ok pn hd v) : v_ok pn hd (z_pass v mi but j) :=
  v_ok_same h (z_pass_w (by omega) (by omega)) (z_pass_w (by omega) (by omega)) (fun i _ => ⟨z_pass_w (by omega) (by omega), z_pass_w (by omega) (by omega)⟩)
theorem v_ok_k {pn kd : Nat} {hd : q_V} {s : q_KS} (h : v_ok pn hd s.1) (hk : kd < 6) : v_ok pn hd (k_warn kd s).1 := v_ok_warn h hk
/-- S keeps the kitchen in its bounds -/
def v_good (pn : Nat) (S : q_S) : Prop := ∀ (hd : q_V) (s : q_KS), v_ok pn hd s.1 → v_ok pn hd (S hd s).1
theorem v_good_pour {pn i : Nat} {b : Int32} {D : q_D} (hi : i < pn) : v_good pn (k_pour pn i b D) := by
  intro hd s h
  refine v_ok_pass (v := (k_pour2 hd i b (z_tr s.1 (D hd s.1)) s).1) ?_
  unfold k_pour2
  split
  · exact v_ok_k (s := (z_fillv hd s.1 i b _, s.2.1, s.2.2)) (v_ok_fill h hi) (by decide)
  · exact v_ok_fill h hi
theorem v_pan_same {pn i : Nat} {hd v : q_V} {c d : Int32} (h : v_ok pn hd v) (hi : i < pn) : v_ok pn hd (z_pan v i (v (52 + 4 * i)) (v (53 + 4 * i)) c d) := v_ok_pan h (h.2.2 i hi)
theorem v_good_heat {pn i : Nat} {D : q_D} (hi : i < pn) : v_good pn (k_heat pn i D) := by
  intro hd s h
  have H2 : ∀ (to : Int32) (s : q_KS), v_ok pn hd s.1 → v_ok pn hd (k_heat2 pn i to s).1 := by
    intro to s h
    unfold k_heat2
    split
    · exact v_ok_pass (v_pan_same h hi)
    · exact h
  unfold k_heat
  split
  · exact v_ok_k h (by decide)
  · unfold k_heat1
    refine H2 _ _ ?_
    split
    · exact v_ok_k h (by decide)
    · exact h
theorem q_min_n {a b : Nat} (ha : a < 2 ^ 31) (hb : b < 2 ^ 31) : q_min (nI a) (nI b) = nI (min a b) := by
  unfold q_min
  by_cases h : b < a
  · rw [if_pos (nI_lt h ha), Nat.min_eq_right (Nat.le_of_lt h)]
  · rw [if_neg (nI_nlt (by omega) hb), Nat.min_eq_left (by omega)]
theorem v_good_boil {pn i : Nat} {D : q_D} (hi : i < pn) : v_good pn (k_boil pn i D) := by
  intro hd s h
  unfold k_boil
  split
  · exact v_ok_k h (by decide)
  · obtain ⟨⟨al, a1, a2⟩, -, hq⟩ := id h
    obtain ⟨t, t1, t2⟩ := z_long_n (x := D hd s.1) a1
    obtain ⟨a, b, y, e1, e2, e3, h1, h2⟩ := hq i hi
    unfold k_boil2 k_boil3
    have hs' : v_ok pn hd (if 5 * s.1 (52 + 4 * i) < z_long (q_clamp (D hd s.1) 0 999) (s.1 0) then k_warn 5 s else s).1 := by
      split
      · exact v_ok_k h (by decide)
      · exact h
    have hw : (if 5 * s.1 (52 + 4 * i) < z_long (q_clamp (D hd s.1) 0 999) (s.1 0) then k_warn 5 s else s).1 (52 + 4 * i) = nI a ∧ (if 5 * s.1 (52 + 4 * i) < z_long (q_clamp (D hd s.1) 0 999) (s.1 0) then k_warn 5 s else s).1 (53 + 4 * i) = nI b := by
      have : k_T s.1 % 20 < 20 := Nat.mod_lt _ (by decide)
      split
      · exact ⟨by show z_warn _ _ _ _ = _; unfold z_warn; rw [z_un (by omega), z_un (by omega), z_un (by omega)]; exact e1, by show z_warn _ _ _ _ = _; unfold z_warn; rw [z_un (by omega), z_un (by omega), z_un (by omega)]; exact e2⟩
      · exact ⟨e1, e2⟩
    refine v_ok_pass (v_ok_pan hs' ⟨a - min t (5 * a) / 5, b, y, ?_, hw.2, e3, by omega, h2⟩)
    rw [hw.1, e1, a2, t2, show (5 : Int32) = nI 5 from rfl, pk_mul, q_min_n (by omega) (by omega), pk_div (by omega) (by decide) (by decide), pk_sub (by omega)]
theorem v_good_iter {pn : Nat} {hd : q_V} {F : q_KS → q_KS} (hF : ∀ s, v_ok pn hd s.1 → v_ok pn hd (F s).1) : ∀ (j : Nat) (s : q_KS), v_ok pn hd s.1 → v_ok pn hd (k_iter F j s).1
  | 0, _, h => h
  | j + 1, s, h => v_good_iter hF j (F s) (hF s h)
theorem v_good_cons {pn : Nat} {S1 S2 : q_S} (h1 : v_good pn S1) (h2 : v_good pn S2) : v_good pn (k_cons S1 S2) := by
  intro hd s h
  unfold k_cons
  split
  · exact h2 hd _ (h1 hd (s.1, s.2.1 + 1, s.2.2) h)
  · exact h
/-! what acts are built of, whatever stands for them -/
def v_rel (pn : Nat) (hd hd' v v' : q_V) : Prop := (∀ i, i < pn → hd i = hd' i) ∧ (∀ q, q < 4 → v q = v' q) ∧ ∀ i, i < pn → v (52 + 4 * i) = v' (52 + 4 * i) ∧ v (53 + 4 * i) = v' (53 + 4 * i) ∧ v (54 + 4 * i) = v' (54 + 4 * i) ∧ v (55 + 4 * i) = v' (55 + 4 * i)
def dR (pn : Nat) (D : q_D) : Prop := ∀ hd hd' v v', v_rel pn hd hd' v v' → D hd v = D hd' v'
def cR (pn : Nat) (C : q_V → q_V → Bool) : Prop := ∀ hd hd' v v', v_rel pn hd hd' v v' → C hd v = C hd' v'
/-- a relation of two kitchens' warnings and notes -/
def x_ok (X : q_V → q_V → Prop) : Prop := (∀ v v' w w', X v v' → (∀ q, 4 ≤ q → q < 52 → w q = v q ∧ w' q = v' q) → X w w') ∧ (∀ v v' kd, kd < 6 → k_ok v → k_ok v' → X v v' → X (z_warn v (k_T v) kd) (z_warn v' (k_T v') kd)) ∧ (∀ v v' x, k_ok v → k_ok v' → X v v' → X (z_note v (k_N v) x) (z_note v' (k_N v') x))
def s_rel (X : q_V → q_V → Prop) (pn : Nat) (hd hd' : q_V) (s s' : q_KS) : Prop := v_rel pn hd hd' s.1 s'.1 ∧ X s.1 s'.1 ∧ s.2 = s'.2
theorem v_rel_hi {pn : Nat} {hd hd' v v' w w' : q_V} (h : v_rel pn hd hd' v v') (hw : ∀ q, q < 4 ∨ 52 ≤ q → w q = v q ∧ w' q = v' q) : v_rel pn hd hd' w w' := by
  have z := fun q hq => (hw q hq).1
  have z' := fun q hq => (hw q hq).2
  refine ⟨h.1, fun q hq => by rw [z q (by omega), z' q (by omega)]; exact h.2.1 q hq, fun i hi => ?_⟩
  rw [z _ (by omega), z _ (by omega), z _ (by omega), z _ (by omega), z' _ (by omega), z' _ (by omega), z' _ (by omega), z' _ (by omega)]
  exact h.2.2 i hi
theorem z_warn_n {v : q_V} {T kd q : Nat} (hk : kd < 6) (h : q < 4 ∨ 52 ≤ q) : z_warn v T kd q = v q := by
  have : T % 20 < 20 := Nat.mod_lt _ (by decide)
  unfold z_warn
  rw [z_un (by omega), z_un (by omega), z_un (by omega)]
theorem z_note_n {v : q_V} {T q : Nat} {x : Int32} (h : q < 4 ∨ 52 ≤ q) : z_note v T x q = v q := by
  have : T % 20 < 20 := Nat.mod_lt _ (by decide)
  unfold z_note
  rw [z_un (by omega), z_un (by omega)]
theorem s_rel_warn {X : q_V → q_V → Prop} (hX : x_ok X) {pn kd : Nat} {hd hd' : q_V} {s s' : q_KS} (hk : kd < 6) (h : s_rel X pn hd hd' s s') (o : k_ok s.1) (o' : k_ok s'.1) : s_rel X pn hd hd' (k_warn kd s) (k_warn kd s') := by
  refine ⟨v_rel_hi h.1 (fun q hq => ⟨z_warn_n hk hq, z_warn_n hk hq⟩), hX.2.1 _ _ kd hk o o' h.2.1, ?_⟩
  show (s.2.1, if s.2.2 < 0 then nI s.2.1 else s.2.2) = (s'.2.1, if s'.2.2 < 0 then nI s'.2.1 else s'.2.2)
  rw [h.2.2]
theorem x_lo {X : q_V → q_V → Prop} (hX : x_ok X) {v v' w w' : q_V} (h : X v v') (h1 : ∀ q, 4 ≤ q → q < 52 → w q = v q) (h2 : ∀ q, 4 ≤ q → q < 52 → w' q = v' q) : X w w' := hX.1 v v' w w' h (fun q a b => ⟨h1 q a b, h2 q a b⟩)
theorem s_rel_pass {X : q_V → q_V → Prop} (hX : x_ok X) {pn but : Nat} {mi : Int32} {hd hd' : q_V} {s s' : q_KS} (h : s_rel X pn hd hd' s s') : s_rel X pn hd hd' (k_pass pn mi but s) (k_pass pn mi but s') := by
  obtain ⟨⟨h1, h2, h3⟩, hx, he⟩ := h
  refine ⟨⟨h1, fun q hq => ?_, fun i hi => ?_⟩, x_lo hX hx (fun q a b => z_pass_lo (by omega) (by omega)) (fun q a b => z_pass_lo (by omega) (by omega)), he⟩
  · show z_pass s.1 mi but pn q = z_pass s'.1 mi but pn q
    by_cases e : q = 3
    · subst e
      unfold z_pass
      rw [if_pos rfl, if_pos rfl, h2 3 (by decide)]
    · rw [z_pass_w e (by omega), z_pass_w e (by omega)]
      exact h2 q hq
  · obtain ⟨a0, a1, a2, a3⟩ := h3 i hi
    refine ⟨?_, ?_, ?_, ?_⟩
    · show z_pass s.1 mi but pn _ = z_pass s'.1 mi but pn _
      rw [z_pass_w (by omega) (by omega), z_pass_w (by omega) (by omega), a0]
    · show z_pass s.1 mi but pn _ = z_pass s'.1 mi but pn _
      rw [z_pass_w (by omega) (by omega), z_pass_w (by omega) (by omega), a1]
    · show z_pass s.1 mi but pn _ = z_pass s'.1 mi but pn _
      unfold z_pass
      rw [if_neg (show ¬ 54 + 4 * i = 3 by omega), if_neg (show ¬ 54 + 4 * i = 3 by omega), a2]
    · show z_pass s.1 mi but pn _ = z_pass s'.1 mi but pn _
      rw [z_pass_w (by omega) (by omega), z_pass_w (by omega) (by omega), a3]
theorem s_rel_pan {X : q_V → q_V → Prop} (hX : x_ok X) {pn i : Nat} {a b c d a' b' c' d' : Int32} {hd hd' v v' : q_V} {u : Nat × Int32} (h : s_rel X pn hd hd' (v, u) (v', u)) (e0 : a = a') (e1 : b = b') (e2 : c = c') (e3 : d = d') : s_rel X pn hd hd' (z_pan v i a b c d, u) (z_pan v' i a' b' c' d', u) := by
  subst e0 e1 e2 e3
  obtain ⟨⟨h1, h2, h3⟩, hx, he⟩ := h
  refine ⟨⟨h1, fun q hq => ?_, fun j hj => ?_⟩, x_lo hX hx (fun q a b => z_pan_n (by omega)) (fun q a b => z_pan_n (by omega)), rfl⟩
  · show z_pan _ _ _ _ _ _ q = z_pan _ _ _ _ _ _ q
    rw [z_pan_n (by omega), z_pan_n (by omega)]
    exact h2 q hq
  · show z_pan _ _ _ _ _ _ _ = z_pan _ _ _ _ _ _ _ ∧ z_pan _ _ _ _ _ _ _ = z_pan _ _ _ _ _ _ _ ∧ z_pan _ _ _ _ _ _ _ = z_pan _ _ _ _ _ _ _ ∧ z_pan _ _ _ _ _ _ _ = z_pan _ _ _ _ _ _ _
    by_cases e : j = i
    · subst e
      rw [z_pan_0, z_pan_0, z_pan_1, z_pan_1, z_pan_2, z_pan_2, z_pan_3, z_pan_3]
      exact ⟨rfl, rfl, rfl, rfl⟩
    · rw [z_pan_n (by omega), z_pan_n (by omega), z_pan_n (by omega), z_pan_n (by omega), z_pan_n (by omega), z_pan_n (by omega), z_pan_n (by omega), z_pan_n (by omega)]
      exact h3 j hj
/-- all that is needed of an act: it keeps the kitchen's bounds, warns once at most, does not lose count, and does the same in kitchens that are alike -/
def s_act (pn : Nat) (S : q_S) : Prop := v_good pn S ∧ k_good S ∧ (∀ hd s, s.2.1 ≤ (S hd s).2.1) ∧ ∀ X, x_ok X → ∀ (B : Nat) (hd hd' : q_V) (s s' : q_KS), B ≤ 2 ^ 29 → k_inv1 B s → k_inv1 B s' → s_rel X pn hd hd' s s' → s_rel X pn hd hd' (S hd s) (S hd' s')
def s_blk (pn : Nat) (S : q_S) : Prop := v_good pn S ∧ k_goodB S ∧ (∀ hd s, s.2.1 ≤ (S hd s).2.1) ∧ (∀ hd s, 100 ≤ s.2.1 → S hd s = s) ∧ ∀ X, x_ok X → ∀ (B : Nat) (hd hd' : q_V) (s s' : q_KS), B ≤ 2 ^ 29 → k_inv B s → k_inv B s' → s_rel X pn hd hd' s s' → s_rel X pn hd hd' (S hd s) (S hd' s')
theorem s_ks {s s' : q_KS} (h : s.2 = s'.2) : s' = (s'.1, s.2) := by rw [h]
theorem z_tr_eq {v v' : q_V} {x : Int32} (h1 : v 1 = v' 1) (h2 : v 2 = v' 2) : z_tr v x = z_tr v' x := by unfold z_tr; rw [h1, h2]
theorem s_fill {X : q_V → q_V → Prop} (hX : x_ok X) {pn i : Nat} {b x x' : Int32} {hd hd' v v' : q_V} {u : Nat × Int32} (hi : i < pn) (hx : x = x') (h : s_rel X pn hd hd' (v, u) (v', u)) : s_rel X pn hd hd' (z_fillv hd v i b x, u) (z_fillv hd' v' i b x', u) := by
  subst hx
  obtain ⟨a0, a1, a2, a3⟩ := h.1.2.2 i hi
  have a0 : v (52 + 4 * i) = v' (52 + 4 * i) := a0
  have a1 : v (53 + 4 * i) = v' (53 + 4 * i) := a1
  have a2 : v (54 + 4 * i) = v' (54 + 4 * i) := a2
  have a3 : v (55 + 4 * i) = v' (55 + 4 * i) := a3
  have ah := h.1.1 i hi
  unfold z_fillv
  rw [← a0, ← a1, ← a2, ← a3, ← ah]
  split
  · split
    · exact s_rel_pan hX h rfl rfl rfl rfl
    · exact s_rel_pan hX h rfl rfl rfl rfl
  · exact h
theorem s_pour {pn i : Nat} {b : Int32} {D : q_D} (hi : i < pn) (hD : dR pn D) : s_act pn (k_pour pn i b D) := by
  refine ⟨v_good_pour hi, k_good_pour, fun hd s => ?_, fun X hX B hd hd' s s' hB h1 h1' hr => ?_⟩
  · show s.2.1 ≤ (k_pour2 hd i b (z_tr s.1 (D hd s.1)) s).2.1
    unfold k_pour2
    split <;> exact Nat.le_refl _
  · refine s_rel_pass hX (s := k_pour2 hd i b (z_tr s.1 (D hd s.1)) s) (s' := k_pour2 hd' i b (z_tr s'.1 (D hd' s'.1)) s') ?_
    have ex : z_tr s.1 (D hd s.1) = z_tr s'.1 (D hd' s'.1) := by
      rw [hD hd hd' s.1 s'.1 hr.1]
      exact z_tr_eq (hr.1.2.1 1 (by decide)) (hr.1.2.1 2 (by decide))
    obtain ⟨a0, a1, a2, a3⟩ := hr.1.2.2 i hi
    have ah := hr.1.1 i hi
    unfold k_pour2 z_frv
    rw [← ex, ← a0, ← a1, ← ah]
    have hf : s_rel X pn hd hd' (z_fillv hd s.1 i b (z_tr s.1 (D hd s.1)), s.2) (z_fillv hd' s'.1 i b (z_tr s.1 (D hd s.1)), s.2) := s_fill hX hi rfl (by have := hr; rw [s_ks hr.2.2] at this; exact this)
    have o : k_ok s.1 := h1.le.ok hB
    have o' : k_ok s'.1 := h1'.le.ok hB
    split
    · have := s_rel_warn hX (kd := 1) (by decide) hf (k_ok_of o (z_fillv_n (by omega)) (z_fillv_n (by omega))) (k_ok_of o' (z_fillv_n (by omega)) (z_fillv_n (by omega)))
      rw [hr.2.2] at this
      rw [hr.2.2]
      exact this
    · rw [hr.2.2] at hf
      rw [hr.2.2]
      exact hf
theorem s_heat2 {X : q_V → q_V → Prop} (hX : x_ok X) {pn i : Nat} {x x' : Int32} {hd hd' : q_V} {s s' : q_KS} (hi : i < pn) (hx : x = x') (hr : s_rel X pn hd hd' s s') : s_rel X pn hd hd' (k_heat2 pn i x s) (k_heat2 pn i x' s') := by
  subst hx
  obtain ⟨a0, a1, a2, a3⟩ := hr.1.2.2 i hi
  unfold k_heat2
  rw [← a0, ← a1, ← a2, ← a3]
  split
  · refine s_rel_pass hX (s := (z_pan s.1 i _ _ _ _, s.2)) (s' := (z_pan s'.1 i _ _ _ _, s'.2)) ?_
    rw [← hr.2.2]
    exact s_rel_pan hX (by have := hr; rw [s_ks hr.2.2] at this; exact this) rfl rfl rfl rfl
  · exact hr
theorem s_heat {pn i : Nat} {D : q_D} (hi : i < pn) (hD : dR pn D) : s_act pn (k_heat pn i D) := by
  refine ⟨v_good_heat hi, k_good_heat, fun hd s => ?_, fun X hX B hd hd' s s' hB h1 h1' hr => ?_⟩
  · unfold k_heat k_heat1 k_heat2
    split
    · exact Nat.le_refl _
    · split
      · split <;> exact Nat.le_refl _
      · split <;> exact Nat.le_refl _
  · obtain ⟨a0, a1, a2, a3⟩ := hr.1.2.2 i hi
    have o : k_ok s.1 := h1.le.ok hB
    have o' : k_ok s'.1 := h1'.le.ok hB
    unfold k_heat
    rw [← a0, ← a1, ← hD hd hd' s.1 s'.1 hr.1]
    split
    · exact s_rel_warn hX (by decide) hr o o'
    · unfold k_heat1
      rw [← hr.1.2.1 0 (by decide)]
      refine s_heat2 hX hi rfl ?_
      split
      · exact s_rel_warn hX (by decide) hr o o'
      · exact hr
theorem s_boil3 {X : q_V → q_V → Prop} (hX : x_ok X) {pn i : Nat} {x x' : Int32} {hd hd' : q_V} {s s' : q_KS} (hi : i < pn) (hx : x = x') (hr : s_rel X pn hd hd' s s') : s_rel X pn hd hd' (k_boil3 pn i x s) (k_boil3 pn i x' s') := by
  subst hx
  obtain ⟨a0, a1, a2, a3⟩ := hr.1.2.2 i hi
  unfold k_boil3
  rw [← a0, ← a1, ← a3, ← hr.1.2.1 0 (by decide)]
  refine s_rel_pass hX (s := (z_pan s.1 i _ _ _ _, s.2)) (s' := (z_pan s'.1 i _ _ _ _, s'.2)) ?_
  rw [← hr.2.2]
  exact s_rel_pan hX (by have := hr; rw [s_ks hr.2.2] at this; exact this) rfl rfl rfl rfl
theorem s_boil {pn i : Nat} {D : q_D} (hi : i < pn) (hD : dR pn D) : s_act pn (k_boil pn i D) := by
  refine ⟨v_good_boil hi, k_good_boil, fun hd s => ?_, fun X hX B hd hd' s s' hB h1 h1' hr => ?_⟩
  · unfold k_boil k_boil2 k_boil3
    split
    · exact Nat.le_refl _
    · split <;> exact Nat.le_refl _
  · obtain ⟨a0, a1, a2, a3⟩ := hr.1.2.2 i hi
    have o : k_ok s.1 := h1.le.ok hB
    have o' : k_ok s'.1 := h1'.le.ok hB
    unfold k_boil
    rw [← a0, ← a2, ← hr.1.2.1 0 (by decide), ← hD hd hd' s.1 s'.1 hr.1]
    split
    · exact s_rel_warn hX (by decide) hr o o'
    · unfold k_boil2
      rw [← a0]
      refine s_boil3 hX hi rfl ?_
      split
      · exact s_rel_warn hX (by decide) hr o o'
      · exact hr
theorem s_empty {pn i : Nat} (hi : i < pn) : s_act pn (k_empty pn i) := by
  refine ⟨fun hd s h => v_ok_pass (v_ok_pan h ?_), fun B hd s hB h => k_inv_pass (k_inv_same h.le (z_pan_n (by omega)) (z_pan_n (by omega)) rfl), fun hd s => Nat.le_refl _, fun X hX B hd hd' s s' hB h1 h1' hr => ?_⟩
  · obtain ⟨a, b, y, e1, e2, e3, h1, h2⟩ := h.2.2 i hi
    exact ⟨0, 0, y, nI_0.symm, nI_0.symm, e3, by omega, h2⟩
  · refine s_rel_pass hX (s := (z_pan s.1 i 0 0 20 0, s.2)) (s' := (z_pan s'.1 i 0 0 20 0, s'.2)) ?_
    rw [← hr.2.2]
    exact s_rel_pan hX (by have := hr; rw [s_ks hr.2.2] at this; exact this) rfl rfl rfl rfl
theorem s_rest {pn : Nat} {D : q_D} (hD : dR pn D) : s_act pn (k_rest pn D) := by
  refine ⟨fun hd s h => v_ok_pass h, fun B hd s hB h => k_inv_pass h.le, fun hd s => Nat.le_refl _, fun X hX B hd hd' s s' hB h1 h1' hr => ?_⟩
  unfold k_rest
  rw [← hD hd hd' s.1 s'.1 hr.1]
  exact s_rel_pass hX hr
theorem s_note {pn : Nat} {D : q_D} (hD : dR pn D) : s_act pn (k_note D) := by
  refine ⟨fun hd s h => v_ok_note h, fun B hd s hB h => k_inv_note hB h, fun hd s => Nat.le_refl _, fun X hX B hd hd' s s' hB h1 h1' hr => ?_⟩
  unfold k_note
  rw [← hD hd hd' s.1 s'.1 hr.1]
  exact ⟨v_rel_hi hr.1 (fun q hq => ⟨z_note_n hq, z_note_n hq⟩), hX.2.2 _ _ _ (h1.le.ok hB) (h1'.le.ok hB) hr.2.1, hr.2.2⟩
theorem s_nil {pn : Nat} : s_blk pn k_nil := ⟨fun _ _ h => h, fun _ _ _ _ h => h, fun _ _ => Nat.le_refl _, fun _ _ _ => rfl, fun _ _ _ _ _ _ _ _ _ _ h => h⟩
theorem k_inv_beg {B : Nat} {s : q_KS} (h : k_inv B s) (hb : s.2.1 < 100) : k_inv1 B (s.1, s.2.1 + 1, s.2.2) := by
  obtain ⟨a1, ⟨a2, a3⟩, a4, a5⟩ := h
  refine ⟨hb, ⟨a2, ?_⟩, a4, ?_⟩
  · show k_T s.1 + 101 ≤ B + (s.2.1 + 1)
    omega
  · show k_N s.1 + 101 ≤ B + (s.2.1 + 1)
    omega
theorem s_cons {pn : Nat} {S1 S2 : q_S} (h1 : s_act pn S1) (h2 : s_blk pn S2) : s_blk pn (k_cons S1 S2) := by
  refine ⟨v_good_cons h1.1 h2.1, k_good_cons h1.2.1 h2.2.1, fun hd s => ?_, fun hd s hb => ?_, fun X hX B hd hd' s s' hB i1 i1' hr => ?_⟩
  · unfold k_cons
    split
    · exact Nat.le_trans (Nat.le_succ _) (Nat.le_trans (h1.2.2.1 hd (s.1, s.2.1 + 1, s.2.2)) (h2.2.2.1 hd _))
    · exact Nat.le_refl _
  · unfold k_cons
    rw [if_neg (by omega)]
  · unfold k_cons
    have eb : s.2.1 = s'.2.1 := congrArg Prod.fst hr.2.2
    have ew : s.2.2 = s'.2.2 := congrArg Prod.snd hr.2.2
    rw [← eb, ← ew]
    split
    · next hb =>
      have j1 := k_inv_beg i1 hb
      have j1' : k_inv1 B (s'.1, s.2.1 + 1, s.2.2) := by rw [eb, ew]; exact k_inv_beg i1' (by rw [← eb]; exact hb)
      exact h2.2.2.2.2 X hX B hd hd' _ _ hB (h1.2.1 B hd _ hB j1) (h1.2.1 B hd' _ hB j1') (h1.2.2.2 X hX B hd hd' _ _ hB j1 j1' ⟨hr.1, hr.2.1, rfl⟩)
    · exact hr
theorem s_iter {pn : Nat} {F : q_S} (h : s_blk pn F) {X : q_V → q_V → Prop} (hX : x_ok X) {B : Nat} {hd hd' : q_V} (hB : B ≤ 2 ^ 29) : ∀ (j : Nat) (s s' : q_KS), k_inv B s → k_inv B s' → s_rel X pn hd hd' s s' → s_rel X pn hd hd' (k_iter (F hd) j s) (k_iter (F hd') j s')
  | 0, _, _, _, _, h => h
  | j + 1, s, s', i1, i2, hr => s_iter h hX hB j _ _ (h.2.1 B hd s hB i1) (h.2.1 B hd' s' hB i2) (h.2.2.2.2 X hX B hd hd' s s' hB i1 i2 hr)
theorem s_iter_b {pn : Nat} {F : q_S} (h : s_blk pn F) {hd : q_V} : ∀ (j : Nat) (s : q_KS), s.2.1 ≤ (k_iter (F hd) j s).2.1
  | 0, _ => Nat.le_refl _
  | j + 1, s => Nat.le_trans (h.2.2.1 hd s) (s_iter_b h j _)
theorem s_again {pn : Nat} {D : q_D} {F : q_S} (hD : dR pn D) (h : s_blk pn F) : s_act pn (k_again D F) := by
  refine ⟨fun hd s hv => v_good_iter (fun s hs => h.1 hd s hs) _ s hv, fun B hd s hB hi => k_good_iter (fun s hs => h.2.1 B hd s hB hs) _ s hi.le, fun hd s => s_iter_b h _ s, fun X hX B hd hd' s s' hB h1 h1' hr => ?_⟩
  unfold k_again
  rw [← hD hd hd' s.1 s'.1 hr.1]
  exact s_iter h hX hB _ s s' h1.le h1'.le hr
theorem s_if {pn : Nat} {C : q_V → q_V → Bool} {B1 B2 : q_S} (hC : cR pn C) (h1 : s_blk pn B1) (h2 : s_blk pn B2) : s_act pn (k_if C B1 B2) := by
  refine ⟨fun hd s hv => ?_, fun B hd s hB hi => ?_, fun hd s => ?_, fun X hX B hd hd' s s' hB i1 i1' hr => ?_⟩
  · unfold k_if
    split
    · exact h1.1 hd s hv
    · exact h2.1 hd s hv
  · unfold k_if
    split
    · exact h1.2.1 B hd s hB hi.le
    · exact h2.2.1 B hd s hB hi.le
  · unfold k_if
    split
    · exact h1.2.2.1 hd s
    · exact h2.2.2.1 hd s
  · unfold k_if
    rw [← hC hd hd' s.1 s'.1 hr.1]
    split
    · exact h1.2.2.2.2 X hX B hd hd' s s' hB i1.le i1'.le hr
    · exact h2.2.2.2.2 X hX B hd hd' s s' hB i1.le i1'.le hr
theorem s_blk_act {pn : Nat} {S : q_S} (h : s_blk pn S) : s_act pn S := ⟨h.1, fun B hd s hB hi => h.2.1 B hd s hB hi.le, h.2.2.1, fun X hX B hd hd' s s' hB i1 i1' hr => h.2.2.2.2 X hX B hd hd' s s' hB i1.le i1'.le hr⟩
/-- the greatest below k of which it is so, -1 if none is -/
def z_best (P : Nat → Bool) : Nat → Int32
  | 0 => -1
  | k + 1 => if P k = true then nI k else z_best P k

/-! the reference: how high, for how many; the mean heat; the checksum -/
def z_best1 (P : Nat → Bool) : Nat → Int32
  | 0 => -1
  | k + 1 => if P (k + 1) = true then nI (k + 1) else z_best1 P k
theorem z_move_lo {v : q_V} {to : Int32} {j q : Nat} (h0 : q ≠ 0) (h : ¬ (54 ≤ q ∧ q % 4 = 2)) : z_move v to j q = v q := z_move_n (i := 0) h0 (fun h9 => h ⟨h9.1, h9.2.1⟩)
theorem k_inv_up1 {BB : Nat} {v : q_V} {x : Int32} (h : k_inv BB (v, 0, (-1))) : k_inv BB (upd v 1 x, 0, (-1)) := k_inv_same (s' := (upd v 1 x, 0, (-1))) h (z_un (v := v) (x := x) (j := 1) (q := 4) (by decide)) (z_un (v := v) (x := x) (j := 1) (q := 5) (by decide)) rfl
theorem i_subm (k : Nat) : nI k + (-1) = nI k - 1 := by
  rw [Int32.sub_eq_add_neg]
theorem nI_pm (k : Nat) : nI (k + 1) - 1 = nI k := nI_pred k

section QDR
variable {p : Program} {l : Launch} {e : Env} {R : Room} {s : State} {m : MethodId} {args : Array Value} {below : List Frame} {meth : Method} {c : Code} {H : Heap} {locs : List Loc} {cells slots : Nat}
variable {cc : ByteArray} {pc : Nat} {ls : Array Slot} {E : q_E} {f : q_H} {n mc ms : Nat}
theorem q_dret {post : UInt64 → q_H → Nat → Prop} (hx : p.tables.exec = Jvm.exec) (hb : c.code = cc) (hr : meth.sig.returnType = some .double) (hlocks : meth.locks = false) (hW : q_W E f n H) (hS : va_S (q_ge E) s.heap H locs) {v : UInt64} (hp : post v f n) (h1 : cells ≤ mc) (h2 : slots ≤ ms) (hdg : decode cc pc = .ok (.dreturn, 1)) : W p l e R s m args below meth c H locs cells slots (MQ below (q_Qd E post) args s mc ms (q_ge E)) (F0 m pc ls [.double v]) :=
  W.widen h1 h2 (W.dret hx hb hr (fun t ht _ => ⟨⟨v, (f, n), rfl, hp, by show q_W E f n t.heap; rw [ht]; exact hW⟩, hS.F ht⟩) hS.2.2 hdg hlocks)
end QDR
def z_sum (v : q_V) : Nat → Int32
  | 0 => 0
  | j + 1 => z_sum v j + v (54 + 4 * j)
def z_mean (v : q_V) (pn : Nat) : UInt64 := if pn = 0 then FP.dconst0 else FP.ddiv (FP.i2d (z_sum v pn)) (FP.i2d (nI pn))
/-- the bits of a double, by their fields -/
def fl_G (N S E T : Nat) : Prop := N = (S * 2048 + E) * 2 ^ 52 + T ∧ S ≤ 1 ∧ E ≤ 2047 ∧ T < 2 ^ 52
theorem fl_tails : FP.Core.b64.tails = 2 ^ 52 := rfl
theorem fl_exps : FP.Core.b64.exps = 2048 := rfl
theorem fl_qmin : FP.Core.b64.qmin = -1074 := rfl
theorem fl_qmax : FP.Core.b64.qmax = 971 := rfl
theorem fl_asm (s : Bool) {E T : Nat} (hE : E ≤ 2047) (hT : T < 2 ^ 52) : ∃ S, fl_G (FP.Core.assemble FP.Core.b64 s E T) S E T := by
  refine ⟨s.toNat, ?_, by cases s <;> decide, hE, hT⟩
  unfold FP.Core.assemble
  rw [fl_tails, fl_exps]
/-- a number of the format, encoded -/
theorem fl_fin (s : Bool) {c : Nat} {q : Int} (hc : c < 2 ^ 53) (hq : q ≤ 971) : ∃ S E T, fl_G (FP.Core.encode FP.Core.b64 (.fin s c q)) S E T ∧ E < 2047 ∧ (2 ^ 52 ≤ c → E ≠ 0) := by
  by_cases h : c < FP.Core.b64.tails
  · have e : FP.Core.encode FP.Core.b64 (.fin s c q) = FP.Core.assemble FP.Core.b64 s 0 c := if_pos h
    rw [fl_tails] at h
    rw [e]
    obtain ⟨S, h1⟩ := fl_asm s (E := 0) (T := c) (by omega) h
    exact ⟨S, 0, c, h1, by omega, fun h9 => absurd h (by omega)⟩
  · have e : FP.Core.encode FP.Core.b64 (.fin s c q) = FP.Core.assemble FP.Core.b64 s ((q - FP.Core.b64.qmin).toNat + 1) (c - FP.Core.b64.tails) := if_neg h
    rw [fl_tails] at h
    rw [fl_tails, fl_qmin] at e
    rw [e]
    obtain ⟨S, h1⟩ := fl_asm s (E := (q - -1074).toNat + 1) (T := c - 2 ^ 52) (by omega) (by omega)
    exact ⟨S, _, _, h1, by omega, fun _ => by omega⟩
theorem fl_inf (s : Bool) : ∃ S E T, fl_G (FP.Core.encode FP.Core.b64 (.inf s)) S E T ∧ (E = 2047 → T = 0) := by
  obtain ⟨S, h1⟩ := fl_asm s (E := 2047) (T := 0) (by omega) (by omega)
  exact ⟨S, 2047, 0, h1, fun _ => rfl⟩
/-- what is rounded is no NaN -/
theorem fl_settle (s : Bool) (c : Nat) (q : Int) : ∃ S E T, fl_G (FP.Core.encode FP.Core.b64 (FP.Core.settle FP.Core.b64 s c q)) S E T ∧ (E = 2047 → T = 0) := by
  unfold FP.Core.settle FP.Core.bound
  rw [fl_qmax, fl_tails, show FP.Core.b64.p = 53 from rfl]
  split
  · next h =>
    split
    · next h2 =>
      obtain ⟨S, E, T, h3, h4, -⟩ := fl_fin s h h2
      exact ⟨S, E, T, h3, fun h9 => by omega⟩
    · exact fl_inf s
  · split
    · next h2 =>
      obtain ⟨S, E, T, h3, h4, -⟩ := fl_fin s (c := 2 ^ 52) (by omega) h2
      exact ⟨S, E, T, h3, fun h9 => by omega⟩
    · exact fl_inf s
theorem fl_ratio (s : Bool) (a b : Nat) (e : Int) : ∃ S E T, fl_G (FP.Core.encode FP.Core.b64 (FP.Core.roundRatio FP.Core.b64 s a b e)) S E T ∧ (E = 2047 → T = 0) := by
  unfold FP.Core.roundRatio
  split
  · obtain ⟨S, E, T, h3, h4, -⟩ := fl_fin s (c := 0) (q := FP.Core.b64.qmin) (by omega) (by rw [fl_qmin]; omega)
    exact ⟨S, E, T, h3, fun h9 => by omega⟩
  · exact fl_settle s _ _
theorem fl_lt {N S E T : Nat} (h : fl_G N S E T) : N < 2 ^ 64 := by
  obtain ⟨rfl, h1, h2, h3⟩ := h
  omega
theorem fl_T {N S E T : Nat} (h : fl_G N S E T) : FP.Core.fieldT FP.Core.b64 N = T := by
  obtain ⟨rfl, h1, h2, h3⟩ := h
  unfold FP.Core.fieldT
  rw [fl_tails]
  omega
theorem fl_E {N S E T : Nat} (h : fl_G N S E T) : FP.Core.fieldE FP.Core.b64 N = E := by
  obtain ⟨rfl, h1, h2, h3⟩ := h
  unfold FP.Core.fieldE
  rw [fl_tails, fl_exps]
  omega
theorem fl_to {N S E T : Nat} (h : fl_G N S E T) : (UInt64.ofNat N).toNat = N := UInt64.toNat_ofNat_of_lt' (by have := fl_lt h; simpa using this)
theorem fl_bits {N S E T : Nat} (h : fl_G N S E T) (hT : E = 2047 → T = 0) : vf_n64 (UInt64.ofNat N) := by
  unfold vf_n64
  rw [UInt64.le_iff_toNat_le, UInt64.toNat_and, fl_to h]
  rw [show (0x7fffffffffffffff : UInt64).toNat = 2 ^ 63 - 1 from rfl, show (0x7ff0000000000000 : UInt64).toNat = 2047 * 2 ^ 52 from rfl, Nat.and_two_pow_sub_one_eq_mod]
  obtain ⟨rfl, h1, h2, h3⟩ := h
  by_cases h9 : E = 2047
  · have := hT h9
    omega
  · omega
theorem fl_dec {N S E T : Nat} (h : fl_G N S E T) (hT : E = 2047 → T = 0) : FP.Core.decode FP.Core.b64 N ≠ .nan := by
  unfold FP.Core.decode
  rw [fl_T h, fl_E h, fl_exps]
  split
  · next h9 =>
    rw [if_pos (hT h9)]
    intro h; cases h
  · split
    · intro h; cases h
    · intro h; cases h
theorem fl_dec2 {N S E T : Nat} (h : fl_G N S E T) (h1 : E < 2047) (h2 : E ≠ 0) : ∃ s c q, FP.Core.decode FP.Core.b64 N = .fin s c q ∧ c ≠ 0 := by
  unfold FP.Core.decode
  rw [fl_T h, fl_E h, fl_exps, if_neg (by omega), if_neg h2, fl_tails]
  exact ⟨_, _, _, rfl, by omega⟩
/-- an int that is not 0, as a double -/
theorem fl_int {i : Int} (h0 : i ≠ 0) (h1 : i.natAbs < 2 ^ 32) : ∃ S E T, fl_G (FP.Core.fromInt FP.Core.b64 i) S E T ∧ E < 2047 ∧ E ≠ 0 := by
  unfold FP.Core.fromInt FP.Core.ofInt FP.Core.round FP.Core.roundRatio FP.Core.roundAt
  generalize decide (i < 0) = s
  obtain ⟨c, hc⟩ : ∃ c, c = i.natAbs := ⟨_, rfl⟩
  have hc0 : c ≠ 0 := by omega
  have hc1 : c < 2 ^ 32 := by omega
  rw [← hc]
  clear hc
  simp only [if_neg hc0]
  have hk1 : 2 ^ c.log2 ≤ c := Nat.log2_self_le hc0
  have hk2 : c.log2 < 32 := (Nat.log2_lt hc0).2 hc1
  obtain ⟨k, hk⟩ : ∃ k, k = c.log2 := ⟨_, rfl⟩
  have hl : FP.Core.leading c 1 = (k : Int) := by
    unfold FP.Core.leading
    have e : (c.log2 : Int) - ((1 : Nat).log2 : Int) = (k : Int) := by
      rw [show (1 : Nat).log2 = 0 from rfl, hk]; omega
    simp only [e]
    rw [if_pos]
    rw [show ((k : Int)).toNat = k by omega, show (-(k : Int)).toNat = 0 by omega, hk]
    omega
  have hq : FP.Core.quantum FP.Core.b64 c 1 0 = (k : Int) - 52 := by
    unfold FP.Core.quantum
    rw [hl, fl_qmin, show FP.Core.b64.p = 53 from rfl]
    omega
  rw [hq]
  have hn : FP.Core.nearest (FP.Core.unitsNum c 0 ((k : Int) - 52)) (FP.Core.unitsDen 1 0 ((k : Int) - 52)) = c * 2 ^ (52 - k) := by
    unfold FP.Core.unitsNum FP.Core.unitsDen
    rw [show ((k : Int) - 52 - 0).toNat = 0 by omega, show (0 - ((k : Int) - 52)).toNat = 52 - k by omega]
    unfold FP.Core.nearest
    rw [show 1 * 2 ^ 0 = 1 from rfl, Nat.mod_one, if_pos (by omega), Nat.div_one]
  rw [hn]
  have hg : 2 ^ 52 ≤ c * 2 ^ (52 - k) := by
    rw [show (2 : Nat) ^ 52 = 2 ^ k * 2 ^ (52 - k) by rw [← Nat.pow_add]; congr 1; omega]
    exact Nat.mul_le_mul_right _ (by rw [hk]; exact hk1)
  unfold FP.Core.settle FP.Core.bound
  rw [fl_qmax, fl_tails, show FP.Core.b64.p = 53 from rfl]
  split
  · next h =>
    rw [if_pos (by omega)]
    obtain ⟨S, E, T, h3, h4, h5⟩ := fl_fin s h (show (k : Int) - 52 ≤ 971 by omega)
    exact ⟨S, E, T, h3, h4, h5 hg⟩
  · rw [if_pos (by omega)]
    obtain ⟨S, E, T, h3, h4, h5⟩ := fl_fin s (c := 2 ^ 52) (by omega) (show (k : Int) - 52 + 1 ≤ 971 by omega)
    exact ⟨S, E, T, h3, h4, h5 (Nat.le_refl _)⟩
theorem fl_any (i : Int) : ∃ S E T, fl_G (FP.Core.fromInt FP.Core.b64 i) S E T ∧ (E = 2047 → T = 0) := fl_ratio _ _ _ _
theorem z_nn {x y : Int32} (h : y ≠ 0) : vf_n64 (FP.ddiv (FP.i2d x) (FP.i2d y)) := by
  obtain ⟨S, E, T, h1, h2⟩ := fl_any x.toInt
  have hy0 : y.toInt ≠ 0 := fun e => h (Int32.toInt_inj.1 (by rw [e]; rfl))
  have hy1 : y.toInt.natAbs < 2 ^ 32 := by
    have := y.toInt_lt
    have := y.le_toInt
    omega
  obtain ⟨S', E', T', g1, g2, g3⟩ := fl_int hy0 hy1
  have e1 : (FP.i2d x).toNat = FP.Core.fromInt FP.Core.b64 x.toInt := fl_to h1
  have e2 : (FP.i2d y).toNat = FP.Core.fromInt FP.Core.b64 y.toInt := fl_to g1
  have hX := fl_dec h1 h2
  obtain ⟨s, d, r, hY, hd⟩ := fl_dec2 g1 g2 g3
  have e3 : FP.ddiv (FP.i2d x) (FP.i2d y) = UInt64.ofNat (FP.Core.encode FP.Core.b64 (FP.Core.quotient FP.Core.b64 (FP.Core.decode FP.Core.b64 (FP.i2d x).toNat) (FP.Core.decode FP.Core.b64 (FP.i2d y).toNat))) := rfl
  rw [e3, e1, e2, hY]
  cases hD : FP.Core.decode FP.Core.b64 (FP.Core.fromInt FP.Core.b64 x.toInt) with
  | nan => exact absurd hD hX
  | inf t =>
    obtain ⟨S, E, T, h3, h4⟩ := fl_inf (t != s)
    exact fl_bits h3 h4
  | fin t c q =>
    unfold FP.Core.quotient
    simp only [if_neg hd]
    obtain ⟨S, E, T, h3, h4⟩ := fl_ratio (t != s) c d (q - r)
    exact fl_bits h3 h4

abbrev z_mx (d : Int64) (x : Int32) : Int64 := d * 31 + x.toInt64
def z_dp4 (v : q_V) (i : Nat) (d : Int64) : Nat → Int64
  | 0 => d
  | j + 1 => z_mx (z_dp4 v i d j) (v (52 + j + 4 * i))
def z_dgp (hd v : q_V) (d : Int64) : Nat → Int64
  | 0 => d
  | j + 1 => z_dp4 v j (z_mx (z_dgp hd v d j) (hd j)) 4
def z_dgh (v : q_V) (t w : Nat) (d : Int64) : Nat → Int64
  | 0 => d
  | j + 1 => z_mx (z_dgh v t w d j) (v (w + (t - 1 - j) % 20))
def z_dg0 (a b c : Int32) (v : q_V) : Int64 := z_mx (z_mx (z_mx (z_mx (z_mx (z_mx (z_mx (z_mx (z_mx (z_mx (z_mx (z_mx (z_mx (z_mx 1913 a) b) c) (v 0)) (v 1)) (v 2)) (v 3)) (v 4)) (v 5)) (v 7)) (v 8)) (v 9)) (v 10)) (v 11)
def z_dig (pn : Nat) (b c : Int32) (hd v : q_V) (tw tn : Nat) : Int64 := z_dgh v tn 32 (z_dgh v tw 12 (z_dgp hd v (z_dg0 (nI pn) b c v) pn) (min 20 tw)) (min 20 tn)

/-! how many objects a book makes: one a token, and twelve -/
def p_gr (A B : Nat) (s s' : p_S) : Prop := s.1 ≤ s'.1 ∧ (s.2.1 ≠ 40 → s'.2.2.2.2.2 + s.1 ≤ s.2.2.2.2.2 + s'.1 + (if s'.2.1 = 40 then A else 0)) ∧ (s.2.1 = 40 → s'.2.1 = 40 ∧ s'.2.2.2.2.2 + s.1 ≤ s.2.2.2.2.2 + s'.1 + B)
theorem gr_rf {A B : Nat} {s : p_S} : p_gr A B s s := ⟨Nat.le_refl _, fun _ => Nat.le_add_right _ _, fun h => ⟨h, Nat.le_add_right _ _⟩⟩
theorem gr_tr {A1 B1 A2 B2 A B : Nat} {s t u : p_S} (h : p_gr A1 B1 s t) (h2 : p_gr A2 B2 t u) (e1 : A1 + B2 ≤ A) (e2 : A2 ≤ A) (e3 : B1 + B2 ≤ B) : p_gr A B s u := by
  obtain ⟨a, b, c⟩ := h
  obtain ⟨a2, b2, c2⟩ := h2
  refine ⟨Nat.le_trans a a2, fun z => ?_, fun z => ⟨(c2 (c z).1).1, by have x1 := (c z).2; have x2 := (c2 (c z).1).2; omega⟩⟩
  have x1 := b z
  by_cases ht : t.2.1 = 40
  · rw [if_pos ht] at x1
    rw [if_pos (c2 ht).1]
    have x2 := (c2 ht).2
    omega
  · rw [if_neg ht] at x1
    have x2 := b2 ht
    split at x2
    · next h9 => rw [if_pos h9]; omega
    · next h9 => rw [if_neg h9]; omega
/-- the middle is no end -/
theorem gr_tl {A1 B1 A2 B2 A B : Nat} {s t u : p_S} (h : p_gr A1 B1 s t) (h2 : p_gr A2 B2 t u) (ht : t.2.1 ≠ 40) (e2 : A2 ≤ A) : p_gr A B s u := by
  have hs : s.2.1 ≠ 40 := fun z => ht (h.2.2 z).1
  have x1 := h.2.1 hs
  rw [if_neg ht] at x1
  have x2 := h2.2.1 ht
  refine ⟨Nat.le_trans h.1 h2.1, fun _ => ?_, fun z => absurd z hs⟩
  split at x2
  · next h9 => rw [if_pos h9]; omega
  · next h9 => rw [if_neg h9]; omega
theorem gr_live {A B B' : Nat} {s u : p_S} (hs : s.2.1 ≠ 40) (h : p_gr A B s u) : p_gr A B' s u := ⟨h.1, h.2.1, fun z => absurd z hs⟩
section GR
variable {K : Nat → Nat}
theorem gr_step {A B : Nat} {r : Bool} {s : p_S} (hr : r = true → s.2.1 ≠ 40) : p_gr A B s (p_step K r s) := by
  cases r
  · exact ⟨Nat.le_refl _, fun _ => Nat.le_add_right _ _, fun _ => ⟨rfl, Nat.le_add_right _ _⟩⟩
  · refine ⟨Nat.le_succ _, fun _ => ?_, fun z => absurd z (hr rfl)⟩
    show s.2.2.2.2.2 + s.1 ≤ s.2.2.2.2.2 + (s.1 + 1) + _
    omega
theorem gr_ns {A B : Nat} {r : Bool} {s : p_S} (hr : r = true → s.2.1 ≠ 40) (hA : 1 ≤ A) (hB : 1 ≤ B) : p_gr A B s (p_step K r (p_new s)) := by
  cases r
  · refine ⟨Nat.le_refl _, fun _ => ?_, fun _ => ⟨rfl, ?_⟩⟩
    · rw [if_pos (show (p_step K false (p_new s)).2.1 = 40 from rfl)]
      show s.2.2.2.2.2 + 1 + s.1 ≤ s.2.2.2.2.2 + s.1 + A
      omega
    · show s.2.2.2.2.2 + 1 + s.1 ≤ s.2.2.2.2.2 + s.1 + B
      omega
  · refine ⟨Nat.le_succ _, fun _ => ?_, fun z => absurd z (hr rfl)⟩
    show s.2.2.2.2.2 + 1 + s.1 ≤ s.2.2.2.2.2 + (s.1 + 1) + _
    omega
theorem gr_take {A B w : Nat} {s : p_S} (hw : w < 39) : p_gr A B s (p_take K w s) := gr_step fun e => by have := of_decide_eq_true e; omega
theorem gr_ci {A B e : Nat} {c : Bool} {s : p_S} : p_gr A B s (p_ci c e s) := ⟨Nat.le_refl _, fun _ => Nat.le_add_right _ _, fun h => ⟨h, Nat.le_add_right _ _⟩⟩
variable {Wd pN rN : Nat → Int64} {pn rc : Nat}
theorem gr_known {A B cnt : Nat} {nm : Nat → Int64} {s : p_S} : p_gr A B s (p_known K Wd nm cnt s) := gr_tr (gr_ci (A := 0) (B := 0)) (gr_step (A := 0) (B := 0) fun e => by have h9 := of_decide_eq_true e; show s.2.1 ≠ 40; omega) (Nat.zero_le _) (Nat.zero_le _) (Nat.zero_le _)
theorem gr_newn {A B : Nat} {full : Bool} {s : p_S} : p_gr A B s (p_newn K Wd pN pn rN rc full s) := by
  unfold p_newn
  refine gr_tr (A1 := 0) (B1 := 0) (A2 := 0) (B2 := 0) ?_ (gr_take (by decide)) (Nat.zero_le _) (Nat.zero_le _) (Nat.zero_le _)
  split
  · split
    · exact gr_ci
    · exact gr_ci
  · exact gr_rf
theorem gr_mid {A B : Nat} {s : p_S} : p_gr A B s (p_mid K s) := gr_step fun e => by have := (b_vsign_lt e).1; omega
theorem gr_val1 {V : p_S → p_S} {b : Bool} {A : Nat} (hb : b = true → ∀ s, p_gr A 1 s (V s)) (hA : 2 ≤ A) (s : p_S) : p_gr (A + 1) 1 s (p_val1 K Wd pN pn V b s) := by
  unfold p_val1
  split
  · next h => exact gr_ns (s := s) (fun _ => by omega) (by omega) (by omega)
  · split
    · next h =>
        have h40 : s.2.1 ≠ 40 := by have := (b_cont_lt h).1; omega
        exact gr_live h40 (gr_tr (B := 1) (gr_tr (A := A + 1) (B := 1) (gr_ns (A := 1) (B := 1) (s := s) (r := true) (fun _ => h40) (Nat.le_refl _) (Nat.le_refl _)) (gr_take (A := 0) (B := 0) (by decide)) (by omega) (by omega) (by omega)) (gr_known (A := 0) (B := 0)) (by omega) (by omega) (by omega))
    · split
      · next h =>
          obtain ⟨h1, rfl⟩ := h
          have hV := hb rfl
          refine gr_live (B := 3) (by omega) ?_
          exact gr_tr (gr_tr (A := A + 1) (B := 3) (gr_tr (A := A) (B := 2) (gr_tr (A := A) (B := 2) (gr_ns (A := 1) (B := 1) (s := s) (r := decide ((p_new s).2.1 = 27)) (fun _ => by omega) (Nat.le_refl _) (Nat.le_refl _)) (hV _) (by omega) (by omega) (by omega)) (gr_mid (A := 0) (B := 0)) (by omega) (by omega) (by omega)) (hV _) (by omega) (by omega) (by omega)) (gr_take (A := 0) (B := 0) (by decide)) (by omega) (by omega) (by omega)
      · exact gr_ns (s := s) (fun e => by have h9 := (b_meas_lt e).1; omega) (by omega) (by omega)
theorem gr_val : ∀ (d : Nat) (s : p_S), p_gr (d + 3) 1 s (p_val K Wd pN pn d s)
  | 0, s => gr_val1 (A := 2) (fun h => absurd h (by decide)) (Nat.le_refl _) s
  | d + 1, s => gr_val1 (A := d + 3) (fun _ s => gr_val d s) (by omega) s
theorem gr_cs {A B : Nat} {s : p_S} (hA : 1 ≤ A) (hB : 1 ≤ B) : p_gr A B s (p_cs K s) := gr_ns (s := s) (fun e => by have h9 := (b_csign_lt e).1; omega) hA hB
theorem gr_cmp {s : p_S} : p_gr 9 3 s (p_cmp K Wd pN pn s) := gr_tr (gr_tr (A := 8) (B := 2) (gr_val 4 s) (gr_cs (A := 1) (B := 1) (Nat.le_refl _) (Nat.le_refl _)) (by omega) (by omega) (by omega)) (gr_val 4 _) (by omega) (by omega) (by omega)
theorem gr_cmps : ∀ (m : Nat) (s : p_S), p_gr 9 3 s (p_cmps K Wd pN pn m s)
  | 0, _ => gr_rf
  | m + 1, s => by
    unfold p_cmps
    split
    · next h => exact gr_tl gr_cmp (gr_tr (A := 9) (B := 3) (gr_take (A := 0) (B := 0) (by decide)) (gr_cmps m _) (by omega) (by omega) (by omega)) (by omega) (Nat.le_refl _)
    · exact gr_cmp
theorem gr_beg {A B : Nat} {s : p_S} (h : s.2.1 ≠ 40) : p_gr A B s (p_beg K s) := by
  refine gr_live (B := 0) h ⟨Nat.le_succ _, fun _ => ?_, fun z => absurd z h⟩
  show s.2.2.2.2.2 + 1 + s.1 ≤ s.2.2.2.2.2 + (s.1 + 1) + _
  omega
theorem gr_else {B : p_S → p_S} {s : p_S} (hB : ∀ s, p_gr 12 0 s (B s)) : p_gr 12 0 s (p_else K B s) := by
  unfold p_else
  split
  · exact gr_tr (gr_take (A := 0) (B := 0) (by decide)) (hB _) (by omega) (by omega) (by omega)
  · exact gr_rf
theorem gr_what {A B : Nat} {s : p_S} : p_gr A B s (p_what K s) := gr_tr (gr_take (A := 0) (B := 0) (by split <;> decide)) (gr_take (A := 0) (B := 0) (by decide)) (Nat.zero_le _) (Nat.zero_le _) (Nat.zero_le _)
theorem gr_bv {s : p_S} (h : s.2.1 ≠ 40) : p_gr 7 1 s (p_val K Wd pN pn 4 (p_beg K s)) := gr_tr (gr_beg (A := 0) (B := 0) h) (gr_val 4 _) (by omega) (by omega) (by omega)
theorem gr_bk {cnt : Nat} {nm : Nat → Int64} {s : p_S} (h : s.2.1 ≠ 40) : p_gr 0 0 s (p_known K Wd nm cnt (p_beg K s)) := gr_tr (gr_beg (A := 0) (B := 0) h) (gr_known (A := 0) (B := 0)) (by omega) (by omega) (by omega)
theorem gr_act {B : p_S → p_S} {s : p_S} (hB : ∀ s, p_gr 12 0 s (B s)) (h0 : b_act s.2.1 = true) : p_gr 12 0 s (p_act K Wd pN pn rN rc B s) := by
  have h : s.2.1 ≠ 40 := by have := b_act_lt h0; omega
  refine gr_live (B := 4) h ?_
  unfold p_act
  split
  · exact gr_tr (gr_bv h) (hB _) (by omega) (by omega) (by omega)
  split
  · exact gr_tr (gr_tr (A := 12) (B := 3) (gr_tr (A := 9) (B := 3) (gr_beg (A := 0) (B := 0) h) (gr_cmps 400 _) (by omega) (by omega) (by omega)) (hB _) (by omega) (by omega) (by omega)) (gr_else hB) (by omega) (by omega) (by omega)
  split
  · exact gr_tr (gr_tr (A := 12) (B := 4) (gr_tr (A := 12) (B := 4) (gr_bv h) (gr_what (A := 0) (B := 0)) (by omega) (by omega) (by omega)) (gr_known (A := 0) (B := 0)) (by omega) (by omega) (by omega)) (gr_take (A := 0) (B := 0) (by decide)) (by omega) (by omega) (by omega)
  split
  · exact gr_tr (gr_tr (A := 7) (B := 4) (gr_tr (A := 0) (B := 0) (gr_bk h) (gr_take (A := 0) (B := 0) (by decide)) (by omega) (by omega) (by omega)) (gr_val 4 _) (by omega) (by omega) (by omega)) (gr_take (A := 0) (B := 0) (by decide)) (by omega) (by omega) (by omega)
  split
  · exact gr_tr (gr_tr (A := 7) (B := 4) (gr_tr (A := 0) (B := 0) (gr_bk h) (gr_take (A := 0) (B := 0) (by decide)) (by omega) (by omega) (by omega)) (gr_val 4 _) (by omega) (by omega) (by omega)) (gr_take (A := 0) (B := 0) (by decide)) (by omega) (by omega) (by omega)
  split
  · exact gr_tr (gr_bk h) (gr_take (A := 0) (B := 0) (by decide)) (by omega) (by omega) (by omega)
  split
  · exact gr_tr (gr_bk h) (gr_take (A := 0) (B := 0) (by decide)) (by omega) (by omega) (by omega)
  · exact gr_tr (gr_bv h) (gr_take (A := 0) (B := 0) (by decide)) (by omega) (by omega) (by omega)
theorem gr_acts {A : p_S → p_S} (hA : ∀ s, b_act s.2.1 = true → p_gr 12 0 s (A s)) : ∀ (m : Nat) (s : p_S), p_gr 12 0 s (p_acts A m s)
  | 0, _ => gr_rf
  | m + 1, s => by
    unfold p_acts
    split
    · next h => exact gr_tr (hA s h) (gr_acts hA m _) (by omega) (by omega) (by omega)
    · exact gr_rf
theorem gr_blk : ∀ (d : Nat) (s : p_S), p_gr 12 0 s (p_blk K Wd pN pn rN rc d s)
  | 0, s => gr_tr (gr_step (A := 0) (B := 0) (r := false) (fun h => absurd h (by decide))) (gr_take (A := 0) (B := 0) (by decide)) (by omega) (by omega) (by omega)
  | d + 1, s => gr_tr (gr_tr (A := 12) (B := 0) (gr_take (A := 0) (B := 0) (w := 27) (s := s) (by decide)) (gr_acts (fun s h => gr_act (fun s => gr_blk d s) h) 400 _) (by omega) (by omega) (by omega)) (gr_take (A := 0) (B := 0) (by decide)) (by omega) (by omega) (by omega)
theorem gr_recS {A B : Nat} {s : p_S} : p_gr A B s (p_recS K Wd pn pN rc rN s) := gr_tr (gr_take (A := 0) (B := 0) (by decide)) (gr_newn (A := 0) (B := 0)) (Nat.zero_le _) (Nat.zero_le _) (Nat.zero_le _)
theorem gr_panS {A B : Nat} {s : p_S} : p_gr A B s (p_panS K Wd pn pN s) := gr_tr (gr_tr (A := 0) (B := 0) (gr_tr (A := 0) (B := 0) (gr_tr (A := 0) (B := 0) (gr_tr (A := 0) (B := 0) (gr_take (A := 0) (B := 0) (by decide)) (gr_newn (A := 0) (B := 0)) (Nat.zero_le _) (Nat.zero_le _) (Nat.zero_le _)) (gr_take (A := 0) (B := 0) (by decide)) (Nat.zero_le _) (Nat.zero_le _) (Nat.zero_le _)) (gr_ci (A := 0) (B := 0)) (Nat.zero_le _) (Nat.zero_le _) (Nat.zero_le _)) (gr_take (A := 0) (B := 0) (by decide)) (Nat.zero_le _) (Nat.zero_le _) (Nat.zero_le _)) (gr_take (A := 0) (B := 0) (by decide)) (Nat.zero_le _) (Nat.zero_le _) (Nat.zero_le _)
end GR
theorem gr_recs {K : Nat → Nat} {Wd pN : Nat → Int64} {pn : Nat} : ∀ (m : Nat) (s : p_S) (rc : Nat) (rN : Nat → Int64) (RS : Nat → q_S), p_gr 12 0 s (b_recs K Wd pn pN m s rc rN RS).1
  | 0, _, _, _, _ => gr_rf
  | m + 1, s, rc, rN, RS => by
    unfold b_recs
    split
    · split
      · exact gr_tr (gr_tr (A := 12) (B := 0) (gr_recS (A := 0) (B := 0)) (gr_blk 6 _) (by omega) (by omega) (by omega)) (gr_recs m _ _ _ _) (by omega) (by omega) (by omega)
      · exact gr_tr (gr_tr (A := 12) (B := 0) (gr_recS (A := 0) (B := 0)) (gr_blk 6 _) (by omega) (by omega) (by omega)) (gr_recs m _ _ _ _) (by omega) (by omega) (by omega)
    · exact gr_rf
theorem gr_pans {K : Nat → Nat} {Wd : Nat → Int64} : ∀ (m : Nat) (s : p_S) (pn : Nat) (pN : Nat → Int64) (hd : Nat → Int32), p_gr 12 0 s (b_pans K Wd m s pn pN hd).1
  | 0, _, _, _, _ => gr_rf
  | m + 1, s, pn, pN, hd => by
    unfold b_pans
    split
    · split
      · exact gr_tr (gr_panS (A := 0) (B := 0)) (gr_pans m _ _ _ _) (by omega) (by omega) (by omega)
      · exact gr_tr (gr_panS (A := 0) (B := 0)) (gr_pans m _ _ _ _) (by omega) (by omega) (by omega)
    · exact gr_rf
theorem t_K_400 {g : Nat → Int32} {L : Nat} : 39 ≤ t_K g L 400 := by
  unfold t_K
  split
  · rw [if_neg (by decide)]
    decide
  · decide
/-- a book makes at most 412 objects beside its own five -/
theorem room_book {g : Nat → Int32} {L et n : Nat} : n ≤ (b_R (t_K g L) (t_W g L) et n).1.2.2.2.2.2 ∧ (b_R (t_K g L) (t_W g L) et n).1.2.2.2.2.2 ≤ n + 412 := by
  have ok0 : p_ok (t_K g L) 400 (0, t_K g L 0, 0, et, 0, n) := ⟨Nat.zero_le _, Or.inr rfl, Nat.zero_le _, fun h => absurd rfl h, Nat.le_refl _⟩
  have go := (go_pans (Wd := t_W g L) (t_K_400 (g := g) (L := L)) 400 (0, t_K g L 0, 0, et, 0, n) 0 (fun _ => 0) (fun _ => 0)).trans (go_recs (Wd := t_W g L) (pn := (b_P (t_K g L) (t_W g L) et n).2.1) (pN := (b_P (t_K g L) (t_W g L) et n).2.2.1) (t_K_400 (g := g) (L := L)) 400 _ 0 (fun _ => 0) (fun _ => k_nil))
  obtain ⟨ok1, le1⟩ := go ok0
  have gr : p_gr 12 0 (0, t_K g L 0, 0, et, 0, n) (b_R (t_K g L) (t_W g L) et n).1 := gr_tr (gr_pans 400 _ _ _ _) (gr_recs 400 _ _ _ _) (by omega) (by omega) (by omega)
  have h1 : (b_R (t_K g L) (t_W g L) et n).1.1 ≤ 400 := ok1.1
  refine ⟨le1.2.1, ?_⟩
  obtain ⟨-, g1, g2⟩ := gr
  by_cases h : t_K g L 0 = 40
  · have g2 := (g2 h).2
    have g2 : (b_R (t_K g L) (t_W g L) et n).1.2.2.2.2.2 + 0 ≤ n + (b_R (t_K g L) (t_W g L) et n).1.1 + 0 := g2
    omega
  · have g1 := g1 h
    have g1 : (b_R (t_K g L) (t_W g L) et n).1.2.2.2.2.2 + 0 ≤ n + (b_R (t_K g L) (t_W g L) et n).1.1 + (if (b_R (t_K g L) (t_W g L) et n).1.2.1 = 40 then 12 else 0) := g1
    split at g1
    · omega
    · omega
theorem fin_n {s : p_S} : (p_fin s).2.2.2.2.2 = s.2.2.2.2.2 := by
  unfold p_fin
  split
  · rfl
  · rfl

