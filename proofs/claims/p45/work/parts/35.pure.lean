/-! what the parts of whole say of the meaning, without the reference -/
def rN (j : Nat) : Nat := if j = 1 then 1600 else if j = 2 then 402 else if j = 3 then 402 else if j = 4 then 402 else if j = 5 then 402 else if j = 6 then 8 else if j = 7 then 6 else if j = 9 then 9 else if j = 10 then 7 else if j = 11 then 81 else if j = 12 then 81 else if j = 13 then 81 else if j = 14 then 81 else if j = 15 then 81 else if j = 16 then 81 else if j = 17 then 81 else if j = 18 then 81 else if j = 19 then 400 else if j = 20 then 400 else if j = 21 then 400 else if j = 22 then 400 else if j = 23 then 400 else if j = 24 then 400 else if j = 26 then 9 else if j = 27 then 7 else if j = 28 then 81 else if j = 29 then 81 else if j = 30 then 81 else if j = 31 then 81 else if j = 32 then 81 else if j = 33 then 81 else if j = 34 then 81 else if j = 35 then 81 else if j = 36 then 400 else if j = 37 then 400 else if j = 38 then 400 else if j = 39 then 400 else if j = 40 then 400 else if j = 41 then 400 else if j = 42 then 84 else if j = 43 then 84 else 0
section RO
variable {E : q_E} {f : q_H} {m n : Nat} {H : Heap}
end RO
section RQ
variable {p : Program} {l : Launch} {e : Env} {R : Room} {s : State} {m : MethodId} {args : Array Value} {below : List Frame} {meth : Method} {c : Code} {H : Heap} {locs : List Loc} {cells slots : Nat} {Q : State → Prop}
variable {cc : ByteArray} {pc : Nat} {ls : Array Slot} {rest : List Value} {E : q_E} {f : q_H} {n a : Nat}
end RQ
/-! the reference's kitchen -/
def b_in (x lo hi : Int32) : Bool := !decide (x < lo) && !decide (hi < x)
/-! the kitchen keeps to its bounds -/
def v_ok (pn : Nat) (hd v : q_V) : Prop := (∃ al, al ≤ 60 ∧ v 0 = nI al) ∧ (∃ sp, 1 ≤ sp ∧ sp ≤ 10 ∧ v 2 = nI sp) ∧ ∀ i, i < pn → ∃ a b h, v (52 + 4 * i) = nI a ∧ v (53 + 4 * i) = nI b ∧ hd i = nI h ∧ a + b ≤ h ∧ h ≤ 200
/-- S keeps the kitchen in its bounds -/
def v_good (pn : Nat) (S : q_S) : Prop := ∀ (hd : q_V) (s : q_KS), v_ok pn hd s.1 → v_ok pn hd (S hd s).1
theorem q_min_n {a b : Nat} (ha : a < 2 ^ 31) (hb : b < 2 ^ 31) : q_min (nI a) (nI b) = nI (min a b) := by
  unfold q_min
  by_cases h : b < a
  · rw [if_pos (nI_lt h ha), Nat.min_eq_right (Nat.le_of_lt h)]
  · rw [if_neg (nI_nlt (by omega) hb), Nat.min_eq_left (by omega)]
/-! what acts are built of, whatever stands for them -/
def v_rel (pn : Nat) (hd hd' v v' : q_V) : Prop := (∀ i, i < pn → hd i = hd' i) ∧ (∀ q, q < 4 → v q = v' q) ∧ ∀ i, i < pn → v (52 + 4 * i) = v' (52 + 4 * i) ∧ v (53 + 4 * i) = v' (53 + 4 * i) ∧ v (54 + 4 * i) = v' (54 + 4 * i) ∧ v (55 + 4 * i) = v' (55 + 4 * i)
/-- a relation of two kitchens' warnings and notes -/
def x_ok (X : q_V → q_V → Prop) : Prop := (∀ v v' w w', X v v' → (∀ q, 4 ≤ q → q < 52 → w q = v q ∧ w' q = v' q) → X w w') ∧ (∀ v v' kd, kd < 6 → k_ok v → k_ok v' → X v v' → X (z_warn v (k_T v) kd) (z_warn v' (k_T v') kd)) ∧ (∀ v v' x, k_ok v → k_ok v' → X v v' → X (z_note v (k_N v) x) (z_note v' (k_N v') x))
def s_rel (X : q_V → q_V → Prop) (pn : Nat) (hd hd' : q_V) (s s' : q_KS) : Prop := v_rel pn hd hd' s.1 s'.1 ∧ X s.1 s'.1 ∧ s.2 = s'.2
def s_blk (pn : Nat) (S : q_S) : Prop := v_good pn S ∧ k_goodB S ∧ (∀ hd s, s.2.1 ≤ (S hd s).2.1) ∧ (∀ hd s, 100 ≤ s.2.1 → S hd s = s) ∧ ∀ X, x_ok X → ∀ (B : Nat) (hd hd' : q_V) (s s' : q_KS), B ≤ 2 ^ 29 → k_inv B s → k_inv B s' → s_rel X pn hd hd' s s' → s_rel X pn hd hd' (S hd s) (S hd' s')
/-- the greatest below k of which it is so, -1 if none is -/
def z_best (P : Nat → Bool) : Nat → Int32
  | 0 => -1
  | k + 1 => if P k = true then nI k else z_best P k

/-! the reference: how high, for how many; the mean heat; the checksum -/
def z_best1 (P : Nat → Bool) : Nat → Int32
  | 0 => -1
  | k + 1 => if P (k + 1) = true then nI (k + 1) else z_best1 P k
theorem z_move_lo {v : q_V} {to : Int32} {j q : Nat} (h0 : q ≠ 0) (h : ¬ (54 ≤ q ∧ q % 4 = 2)) : z_move v to j q = v q := z_move_n (i := 0) h0 (fun h9 => h ⟨h9.1, h9.2.1⟩)
theorem k_inv_up1 {BB : Nat} {v : q_V} {x : Int32} (h : k_inv BB (v, 0, (-1))) : k_inv BB (upd v 1 x, 0, (-1)) := k_inv_same (s' := (upd v 1 x, 0, (-1))) h (z_un (v := v) (x := x) (j := 1) (q := 4) (by decide)) (z_un (v := v) (x := x) (j := 1) (q := 5) (by decide)) rfl
theorem i_subm (k : Nat) : nI k + (-1) = nI k - 1 := by
  rw [Int32.sub_eq_add_neg]
theorem nI_pm (k : Nat) : nI (k + 1) - 1 = nI k := nI_pred k

section QDR
variable {p : Program} {l : Launch} {e : Env} {R : Room} {s : State} {m : MethodId} {args : Array Value} {below : List Frame} {meth : Method} {c : Code} {H : Heap} {locs : List Loc} {cells slots : Nat}
variable {cc : ByteArray} {pc : Nat} {ls : Array Slot} {E : q_E} {f : q_H} {n mc ms : Nat}
theorem q_dret {post : UInt64 → q_H → Nat → Prop} (hx : p.tables.exec = Jvm.exec) (hb : c.code = cc) (hr : meth.sig.returnType = some .double) (hlocks : meth.locks = false) (hW : q_W E f n H) (hS : va_S (q_ge E) s.heap H locs) {v : UInt64} (hp : post v f n) (h1 : cells ≤ mc) (h2 : slots ≤ ms) (hdg : decode cc pc = .ok (.dreturn, 1)) : W p l e R s m args below meth c H locs cells slots (MQ below (q_Qd E post) args s mc ms (q_ge E)) (F0 m pc ls [.double v]) :=
  W.widen h1 h2 (W.dret hx hb hr (fun t ht _ => ⟨⟨v, (f, n), rfl, hp, by show q_W E f n t.heap; rw [ht]; exact hW⟩, hS.F ht⟩) hS.2.2 hdg hlocks)
end QDR
def z_sum (v : q_V) : Nat → Int32
  | 0 => 0
  | j + 1 => z_sum v j + v (54 + 4 * j)
def z_mean (v : q_V) (pn : Nat) : UInt64 := if pn = 0 then FP.dconst0 else FP.ddiv (FP.i2d (z_sum v pn)) (FP.i2d (nI pn))
/-- the bits of a double, by their fields -/
def fl_G (N S E T : Nat) : Prop := N = (S * 2048 + E) * 2 ^ 52 + T ∧ S ≤ 1 ∧ E ≤ 2047 ∧ T < 2 ^ 52
theorem fl_tails : FP.Core.b64.tails = 2 ^ 52 := rfl
theorem fl_exps : FP.Core.b64.exps = 2048 := rfl
theorem fl_qmin : FP.Core.b64.qmin = -1074 := rfl
theorem fl_qmax : FP.Core.b64.qmax = 971 := rfl
theorem fl_asm (s : Bool) {E T : Nat} (hE : E ≤ 2047) (hT : T < 2 ^ 52) : ∃ S, fl_G (FP.Core.assemble FP.Core.b64 s E T) S E T := by
  refine ⟨s.toNat, ?_, by cases s <;> decide, hE, hT⟩
  unfold FP.Core.assemble
  rw [fl_tails, fl_exps]
/-- a number of the format, encoded -/
theorem fl_fin (s : Bool) {c : Nat} {q : Int} (hc : c < 2 ^ 53) (hq : q ≤ 971) : ∃ S E T, fl_G (FP.Core.encode FP.Core.b64 (.fin s c q)) S E T ∧ E < 2047 ∧ (2 ^ 52 ≤ c → E ≠ 0) := by
  by_cases h : c < FP.Core.b64.tails
  · have e : FP.Core.encode FP.Core.b64 (.fin s c q) = FP.Core.assemble FP.Core.b64 s 0 c := if_pos h
    rw [fl_tails] at h
    rw [e]
    obtain ⟨S, h1⟩ := fl_asm s (E := 0) (T := c) (by omega) h
    exact ⟨S, 0, c, h1, by omega, fun h9 => absurd h (by omega)⟩
  · have e : FP.Core.encode FP.Core.b64 (.fin s c q) = FP.Core.assemble FP.Core.b64 s ((q - FP.Core.b64.qmin).toNat + 1) (c - FP.Core.b64.tails) := if_neg h
    rw [fl_tails] at h
    rw [fl_tails, fl_qmin] at e
    rw [e]
    obtain ⟨S, h1⟩ := fl_asm s (E := (q - -1074).toNat + 1) (T := c - 2 ^ 52) (by omega) (by omega)
    exact ⟨S, _, _, h1, by omega, fun _ => by omega⟩
theorem fl_inf (s : Bool) : ∃ S E T, fl_G (FP.Core.encode FP.Core.b64 (.inf s)) S E T ∧ (E = 2047 → T = 0) := by
  obtain ⟨S, h1⟩ := fl_asm s (E := 2047) (T := 0) (by omega) (by omega)
  exact ⟨S, 2047, 0, h1, fun _ => rfl⟩
/-- what is rounded is no NaN -/
theorem fl_settle (s : Bool) (c : Nat) (q : Int) : ∃ S E T, fl_G (FP.Core.encode FP.Core.b64 (FP.Core.settle FP.Core.b64 s c q)) S E T ∧ (E = 2047 → T = 0) := by
  unfold FP.Core.settle FP.Core.bound
  rw [fl_qmax, fl_tails, show FP.Core.b64.p = 53 from rfl]
  split
  · next h =>
    split
    · next h2 =>
      obtain ⟨S, E, T, h3, h4, -⟩ := fl_fin s h h2
      exact ⟨S, E, T, h3, fun h9 => by omega⟩
    · exact fl_inf s
  · split
    · next h2 =>
      obtain ⟨S, E, T, h3, h4, -⟩ := fl_fin s (c := 2 ^ 52) (by omega) h2
      exact ⟨S, E, T, h3, fun h9 => by omega⟩
    · exact fl_inf s
theorem fl_ratio (s : Bool) (a b : Nat) (e : Int) : ∃ S E T, fl_G (FP.Core.encode FP.Core.b64 (FP.Core.roundRatio FP.Core.b64 s a b e)) S E T ∧ (E = 2047 → T = 0) := by
  unfold FP.Core.roundRatio
  split
  · obtain ⟨S, E, T, h3, h4, -⟩ := fl_fin s (c := 0) (q := FP.Core.b64.qmin) (by omega) (by rw [fl_qmin]; omega)
    exact ⟨S, E, T, h3, fun h9 => by omega⟩
  · exact fl_settle s _ _
theorem fl_lt {N S E T : Nat} (h : fl_G N S E T) : N < 2 ^ 64 := by
  obtain ⟨rfl, h1, h2, h3⟩ := h
  omega
theorem fl_T {N S E T : Nat} (h : fl_G N S E T) : FP.Core.fieldT FP.Core.b64 N = T := by
  obtain ⟨rfl, h1, h2, h3⟩ := h
  unfold FP.Core.fieldT
  rw [fl_tails]
  omega
theorem fl_E {N S E T : Nat} (h : fl_G N S E T) : FP.Core.fieldE FP.Core.b64 N = E := by
  obtain ⟨rfl, h1, h2, h3⟩ := h
  unfold FP.Core.fieldE
  rw [fl_tails, fl_exps]
  omega
theorem fl_to {N S E T : Nat} (h : fl_G N S E T) : (UInt64.ofNat N).toNat = N := UInt64.toNat_ofNat_of_lt' (by have := fl_lt h; simpa using this)
theorem fl_bits {N S E T : Nat} (h : fl_G N S E T) (hT : E = 2047 → T = 0) : vf_n64 (UInt64.ofNat N) := by
  unfold vf_n64
  rw [UInt64.le_iff_toNat_le, UInt64.toNat_and, fl_to h]
  rw [show (0x7fffffffffffffff : UInt64).toNat = 2 ^ 63 - 1 from rfl, show (0x7ff0000000000000 : UInt64).toNat = 2047 * 2 ^ 52 from rfl, Nat.and_two_pow_sub_one_eq_mod]
  obtain ⟨rfl, h1, h2, h3⟩ := h
  by_cases h9 : E = 2047
  · have := hT h9
    omega
  · omega
theorem fl_dec {N S E T : Nat} (h : fl_G N S E T) (hT : E = 2047 → T = 0) : FP.Core.decode FP.Core.b64 N ≠ .nan := by
  unfold FP.Core.decode
  rw [fl_T h, fl_E h, fl_exps]
  split
  · next h9 =>
    rw [if_pos (hT h9)]
    intro h; cases h
  · split
    · intro h; cases h
    · intro h; cases h
theorem fl_dec2 {N S E T : Nat} (h : fl_G N S E T) (h1 : E < 2047) (h2 : E ≠ 0) : ∃ s c q, FP.Core.decode FP.Core.b64 N = .fin s c q ∧ c ≠ 0 := by
  unfold FP.Core.decode
  rw [fl_T h, fl_E h, fl_exps, if_neg (by omega), if_neg h2, fl_tails]
  exact ⟨_, _, _, rfl, by omega⟩
/-- an int that is not 0, as a double -/
theorem fl_int {i : Int} (h0 : i ≠ 0) (h1 : i.natAbs < 2 ^ 32) : ∃ S E T, fl_G (FP.Core.fromInt FP.Core.b64 i) S E T ∧ E < 2047 ∧ E ≠ 0 := by
  unfold FP.Core.fromInt FP.Core.ofInt FP.Core.round FP.Core.roundRatio FP.Core.roundAt
  generalize decide (i < 0) = s
  obtain ⟨c, hc⟩ : ∃ c, c = i.natAbs := ⟨_, rfl⟩
  have hc0 : c ≠ 0 := by omega
  have hc1 : c < 2 ^ 32 := by omega
  rw [← hc]
  clear hc
  simp only [if_neg hc0]
  have hk1 : 2 ^ c.log2 ≤ c := Nat.log2_self_le hc0
  have hk2 : c.log2 < 32 := (Nat.log2_lt hc0).2 hc1
  obtain ⟨k, hk⟩ : ∃ k, k = c.log2 := ⟨_, rfl⟩
  have hl : FP.Core.leading c 1 = (k : Int) := by
    unfold FP.Core.leading
    have e : (c.log2 : Int) - ((1 : Nat).log2 : Int) = (k : Int) := by
      rw [show (1 : Nat).log2 = 0 from rfl, hk]; omega
    simp only [e]
    rw [if_pos]
    rw [show ((k : Int)).toNat = k by omega, show (-(k : Int)).toNat = 0 by omega, hk]
    omega
  have hq : FP.Core.quantum FP.Core.b64 c 1 0 = (k : Int) - 52 := by
    unfold FP.Core.quantum
    rw [hl, fl_qmin, show FP.Core.b64.p = 53 from rfl]
    omega
  rw [hq]
  have hn : FP.Core.nearest (FP.Core.unitsNum c 0 ((k : Int) - 52)) (FP.Core.unitsDen 1 0 ((k : Int) - 52)) = c * 2 ^ (52 - k) := by
    unfold FP.Core.unitsNum FP.Core.unitsDen
    rw [show ((k : Int) - 52 - 0).toNat = 0 by omega, show (0 - ((k : Int) - 52)).toNat = 52 - k by omega]
    unfold FP.Core.nearest
    rw [show 1 * 2 ^ 0 = 1 from rfl, Nat.mod_one, if_pos (by omega), Nat.div_one]
  rw [hn]
  have hg : 2 ^ 52 ≤ c * 2 ^ (52 - k) := by
    rw [show (2 : Nat) ^ 52 = 2 ^ k * 2 ^ (52 - k) by rw [← Nat.pow_add]; congr 1; omega]
    exact Nat.mul_le_mul_right _ (by rw [hk]; exact hk1)
  unfold FP.Core.settle FP.Core.bound
  rw [fl_qmax, fl_tails, show FP.Core.b64.p = 53 from rfl]
  split
  · next h =>
    rw [if_pos (by omega)]
    obtain ⟨S, E, T, h3, h4, h5⟩ := fl_fin s h (show (k : Int) - 52 ≤ 971 by omega)
    exact ⟨S, E, T, h3, h4, h5 hg⟩
  · rw [if_pos (by omega)]
    obtain ⟨S, E, T, h3, h4, h5⟩ := fl_fin s (c := 2 ^ 52) (by omega) (show (k : Int) - 52 + 1 ≤ 971 by omega)
    exact ⟨S, E, T, h3, h4, h5 (Nat.le_refl _)⟩
theorem fl_any (i : Int) : ∃ S E T, fl_G (FP.Core.fromInt FP.Core.b64 i) S E T ∧ (E = 2047 → T = 0) := fl_ratio _ _ _ _
theorem z_nn {x y : Int32} (h : y ≠ 0) : vf_n64 (FP.ddiv (FP.i2d x) (FP.i2d y)) := by
  obtain ⟨S, E, T, h1, h2⟩ := fl_any x.toInt
  have hy0 : y.toInt ≠ 0 := fun e => h (Int32.toInt_inj.1 (by rw [e]; rfl))
  have hy1 : y.toInt.natAbs < 2 ^ 32 := by
    have := y.toInt_lt
    have := y.le_toInt
    omega
  obtain ⟨S', E', T', g1, g2, g3⟩ := fl_int hy0 hy1
  have e1 : (FP.i2d x).toNat = FP.Core.fromInt FP.Core.b64 x.toInt := fl_to h1
  have e2 : (FP.i2d y).toNat = FP.Core.fromInt FP.Core.b64 y.toInt := fl_to g1
  have hX := fl_dec h1 h2
  obtain ⟨s, d, r, hY, hd⟩ := fl_dec2 g1 g2 g3
  have e3 : FP.ddiv (FP.i2d x) (FP.i2d y) = UInt64.ofNat (FP.Core.encode FP.Core.b64 (FP.Core.quotient FP.Core.b64 (FP.Core.decode FP.Core.b64 (FP.i2d x).toNat) (FP.Core.decode FP.Core.b64 (FP.i2d y).toNat))) := rfl
  rw [e3, e1, e2, hY]
  cases hD : FP.Core.decode FP.Core.b64 (FP.Core.fromInt FP.Core.b64 x.toInt) with
  | nan => exact absurd hD hX
  | inf t =>
    obtain ⟨S, E, T, h3, h4⟩ := fl_inf (t != s)
    exact fl_bits h3 h4
  | fin t c q =>
    unfold FP.Core.quotient
    simp only [if_neg hd]
    obtain ⟨S, E, T, h3, h4⟩ := fl_ratio (t != s) c d (q - r)
    exact fl_bits h3 h4

abbrev z_mx (d : Int64) (x : Int32) : Int64 := d * 31 + x.toInt64
def z_dp4 (v : q_V) (i : Nat) (d : Int64) : Nat → Int64
  | 0 => d
  | j + 1 => z_mx (z_dp4 v i d j) (v (52 + j + 4 * i))
def z_dgp (hd v : q_V) (d : Int64) : Nat → Int64
  | 0 => d
  | j + 1 => z_dp4 v j (z_mx (z_dgp hd v d j) (hd j)) 4
def z_dgh (v : q_V) (t w : Nat) (d : Int64) : Nat → Int64
  | 0 => d
  | j + 1 => z_mx (z_dgh v t w d j) (v (w + (t - 1 - j) % 20))
def z_dg0 (a b c : Int32) (v : q_V) : Int64 := z_mx (z_mx (z_mx (z_mx (z_mx (z_mx (z_mx (z_mx (z_mx (z_mx (z_mx (z_mx (z_mx (z_mx 1913 a) b) c) (v 0)) (v 1)) (v 2)) (v 3)) (v 4)) (v 5)) (v 7)) (v 8)) (v 9)) (v 10)) (v 11)
def z_dig (pn : Nat) (b c : Int32) (hd v : q_V) (tw tn : Nat) : Int64 := z_dgh v tn 32 (z_dgh v tw 12 (z_dgp hd v (z_dg0 (nI pn) b c v) pn) (min 20 tw)) (min 20 tn)

/-! how many objects a book makes: one a token, and twelve -/
def p_gr (A B : Nat) (s s' : p_S) : Prop := s.1 ≤ s'.1 ∧ (s.2.1 ≠ 40 → s'.2.2.2.2.2 + s.1 ≤ s.2.2.2.2.2 + s'.1 + (if s'.2.1 = 40 then A else 0)) ∧ (s.2.1 = 40 → s'.2.1 = 40 ∧ s'.2.2.2.2.2 + s.1 ≤ s.2.2.2.2.2 + s'.1 + B)
theorem gr_rf {A B : Nat} {s : p_S} : p_gr A B s s := ⟨Nat.le_refl _, fun _ => Nat.le_add_right _ _, fun h => ⟨h, Nat.le_add_right _ _⟩⟩
theorem gr_tr {A1 B1 A2 B2 A B : Nat} {s t u : p_S} (h : p_gr A1 B1 s t) (h2 : p_gr A2 B2 t u) (e1 : A1 + B2 ≤ A) (e2 : A2 ≤ A) (e3 : B1 + B2 ≤ B) : p_gr A B s u := by
  obtain ⟨a, b, c⟩ := h
  obtain ⟨a2, b2, c2⟩ := h2
  refine ⟨Nat.le_trans a a2, fun z => ?_, fun z => ⟨(c2 (c z).1).1, by have x1 := (c z).2; have x2 := (c2 (c z).1).2; omega⟩⟩
  have x1 := b z
  by_cases ht : t.2.1 = 40
  · rw [if_pos ht] at x1
    rw [if_pos (c2 ht).1]
    have x2 := (c2 ht).2
    omega
  · rw [if_neg ht] at x1
    have x2 := b2 ht
    split at x2
    · next h9 => rw [if_pos h9]; omega
    · next h9 => rw [if_neg h9]; omega
/-- the middle is no end -/
theorem gr_tl {A1 B1 A2 B2 A B : Nat} {s t u : p_S} (h : p_gr A1 B1 s t) (h2 : p_gr A2 B2 t u) (ht : t.2.1 ≠ 40) (e2 : A2 ≤ A) : p_gr A B s u := by
  have hs : s.2.1 ≠ 40 := fun z => ht (h.2.2 z).1
  have x1 := h.2.1 hs
  rw [if_neg ht] at x1
  have x2 := h2.2.1 ht
  refine ⟨Nat.le_trans h.1 h2.1, fun _ => ?_, fun z => absurd z hs⟩
  split at x2
  · next h9 => rw [if_pos h9]; omega
  · next h9 => rw [if_neg h9]; omega
theorem gr_live {A B B' : Nat} {s u : p_S} (hs : s.2.1 ≠ 40) (h : p_gr A B s u) : p_gr A B' s u := ⟨h.1, h.2.1, fun z => absurd z hs⟩
section GR
variable {K : Nat → Nat}
theorem gr_step {A B : Nat} {r : Bool} {s : p_S} (hr : r = true → s.2.1 ≠ 40) : p_gr A B s (p_step K r s) := by
  cases r
  · exact ⟨Nat.le_refl _, fun _ => Nat.le_add_right _ _, fun _ => ⟨rfl, Nat.le_add_right _ _⟩⟩
  · refine ⟨Nat.le_succ _, fun _ => ?_, fun z => absurd z (hr rfl)⟩
    show s.2.2.2.2.2 + s.1 ≤ s.2.2.2.2.2 + (s.1 + 1) + _
    omega
theorem gr_ns {A B : Nat} {r : Bool} {s : p_S} (hr : r = true → s.2.1 ≠ 40) (hA : 1 ≤ A) (hB : 1 ≤ B) : p_gr A B s (p_step K r (p_new s)) := by
  cases r
  · refine ⟨Nat.le_refl _, fun _ => ?_, fun _ => ⟨rfl, ?_⟩⟩
    · rw [if_pos (show (p_step K false (p_new s)).2.1 = 40 from rfl)]
      show s.2.2.2.2.2 + 1 + s.1 ≤ s.2.2.2.2.2 + s.1 + A
      omega
    · show s.2.2.2.2.2 + 1 + s.1 ≤ s.2.2.2.2.2 + s.1 + B
      omega
  · refine ⟨Nat.le_succ _, fun _ => ?_, fun z => absurd z (hr rfl)⟩
    show s.2.2.2.2.2 + 1 + s.1 ≤ s.2.2.2.2.2 + (s.1 + 1) + _
    omega
theorem gr_take {A B w : Nat} {s : p_S} (hw : w < 39) : p_gr A B s (p_take K w s) := gr_step fun e => by have := of_decide_eq_true e; omega
theorem gr_ci {A B e : Nat} {c : Bool} {s : p_S} : p_gr A B s (p_ci c e s) := ⟨Nat.le_refl _, fun _ => Nat.le_add_right _ _, fun h => ⟨h, Nat.le_add_right _ _⟩⟩
variable {Wd pN rN : Nat → Int64} {pn rc : Nat}
theorem gr_known {A B cnt : Nat} {nm : Nat → Int64} {s : p_S} : p_gr A B s (p_known K Wd nm cnt s) := gr_tr (gr_ci (A := 0) (B := 0)) (gr_step (A := 0) (B := 0) fun e => by have h9 := of_decide_eq_true e; show s.2.1 ≠ 40; omega) (Nat.zero_le _) (Nat.zero_le _) (Nat.zero_le _)
theorem gr_newn {A B : Nat} {full : Bool} {s : p_S} : p_gr A B s (p_newn K Wd pN pn rN rc full s) := by
  unfold p_newn
  refine gr_tr (A1 := 0) (B1 := 0) (A2 := 0) (B2 := 0) ?_ (gr_take (by decide)) (Nat.zero_le _) (Nat.zero_le _) (Nat.zero_le _)
  split
  · split
    · exact gr_ci
    · exact gr_ci
  · exact gr_rf
theorem gr_mid {A B : Nat} {s : p_S} : p_gr A B s (p_mid K s) := gr_step fun e => by have := (b_vsign_lt e).1; omega
theorem gr_val1 {V : p_S → p_S} {b : Bool} {A : Nat} (hb : b = true → ∀ s, p_gr A 1 s (V s)) (hA : 2 ≤ A) (s : p_S) : p_gr (A + 1) 1 s (p_val1 K Wd pN pn V b s) := by
  unfold p_val1
  split
  · next h => exact gr_ns (s := s) (fun _ => by omega) (by omega) (by omega)
  · split
    · next h =>
        have h40 : s.2.1 ≠ 40 := by have := (b_cont_lt h).1; omega
        exact gr_live h40 (gr_tr (B := 1) (gr_tr (A := A + 1) (B := 1) (gr_ns (A := 1) (B := 1) (s := s) (r := true) (fun _ => h40) (Nat.le_refl _) (Nat.le_refl _)) (gr_take (A := 0) (B := 0) (by decide)) (by omega) (by omega) (by omega)) (gr_known (A := 0) (B := 0)) (by omega) (by omega) (by omega))
    · split
      · next h =>
          obtain ⟨h1, rfl⟩ := h
          have hV := hb rfl
          refine gr_live (B := 3) (by omega) ?_
          exact gr_tr (gr_tr (A := A + 1) (B := 3) (gr_tr (A := A) (B := 2) (gr_tr (A := A) (B := 2) (gr_ns (A := 1) (B := 1) (s := s) (r := decide ((p_new s).2.1 = 27)) (fun _ => by omega) (Nat.le_refl _) (Nat.le_refl _)) (hV _) (by omega) (by omega) (by omega)) (gr_mid (A := 0) (B := 0)) (by omega) (by omega) (by omega)) (hV _) (by omega) (by omega) (by omega)) (gr_take (A := 0) (B := 0) (by decide)) (by omega) (by omega) (by omega)
      · exact gr_ns (s := s) (fun e => by have h9 := (b_meas_lt e).1; omega) (by omega) (by omega)
theorem gr_val : ∀ (d : Nat) (s : p_S), p_gr (d + 3) 1 s (p_val K Wd pN pn d s)
  | 0, s => gr_val1 (A := 2) (fun h => absurd h (by decide)) (Nat.le_refl _) s
  | d + 1, s => gr_val1 (A := d + 3) (fun _ s => gr_val d s) (by omega) s
theorem gr_cs {A B : Nat} {s : p_S} (hA : 1 ≤ A) (hB : 1 ≤ B) : p_gr A B s (p_cs K s) := gr_ns (s := s) (fun e => by have h9 := (b_csign_lt e).1; omega) hA hB
theorem gr_cmp {s : p_S} : p_gr 9 3 s (p_cmp K Wd pN pn s) := gr_tr (gr_tr (A := 8) (B := 2) (gr_val 4 s) (gr_cs (A := 1) (B := 1) (Nat.le_refl _) (Nat.le_refl _)) (by omega) (by omega) (by omega)) (gr_val 4 _) (by omega) (by omega) (by omega)
theorem gr_cmps : ∀ (m : Nat) (s : p_S), p_gr 9 3 s (p_cmps K Wd pN pn m s)
  | 0, _ => gr_rf
  | m + 1, s => by
    unfold p_cmps
    split
    · next h => exact gr_tl gr_cmp (gr_tr (A := 9) (B := 3) (gr_take (A := 0) (B := 0) (by decide)) (gr_cmps m _) (by omega) (by omega) (by omega)) (by omega) (Nat.le_refl _)
    · exact gr_cmp
theorem gr_beg {A B : Nat} {s : p_S} (h : s.2.1 ≠ 40) : p_gr A B s (p_beg K s) := by
  refine gr_live (B := 0) h ⟨Nat.le_succ _, fun _ => ?_, fun z => absurd z h⟩
  show s.2.2.2.2.2 + 1 + s.1 ≤ s.2.2.2.2.2 + (s.1 + 1) + _
  omega
theorem gr_else {B : p_S → p_S} {s : p_S} (hB : ∀ s, p_gr 12 0 s (B s)) : p_gr 12 0 s (p_else K B s) := by
  unfold p_else
  split
  · exact gr_tr (gr_take (A := 0) (B := 0) (by decide)) (hB _) (by omega) (by omega) (by omega)
  · exact gr_rf
theorem gr_what {A B : Nat} {s : p_S} : p_gr A B s (p_what K s) := gr_tr (gr_take (A := 0) (B := 0) (by split <;> decide)) (gr_take (A := 0) (B := 0) (by decide)) (Nat.zero_le _) (Nat.zero_le _) (Nat.zero_le _)
theorem gr_bv {s : p_S} (h : s.2.1 ≠ 40) : p_gr 7 1 s (p_val K Wd pN pn 4 (p_beg K s)) := gr_tr (gr_beg (A := 0) (B := 0) h) (gr_val 4 _) (by omega) (by omega) (by omega)
theorem gr_bk {cnt : Nat} {nm : Nat → Int64} {s : p_S} (h : s.2.1 ≠ 40) : p_gr 0 0 s (p_known K Wd nm cnt (p_beg K s)) := gr_tr (gr_beg (A := 0) (B := 0) h) (gr_known (A := 0) (B := 0)) (by omega) (by omega) (by omega)
theorem gr_act {B : p_S → p_S} {s : p_S} (hB : ∀ s, p_gr 12 0 s (B s)) (h0 : b_act s.2.1 = true) : p_gr 12 0 s (p_act K Wd pN pn rN rc B s) := by
  have h : s.2.1 ≠ 40 := by have := b_act_lt h0; omega
  refine gr_live (B := 4) h ?_
  unfold p_act
  split
  · exact gr_tr (gr_bv h) (hB _) (by omega) (by omega) (by omega)
  split
  · exact gr_tr (gr_tr (A := 12) (B := 3) (gr_tr (A := 9) (B := 3) (gr_beg (A := 0) (B := 0) h) (gr_cmps 400 _) (by omega) (by omega) (by omega)) (hB _) (by omega) (by omega) (by omega)) (gr_else hB) (by omega) (by omega) (by omega)
  split
  · exact gr_tr (gr_tr (A := 12) (B := 4) (gr_tr (A := 12) (B := 4) (gr_bv h) (gr_what (A := 0) (B := 0)) (by omega) (by omega) (by omega)) (gr_known (A := 0) (B := 0)) (by omega) (by omega) (by omega)) (gr_take (A := 0) (B := 0) (by decide)) (by omega) (by omega) (by omega)
  split
  · exact gr_tr (gr_tr (A := 7) (B := 4) (gr_tr (A := 0) (B := 0) (gr_bk h) (gr_take (A := 0) (B := 0) (by decide)) (by omega) (by omega) (by omega)) (gr_val 4 _) (by omega) (by omega) (by omega)) (gr_take (A := 0) (B := 0) (by decide)) (by omega) (by omega) (by omega)
  split
  · exact gr_tr (gr_tr (A := 7) (B := 4) (gr_tr (A := 0) (B := 0) (gr_bk h) (gr_take (A := 0) (B := 0) (by decide)) (by omega) (by omega) (by omega)) (gr_val 4 _) (by omega) (by omega) (by omega)) (gr_take (A := 0) (B := 0) (by decide)) (by omega) (by omega) (by omega)
  split
  · exact gr_tr (gr_bk h) (gr_take (A := 0) (B := 0) (by decide)) (by omega) (by omega) (by omega)
  split
  · exact gr_tr (gr_bk h) (gr_take (A := 0) (B := 0) (by decide)) (by omega) (by omega) (by omega)
  · exact gr_tr (gr_bv h) (gr_take (A := 0) (B := 0) (by decide)) (by omega) (by omega) (by omega)
theorem gr_acts {A : p_S → p_S} (hA : ∀ s, b_act s.2.1 = true → p_gr 12 0 s (A s)) : ∀ (m : Nat) (s : p_S), p_gr 12 0 s (p_acts A m s)
  | 0, _ => gr_rf
  | m + 1, s => by
    unfold p_acts
    split
    · next h => exact gr_tr (hA s h) (gr_acts hA m _) (by omega) (by omega) (by omega)
    · exact gr_rf
theorem gr_blk : ∀ (d : Nat) (s : p_S), p_gr 12 0 s (p_blk K Wd pN pn rN rc d s)
  | 0, s => gr_tr (gr_step (A := 0) (B := 0) (r := false) (fun h => absurd h (by decide))) (gr_take (A := 0) (B := 0) (by decide)) (by omega) (by omega) (by omega)
  | d + 1, s => gr_tr (gr_tr (A := 12) (B := 0) (gr_take (A := 0) (B := 0) (w := 27) (s := s) (by decide)) (gr_acts (fun s h => gr_act (fun s => gr_blk d s) h) 400 _) (by omega) (by omega) (by omega)) (gr_take (A := 0) (B := 0) (by decide)) (by omega) (by omega) (by omega)
theorem gr_recS {A B : Nat} {s : p_S} : p_gr A B s (p_recS K Wd pn pN rc rN s) := gr_tr (gr_take (A := 0) (B := 0) (by decide)) (gr_newn (A := 0) (B := 0)) (Nat.zero_le _) (Nat.zero_le _) (Nat.zero_le _)
theorem gr_panS {A B : Nat} {s : p_S} : p_gr A B s (p_panS K Wd pn pN s) := gr_tr (gr_tr (A := 0) (B := 0) (gr_tr (A := 0) (B := 0) (gr_tr (A := 0) (B := 0) (gr_tr (A := 0) (B := 0) (gr_take (A := 0) (B := 0) (by decide)) (gr_newn (A := 0) (B := 0)) (Nat.zero_le _) (Nat.zero_le _) (Nat.zero_le _)) (gr_take (A := 0) (B := 0) (by decide)) (Nat.zero_le _) (Nat.zero_le _) (Nat.zero_le _)) (gr_ci (A := 0) (B := 0)) (Nat.zero_le _) (Nat.zero_le _) (Nat.zero_le _)) (gr_take (A := 0) (B := 0) (by decide)) (Nat.zero_le _) (Nat.zero_le _) (Nat.zero_le _)) (gr_take (A := 0) (B := 0) (by decide)) (Nat.zero_le _) (Nat.zero_le _) (Nat.zero_le _)
end GR
theorem gr_recs {K : Nat → Nat} {Wd pN : Nat → Int64} {pn : Nat} : ∀ (m : Nat) (s : p_S) (rc : Nat) (rN : Nat → Int64) (RS : Nat → q_S), p_gr 12 0 s (b_recs K Wd pn pN m s rc rN RS).1
  | 0, _, _, _, _ => gr_rf
  | m + 1, s, rc, rN, RS => by
    unfold b_recs
    split
    · split
      · exact gr_tr (gr_tr (A := 12) (B := 0) (gr_recS (A := 0) (B := 0)) (gr_blk 6 _) (by omega) (by omega) (by omega)) (gr_recs m _ _ _ _) (by omega) (by omega) (by omega)
      · exact gr_tr (gr_tr (A := 12) (B := 0) (gr_recS (A := 0) (B := 0)) (gr_blk 6 _) (by omega) (by omega) (by omega)) (gr_recs m _ _ _ _) (by omega) (by omega) (by omega)
    · exact gr_rf
theorem gr_pans {K : Nat → Nat} {Wd : Nat → Int64} : ∀ (m : Nat) (s : p_S) (pn : Nat) (pN : Nat → Int64) (hd : Nat → Int32), p_gr 12 0 s (b_pans K Wd m s pn pN hd).1
  | 0, _, _, _, _ => gr_rf
  | m + 1, s, pn, pN, hd => by
    unfold b_pans
    split
    · split
      · exact gr_tr (gr_panS (A := 0) (B := 0)) (gr_pans m _ _ _ _) (by omega) (by omega) (by omega)
      · exact gr_tr (gr_panS (A := 0) (B := 0)) (gr_pans m _ _ _ _) (by omega) (by omega) (by omega)
    · exact gr_rf
theorem t_K_400 {g : Nat → Int32} {L : Nat} : 39 ≤ t_K g L 400 := by
  unfold t_K
  split
  · rw [if_neg (by decide)]
    decide
  · decide
/-- a book makes at most 412 objects beside its own five -/
theorem room_book {g : Nat → Int32} {L et n : Nat} : n ≤ (b_R (t_K g L) (t_W g L) et n).1.2.2.2.2.2 ∧ (b_R (t_K g L) (t_W g L) et n).1.2.2.2.2.2 ≤ n + 412 := by
  have ok0 : p_ok (t_K g L) 400 (0, t_K g L 0, 0, et, 0, n) := ⟨Nat.zero_le _, Or.inr rfl, Nat.zero_le _, fun h => absurd rfl h, Nat.le_refl _⟩
  have go := (go_pans (Wd := t_W g L) (t_K_400 (g := g) (L := L)) 400 (0, t_K g L 0, 0, et, 0, n) 0 (fun _ => 0) (fun _ => 0)).trans (go_recs (Wd := t_W g L) (pn := (b_P (t_K g L) (t_W g L) et n).2.1) (pN := (b_P (t_K g L) (t_W g L) et n).2.2.1) (t_K_400 (g := g) (L := L)) 400 _ 0 (fun _ => 0) (fun _ => k_nil))
  obtain ⟨ok1, le1⟩ := go ok0
  have gr : p_gr 12 0 (0, t_K g L 0, 0, et, 0, n) (b_R (t_K g L) (t_W g L) et n).1 := gr_tr (gr_pans 400 _ _ _ _) (gr_recs 400 _ _ _ _) (by omega) (by omega) (by omega)
  have h1 : (b_R (t_K g L) (t_W g L) et n).1.1 ≤ 400 := ok1.1
  refine ⟨le1.2.1, ?_⟩
  obtain ⟨-, g1, g2⟩ := gr
  by_cases h : t_K g L 0 = 40
  · have g2 := (g2 h).2
    have g2 : (b_R (t_K g L) (t_W g L) et n).1.2.2.2.2.2 + 0 ≤ n + (b_R (t_K g L) (t_W g L) et n).1.1 + 0 := g2
    omega
  · have g1 := g1 h
    have g1 : (b_R (t_K g L) (t_W g L) et n).1.2.2.2.2.2 + 0 ≤ n + (b_R (t_K g L) (t_W g L) et n).1.1 + (if (b_R (t_K g L) (t_W g L) et n).1.2.1 = 40 then 12 else 0) := g1
    split at g1
    · omega
    · omega
theorem fin_n {s : p_S} : (p_fin s).2.2.2.2.2 = s.2.2.2.2.2 := by
  unfold p_fin
  split
  · rfl
  · rfl

