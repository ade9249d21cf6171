/-! the class and the reference stand for the same -/
/-- warnings and notes are the same, as far as they can be asked -/
def X_E (v v' : q_V) : Prop := v 4 = v' 4 ∧ v 5 = v' 5 ∧ (∀ j, j < 6 → v (6 + j) = v' (6 + j)) ∧ (∀ i, i < min (k_T v) 20 → v (12 + (k_T v - 1 - i) % 20) = v' (12 + (k_T v - 1 - i) % 20)) ∧ (∀ i, i < min (k_N v) 20 → v (32 + (k_N v - 1 - i) % 20) = v' (32 + (k_N v - 1 - i) % 20))
theorem X_E_lo {v v' w w' : q_V} (h : X_E v v') (hw : ∀ q, 4 ≤ q → q < 52 → w q = v q ∧ w' q = v' q) : X_E w w' := by
  obtain ⟨a4, a5, ak, at', an⟩ := h
  have e4 := hw 4 (by decide) (by decide)
  have e5 := hw 5 (by decide) (by decide)
  have eT : k_T w = k_T v := by unfold k_T; rw [e4.1]
  have eN : k_N w = k_N v := by unfold k_N; rw [e5.1]
  refine ⟨by rw [e4.1, e4.2]; exact a4, by rw [e5.1, e5.2]; exact a5, fun j hj => ?_, fun i hi => ?_, fun i hi => ?_⟩
  · rw [(hw (6 + j) (by omega) (by omega)).1, (hw (6 + j) (by omega) (by omega)).2]; exact ak j hj
  · rw [eT] at hi ⊢
    have hm : (k_T v - 1 - i) % 20 < 20 := Nat.mod_lt _ (by decide)
    rw [(hw (12 + (k_T v - 1 - i) % 20) (by omega) (by omega)).1, (hw (12 + (k_T v - 1 - i) % 20) (by omega) (by omega)).2]
    exact at' i hi
  · rw [eN] at hi ⊢
    have hm : (k_N v - 1 - i) % 20 < 20 := Nat.mod_lt _ (by decide)
    rw [(hw (32 + (k_N v - 1 - i) % 20) (by omega) (by omega)).1, (hw (32 + (k_N v - 1 - i) % 20) (by omega) (by omega)).2]
    exact an i hi
theorem mod_step {T i : Nat} (h0 : 0 < i) (h1 : i < 20) (h2 : i ≤ T) : (T - i) % 20 ≠ T % 20 := by omega
theorem X_E_warn {v v' : q_V} {kd : Nat} (hk : kd < 6) (o : k_ok v) (o' : k_ok v') (h : X_E v v') : X_E (z_warn v (k_T v) kd) (z_warn v' (k_T v') kd) := by
  obtain ⟨a4, a5, ak, at', an⟩ := h
  have eT : k_T v' = k_T v := by unfold k_T; rw [a4]
  rw [eT]
  have hT : k_T v < 2 ^ 30 := o.1.2
  have hm : k_T v % 20 < 20 := Nat.mod_lt _ (by decide)
  have eTT : k_T (z_warn v (k_T v) kd) = k_T v + 1 := by
    show (z_warn v (k_T v) kd 4).toNatClampNeg = k_T v + 1
    rw [z_warn_4, nI_1]
    exact nI_clamp (by omega)
  have eNN : k_N (z_warn v (k_T v) kd) = k_N v := by unfold k_N; rw [z_warn_5]
  have hist : ∀ (u : q_V) (j : Nat), j < 20 → z_warn u (k_T v) kd (12 + j) = if j = k_T v % 20 then nI kd else u (12 + j) := by
    intro u j hj
    unfold z_warn
    rw [z_un (by omega), z_un (by omega)]
    by_cases e : j = k_T v % 20
    · subst e
      rw [z_us, if_pos rfl]
    · rw [if_neg e, z_un (by omega)]
  refine ⟨by rw [z_warn_4, z_warn_4], by rw [z_warn_5, z_warn_5]; exact a5, fun j hj => ?_, fun i hi => ?_, fun i hi => ?_⟩
  · rw [z_warn_k hk hj, z_warn_k hk hj, ak j hj]
  · rw [eTT] at hi ⊢
    have hj : (k_T v + 1 - 1 - i) % 20 < 20 := Nat.mod_lt _ (by decide)
    rw [hist v _ hj, hist v' _ hj]
    by_cases e : (k_T v + 1 - 1 - i) % 20 = k_T v % 20
    · rw [if_pos e, if_pos e]
    · rw [if_neg e, if_neg e]
      have h0 : 0 < i := by
        rcases Nat.eq_zero_or_pos i with h9 | h9
        · subst h9; exact absurd rfl e
        · exact h9
      rw [show k_T v + 1 - 1 - i = k_T v - 1 - (i - 1) by omega]
      exact at' (i - 1) (by omega)
  · rw [eNN] at hi ⊢
    have hj : (k_N v - 1 - i) % 20 < 20 := Nat.mod_lt _ (by decide)
    have en : ∀ (u : q_V) (j : Nat), j < 20 → z_warn u (k_T v) kd (32 + j) = u (32 + j) := by
      intro u j hj
      unfold z_warn
      rw [z_un (by omega), z_un (by omega), z_un (by omega)]
    rw [en v _ hj, en v' _ hj]
    exact an i hi
theorem X_E_note {v v' : q_V} {x : Int32} (o : k_ok v) (o' : k_ok v') (h : X_E v v') : X_E (z_note v (k_N v) x) (z_note v' (k_N v') x) := by
  obtain ⟨a4, a5, ak, at', an⟩ := h
  have eN : k_N v' = k_N v := by unfold k_N; rw [a5]
  rw [eN]
  have hN : k_N v < 2 ^ 30 := o.2.2
  have hm : k_N v % 20 < 20 := Nat.mod_lt _ (by decide)
  have e5 : ∀ u : q_V, z_note u (k_N v) x 5 = nI (k_N v) + 1 := fun u => by unfold z_note; rw [z_us]
  have elo : ∀ (u : q_V) (q : Nat), q ≠ 5 → q < 32 → z_note u (k_N v) x q = u q := fun u q h1 h2 => by unfold z_note; rw [z_un (by omega), z_un (by omega)]
  have eNN : k_N (z_note v (k_N v) x) = k_N v + 1 := by
    show (z_note v (k_N v) x 5).toNatClampNeg = k_N v + 1
    rw [e5, nI_1]
    exact nI_clamp (by omega)
  have eTT : k_T (z_note v (k_N v) x) = k_T v := by unfold k_T; rw [elo v 4 (by decide) (by decide)]
  have hist : ∀ (u : q_V) (j : Nat), j < 20 → z_note u (k_N v) x (32 + j) = if j = k_N v % 20 then x else u (32 + j) := by
    intro u j hj
    unfold z_note
    rw [z_un (by omega)]
    by_cases e : j = k_N v % 20
    · subst e
      rw [z_us, if_pos rfl]
    · rw [if_neg e, z_un (by omega)]
  refine ⟨by rw [elo v 4 (by decide) (by decide), elo v' 4 (by decide) (by decide)]; exact a4, by rw [e5, e5], fun j hj => ?_, fun i hi => ?_, fun i hi => ?_⟩
  · rw [elo v _ (by omega) (by omega), elo v' _ (by omega) (by omega)]; exact ak j hj
  · rw [eTT] at hi ⊢
    have hj : (k_T v - 1 - i) % 20 < 20 := Nat.mod_lt _ (by decide)
    rw [elo v _ (by omega) (by omega), elo v' _ (by omega) (by omega)]
    exact at' i hi
  · rw [eNN] at hi ⊢
    have hj : (k_N v + 1 - 1 - i) % 20 < 20 := Nat.mod_lt _ (by decide)
    rw [hist v _ hj, hist v' _ hj]
    by_cases e : (k_N v + 1 - 1 - i) % 20 = k_N v % 20
    · rw [if_pos e, if_pos e]
    · rw [if_neg e, if_neg e]
      have h0 : 0 < i := by
        rcases Nat.eq_zero_or_pos i with h9 | h9
        · subst h9; exact absurd rfl e
        · exact h9
      rw [show k_N v + 1 - 1 - i = k_N v - 1 - (i - 1) by omega]
      exact an (i - 1) (by omega)
theorem X_E_ok : x_ok X_E := ⟨fun _ _ _ _ h hw => X_E_lo h hw, fun _ _ _ hk o o' h => X_E_warn hk o o' h, fun _ _ _ o o' h => X_E_note o o' h⟩

/-- what is known of the class's cells -/
def JF (E : q_E) (a : Nat) (f : q_H) (ep : Int32) (L : Nat) (g : Nat → Int32) (bk0 et : Nat) (er0 c0 here0 : Int32) (k0 : Nat) (kk0 : Nat → Option Nat) (po0 : Nat → Int32) (wo0 : Nat → Int64) (b0 w0 b1 w1 : Int32) (bk pn rc : Nat) (ac : Int32) (gB : Nat → Option Nat) (hd v : q_V) (bt : Nat) (hdt vt : q_V) (lo hi : Nat) (RS : Nat → q_S) : Prop := f (a) = some (rX12 (some (a + 1)) (some (a + 3)) (some (a + 13)) (some (a + 33)) (some (a + 34)) (some (a + 54)) ep) ∧ f (a + 1) = some (cTape (a + 1) (nI L)) ∧ f (a + 2) = some (aB E 1600 g) ∧ f (a + 3) = some (cPar (a + 3) bk0 er0 (nI et)) ∧ f (a + 4) = some (cTok E (a + 4) c0 here0 k0) ∧ f (a + 5) = some (aQ E 5 401 kk0) ∧ f (a + 6) = some (aI E 401 po0) ∧ f (a + 7) = some (aJ E 401 wo0) ∧ f (a + 33) = some (cCook (a + 13) b0 w0) ∧ f (a + 54) = some (cCook (a + 34) b1 w1) ∧ f (bk) = some (cBook bk (nI pn) (nI rc) ac) ∧ f (bk + 4) = some (aQ E 3 6 gB) ∧ KIT E f (a + 13) bk hd v ∧ KIT E f (a + 34) bt hdt vt ∧ rRS E pn lo hi f RS gB rc
/-- what is known of its numbers, and of the reference's -/
def JQ (a n BB : Nat) (L : Nat) (g : Nat → Int32) (pn rc : Nat) (ac ep : Int32) (bk lo hi : Nat) (RS : Nat → q_S) (hd v : q_V) (r : q_R) : Prop := L ≤ 1600 ∧ pn ≤ 8 ∧ rc ≤ 6 ∧ (bk = a + 20 ∨ a + 100 ≤ bk) ∧ a + 100 ≤ lo ∧ hi ≤ n ∧ bk + 4 < n ∧ a + 100 ≤ n ∧ k_inv BB (v, 0, (-1)) ∧ k_inv BB (r 42, 0, (-1)) ∧ r 120 0 = nI pn ∧ r 121 0 = nI rc ∧ r 122 0 = ac ∧ r 102 0 = ep ∧ r_tp r g L ∧ mRS (bR r 8) pn 400 400 80 RS rc ∧ v_ok pn (r 9) (r 42) ∧ v_rel pn hd (r 9) v (r 42) ∧ X_E v (r 42)
/-- the same stands in both -/
def JJ (E : q_E) (a BB : Nat) (f : q_H) (n : Nat) : Prop := ∃ (ep : Int32) (L : Nat) (g : Nat → Int32) (bk0 et : Nat) (er0 c0 here0 : Int32) (k0 : Nat) (kk0 : Nat → Option Nat) (po0 : Nat → Int32) (wo0 : Nat → Int64) (b0 w0 b1 w1 : Int32) (bk pn rc : Nat) (ac : Int32) (gB : Nat → Option Nat) (hd v : q_V) (bt : Nat) (hdt vt : q_V) (lo hi : Nat) (RS : Nat → q_S) (r : q_R) (og : Nat → Int64), JF E a f ep L g bk0 et er0 c0 here0 k0 kk0 po0 wo0 b0 w0 b1 w1 bk pn rc ac gB hd v bt hdt vt lo hi RS ∧ JQ a n BB L g pn rc ac ep bk lo hi RS hd v r ∧ RM E f (a + 55) r ∧ f (a + 99) = some (aJ E 1 og)
theorem rep_RSf {E : q_E} {pn lo hi n : Nat} {f f' : q_H} {RS : Nat → q_S} {g : Nat → Option Nat} {R : Nat} (fr : ∀ q, lo ≤ q → q < hi → f' q = f q) (h : rRS E pn lo hi f RS g R) : rRS E pn lo hi f' RS g R := rep_RS fr h
/-- cells beside the class's change nothing of it -/
theorem JF.frame {E : q_E} {a n : Nat} {f f' : q_H} {ep : Int32} {L : Nat} {g : Nat → Int32} {bk0 et : Nat} {er0 c0 here0 : Int32} {k0 : Nat} {kk0 : Nat → Option Nat} {po0 : Nat → Int32} {wo0 : Nat → Int64} {b0 w0 b1 w1 : Int32} {bk pn rc : Nat} {ac : Int32} {gB : Nat → Option Nat} {hd v : q_V} {bt : Nat} {hdt vt : q_V} {lo hi : Nat} {RS : Nat → q_S} (h : JF E a f ep L g bk0 et er0 c0 here0 k0 kk0 po0 wo0 b0 w0 b1 w1 bk pn rc ac gB hd v bt hdt vt lo hi RS) (fr : ∀ q, (q < a + 55 ∨ (a + 100 ≤ q ∧ q < n)) → f' q = f q) (hb : bk = a + 20 ∨ a + 100 ≤ bk) (hb2 : bk + 4 < n) (hlo : a + 100 ≤ lo) (hhi : hi ≤ n) : JF E a f' ep L g bk0 et er0 c0 here0 k0 kk0 po0 wo0 b0 w0 b1 w1 bk pn rc ac gB hd v bt hdt vt lo hi RS := by
  obtain ⟨c1, c2, c3, c4, c5, c6, c7, c8, c9, c10, c12, c13, k1, k2, s1⟩ := h
  exact ⟨(fr _ (by omega)).trans c1, (fr _ (by omega)).trans c2, (fr _ (by omega)).trans c3, (fr _ (by omega)).trans c4, (fr _ (by omega)).trans c5, (fr _ (by omega)).trans c6, (fr _ (by omega)).trans c7, (fr _ (by omega)).trans c8, (fr _ (by omega)).trans c9, (fr _ (by omega)).trans c10, (fr _ (by omega)).trans c12, (fr _ (by omega)).trans c13, k1.other (fun q hq => fr q (by unfold kOut at hq; omega)), k2.other (fun q hq => fr q (by unfold kOut at hq; omega)), rep_RS (fun q h1 h2 => fr q (by omega)) s1⟩
/-- the kitchen is another -/
theorem JF.kit {E : q_E} {a : Nat} {f : q_H} {ep : Int32} {L : Nat} {g : Nat → Int32} {bk0 et : Nat} {er0 c0 here0 : Int32} {k0 : Nat} {kk0 : Nat → Option Nat} {po0 : Nat → Int32} {wo0 : Nat → Int64} {b0 w0 b1 w1 : Int32} {bk pn rc : Nat} {ac : Int32} {gB : Nat → Option Nat} {hd v : q_V} {bt : Nat} {hdt vt : q_V} {lo hi : Nat} {RS : Nat → q_S} {w : q_V} (h : JF E a f ep L g bk0 et er0 c0 here0 k0 kk0 po0 wo0 b0 w0 b1 w1 bk pn rc ac gB hd v bt hdt vt lo hi RS) (hb : bk = a + 20 ∨ a + 100 ≤ bk) (hlo : a + 100 ≤ lo) : JF E a (kO E f (a + 13) bk hd w) ep L g bk0 et er0 c0 here0 k0 kk0 po0 wo0 b0 w0 b1 w1 bk pn rc ac gB hd w bt hdt vt lo hi RS := by
  obtain ⟨c1, c2, c3, c4, c5, c6, c7, c8, c9, c10, c12, c13, k1, k2, s1⟩ := h
  exact ⟨((kO_out (by unfold kOut; omega)).trans c1), ((kO_out (by unfold kOut; omega)).trans c2), ((kO_out (by unfold kOut; omega)).trans c3), ((kO_out (by unfold kOut; omega)).trans c4), ((kO_out (by unfold kOut; omega)).trans c5), ((kO_out (by unfold kOut; omega)).trans c6), ((kO_out (by unfold kOut; omega)).trans c7), ((kO_out (by unfold kOut; omega)).trans c8), ((kO_out (by unfold kOut; omega)).trans c9), ((kO_out (by unfold kOut; omega)).trans c10), ((kO_out (by unfold kOut; omega)).trans c12), ((kO_out (by unfold kOut; omega)).trans c13), kO_K, k2.other (fun q hq => ((kO_out (by unfold kOut at *; omega)).trans rfl)), rep_RS (fun q h1 h2 => ((kO_out (by unfold kOut; omega)).trans rfl)) s1⟩
/-- something was cooked -/
theorem JF.cook {E : q_E} {a : Nat} {f : q_H} {ep : Int32} {L : Nat} {g : Nat → Int32} {bk0 et : Nat} {er0 c0 here0 : Int32} {k0 : Nat} {kk0 : Nat → Option Nat} {po0 : Nat → Int32} {wo0 : Nat → Int64} {b0 w0 b1 w1 : Int32} {bk pn rc : Nat} {ac : Int32} {gB : Nat → Option Nat} {hd v : q_V} {bt : Nat} {hdt vt : q_V} {lo hi : Nat} {RS : Nat → q_S} {w : q_V} {b w9 : Int32} (h : JF E a f ep L g bk0 et er0 c0 here0 k0 kk0 po0 wo0 b0 w0 b1 w1 bk pn rc ac gB hd v bt hdt vt lo hi RS) (hb : bk = a + 20 ∨ a + 100 ≤ bk) (hlo : a + 100 ≤ lo) : JF E a (kO E (va_up f (a + 33) (some (cCook (a + 13) b w9))) (a + 13) bk hd w) ep L g bk0 et er0 c0 here0 k0 kk0 po0 wo0 b w9 b1 w1 bk pn rc ac gB hd w bt hdt vt lo hi RS := by
  obtain ⟨c1, c2, c3, c4, c5, c6, c7, c8, c9, c10, c12, c13, k1, k2, s1⟩ := h
  exact ⟨((kO_out (by unfold kOut; omega)).trans ((va_up_ne _ _ (by omega)).trans c1)), ((kO_out (by unfold kOut; omega)).trans ((va_up_ne _ _ (by omega)).trans c2)), ((kO_out (by unfold kOut; omega)).trans ((va_up_ne _ _ (by omega)).trans c3)), ((kO_out (by unfold kOut; omega)).trans ((va_up_ne _ _ (by omega)).trans c4)), ((kO_out (by unfold kOut; omega)).trans ((va_up_ne _ _ (by omega)).trans c5)), ((kO_out (by unfold kOut; omega)).trans ((va_up_ne _ _ (by omega)).trans c6)), ((kO_out (by unfold kOut; omega)).trans ((va_up_ne _ _ (by omega)).trans c7)), ((kO_out (by unfold kOut; omega)).trans ((va_up_ne _ _ (by omega)).trans c8)), ((kO_out (by unfold kOut; omega)).trans q_eq), ((kO_out (by unfold kOut; omega)).trans ((va_up_ne _ _ (by omega)).trans c10)), ((kO_out (by unfold kOut; omega)).trans ((va_up_ne _ _ (by omega)).trans c12)), ((kO_out (by unfold kOut; omega)).trans ((va_up_ne _ _ (by omega)).trans c13)), kO_K, k2.other (fun q hq => ((kO_out (by unfold kOut at *; omega)).trans ((va_up_ne _ _ (by unfold kOut at hq; omega)).trans rfl))), rep_RS (fun q h1 h2 => ((kO_out (by unfold kOut; omega)).trans ((va_up_ne _ _ (by omega)).trans rfl))) s1⟩
/-- something was tried -/
theorem JF.trial {E : q_E} {a : Nat} {f : q_H} {ep : Int32} {L : Nat} {g : Nat → Int32} {bk0 et : Nat} {er0 c0 here0 : Int32} {k0 : Nat} {kk0 : Nat → Option Nat} {po0 : Nat → Int32} {wo0 : Nat → Int64} {b0 w0 b1 w1 : Int32} {bk pn rc : Nat} {ac : Int32} {gB : Nat → Option Nat} {hd v : q_V} {bt : Nat} {hdt vt : q_V} {lo hi : Nat} {RS : Nat → q_S} {bt9 : Nat} {hd9 w : q_V} {b w9 : Int32} (h : JF E a f ep L g bk0 et er0 c0 here0 k0 kk0 po0 wo0 b0 w0 b1 w1 bk pn rc ac gB hd v bt hdt vt lo hi RS) (hb : bk = a + 20 ∨ a + 100 ≤ bk) (hlo : a + 100 ≤ lo) : JF E a (kO E (va_up f (a + 54) (some (cCook (a + 34) b w9))) (a + 34) bt9 hd9 w) ep L g bk0 et er0 c0 here0 k0 kk0 po0 wo0 b0 w0 b w9 bk pn rc ac gB hd v bt9 hd9 w lo hi RS := by
  obtain ⟨c1, c2, c3, c4, c5, c6, c7, c8, c9, c10, c12, c13, k1, k2, s1⟩ := h
  exact ⟨((kO_out (by unfold kOut; omega)).trans ((va_up_ne _ _ (by omega)).trans c1)), ((kO_out (by unfold kOut; omega)).trans ((va_up_ne _ _ (by omega)).trans c2)), ((kO_out (by unfold kOut; omega)).trans ((va_up_ne _ _ (by omega)).trans c3)), ((kO_out (by unfold kOut; omega)).trans ((va_up_ne _ _ (by omega)).trans c4)), ((kO_out (by unfold kOut; omega)).trans ((va_up_ne _ _ (by omega)).trans c5)), ((kO_out (by unfold kOut; omega)).trans ((va_up_ne _ _ (by omega)).trans c6)), ((kO_out (by unfold kOut; omega)).trans ((va_up_ne _ _ (by omega)).trans c7)), ((kO_out (by unfold kOut; omega)).trans ((va_up_ne _ _ (by omega)).trans c8)), ((kO_out (by unfold kOut; omega)).trans ((va_up_ne _ _ (by omega)).trans c9)), ((kO_out (by unfold kOut; omega)).trans q_eq), ((kO_out (by unfold kOut; omega)).trans ((va_up_ne _ _ (by omega)).trans c12)), ((kO_out (by unfold kOut; omega)).trans ((va_up_ne _ _ (by omega)).trans c13)), k1.other (fun q hq => ((kO_out (by unfold kOut at *; omega)).trans ((va_up_ne _ _ (by unfold kOut at hq; omega)).trans rfl))), kO_K, rep_RS (fun q h1 h2 => ((kO_out (by unfold kOut; omega)).trans ((va_up_ne _ _ (by omega)).trans rfl))) s1⟩
/-- the tape is shorter -/
theorem JF.trim {E : q_E} {a : Nat} {f : q_H} {ep : Int32} {L : Nat} {g : Nat → Int32} {bk0 et : Nat} {er0 c0 here0 : Int32} {k0 : Nat} {kk0 : Nat → Option Nat} {po0 : Nat → Int32} {wo0 : Nat → Int64} {b0 w0 b1 w1 : Int32} {bk pn rc : Nat} {ac : Int32} {gB : Nat → Option Nat} {hd v : q_V} {bt : Nat} {hdt vt : q_V} {lo hi : Nat} {RS : Nat → q_S} {L9 : Nat} (h : JF E a f ep L g bk0 et er0 c0 here0 k0 kk0 po0 wo0 b0 w0 b1 w1 bk pn rc ac gB hd v bt hdt vt lo hi RS) (hb : bk = a + 20 ∨ a + 100 ≤ bk) (hlo : a + 100 ≤ lo) : JF E a (va_up f (a + 1) (some (cTape (a + 1) (nI L9)))) ep L9 g bk0 et er0 c0 here0 k0 kk0 po0 wo0 b0 w0 b1 w1 bk pn rc ac gB hd v bt hdt vt lo hi RS := by
  obtain ⟨c1, c2, c3, c4, c5, c6, c7, c8, c9, c10, c12, c13, k1, k2, s1⟩ := h
  exact ⟨((va_up_ne _ _ (by omega)).trans c1), q_eq, ((va_up_ne _ _ (by omega)).trans c3), ((va_up_ne _ _ (by omega)).trans c4), ((va_up_ne _ _ (by omega)).trans c5), ((va_up_ne _ _ (by omega)).trans c6), ((va_up_ne _ _ (by omega)).trans c7), ((va_up_ne _ _ (by omega)).trans c8), ((va_up_ne _ _ (by omega)).trans c9), ((va_up_ne _ _ (by omega)).trans c10), ((va_up_ne _ _ (by omega)).trans c12), ((va_up_ne _ _ (by omega)).trans c13), k1.other (fun q hq => ((va_up_ne _ _ (by unfold kOut at hq; omega)).trans rfl)), k2.other (fun q hq => ((va_up_ne _ _ (by unfold kOut at hq; omega)).trans rfl)), rep_RS (fun q h1 h2 => ((va_up_ne _ _ (by omega)).trans rfl)) s1⟩
/-- the tape is longer -/
theorem JF.feed {E : q_E} {a : Nat} {f : q_H} {ep : Int32} {L : Nat} {g : Nat → Int32} {bk0 et : Nat} {er0 c0 here0 : Int32} {k0 : Nat} {kk0 : Nat → Option Nat} {po0 : Nat → Int32} {wo0 : Nat → Int64} {b0 w0 b1 w1 : Int32} {bk pn rc : Nat} {ac : Int32} {gB : Nat → Option Nat} {hd v : q_V} {bt : Nat} {hdt vt : q_V} {lo hi : Nat} {RS : Nat → q_S} {L9 : Nat} {g9 : Nat → Int32} (h : JF E a f ep L g bk0 et er0 c0 here0 k0 kk0 po0 wo0 b0 w0 b1 w1 bk pn rc ac gB hd v bt hdt vt lo hi RS) (hb : bk = a + 20 ∨ a + 100 ≤ bk) (hlo : a + 100 ≤ lo) : JF E a (va_up (va_up f (a + 1) (some (cTape (a + 1) (nI L9)))) (a + 2) (some (aB E 1600 g9))) ep L9 g9 bk0 et er0 c0 here0 k0 kk0 po0 wo0 b0 w0 b1 w1 bk pn rc ac gB hd v bt hdt vt lo hi RS := by
  obtain ⟨c1, c2, c3, c4, c5, c6, c7, c8, c9, c10, c12, c13, k1, k2, s1⟩ := h
  exact ⟨((va_up_ne _ _ (by omega)).trans ((va_up_ne _ _ (by omega)).trans c1)), ((va_up_ne _ _ (by omega)).trans q_eq), q_eq, ((va_up_ne _ _ (by omega)).trans ((va_up_ne _ _ (by omega)).trans c4)), ((va_up_ne _ _ (by omega)).trans ((va_up_ne _ _ (by omega)).trans c5)), ((va_up_ne _ _ (by omega)).trans ((va_up_ne _ _ (by omega)).trans c6)), ((va_up_ne _ _ (by omega)).trans ((va_up_ne _ _ (by omega)).trans c7)), ((va_up_ne _ _ (by omega)).trans ((va_up_ne _ _ (by omega)).trans c8)), ((va_up_ne _ _ (by omega)).trans ((va_up_ne _ _ (by omega)).trans c9)), ((va_up_ne _ _ (by omega)).trans ((va_up_ne _ _ (by omega)).trans c10)), ((va_up_ne _ _ (by omega)).trans ((va_up_ne _ _ (by omega)).trans c12)), ((va_up_ne _ _ (by omega)).trans ((va_up_ne _ _ (by omega)).trans c13)), k1.other (fun q hq => ((va_up_ne _ _ (by unfold kOut at hq; omega)).trans ((va_up_ne _ _ (by unfold kOut at hq; omega)).trans rfl))), k2.other (fun q hq => ((va_up_ne _ _ (by unfold kOut at hq; omega)).trans ((va_up_ne _ _ (by unfold kOut at hq; omega)).trans rfl))), rep_RS (fun q h1 h2 => ((va_up_ne _ _ (by omega)).trans ((va_up_ne _ _ (by omega)).trans rfl))) s1⟩
theorem tp_row {r : q_R} {g : Nat → Int32} {L j : Nat} {x : Nat → Int32} (h1 : j ≠ 1) (h2 : j ≠ 101) (h : r_tp r g L) : r_tp (rp r j x) g L := ⟨by rw [rp_n (fun e => h2 e.symm)]; exact h.1, h.2.1, fun i hi => by rw [rp_n (fun e => h1 e.symm)]; exact h.2.2 i hi⟩
theorem JQ.row {a n BB : Nat} {L : Nat} {g : Nat → Int32} {pn rc : Nat} {ac ep : Int32} {bk lo hi : Nat} {RS : Nat → q_S} {hd v : q_V} {r : q_R} {j : Nat} {x : Nat → Int32} {n9 : Nat} (h : JQ a n BB L g pn rc ac ep bk lo hi RS hd v r) (hn : n ≤ n9) (h1 : j = 43 ∨ j = 100 ∨ j = 110 ∨ j = 111) : JQ a n9 BB L g pn rc ac ep bk lo hi RS hd v (rp r j x) := by
  obtain ⟨p1, p2, p3, p4, p5, p6, p7, p8, i1, i2, r1, r2, r3, r4, r5, r6, r7, r8, r9⟩ := h
  have e : ∀ q, (q ≠ 43 ∧ q ≠ 100 ∧ q ≠ 110 ∧ q ≠ 111) → rp r j x q = r q := fun q hq => rp_n (by omega)
  refine ⟨p1, p2, p3, p4, p5, by omega, by omega, by omega, i1, ?_, ?_, ?_, ?_, ?_, tp_row (by omega) (by omega) r5, ?_, ?_, ?_, ?_⟩
  · rw [e 42 (by decide)]; exact i2
  · rw [e 120 (by decide)]; exact r1
  · rw [e 121 (by decide)]; exact r2
  · rw [e 122 (by decide)]; exact r3
  · rw [e 102 (by decide)]; exact r4
  · rw [bR8 (by omega)]; exact r6
  · rw [e 9 (by decide), e 42 (by decide)]; exact r7
  · rw [e 9 (by decide), e 42 (by decide)]; exact r8
  · rw [e 42 (by decide)]; exact r9
theorem k_inv_le {A B : Nat} {s : q_KS} (h : k_inv A s) (hB : A ≤ B) : k_inv B s := by
  obtain ⟨h1, ⟨h2, h3⟩, h4, h5⟩ := h
  exact ⟨h1, ⟨h2, by omega⟩, h4, by omega⟩
theorem JQ.le {a n BB : Nat} {L : Nat} {g : Nat → Int32} {pn rc : Nat} {ac ep : Int32} {bk lo hi : Nat} {RS : Nat → q_S} {hd v : q_V} {r : q_R} {B9 n9 : Nat} (h : JQ a n BB L g pn rc ac ep bk lo hi RS hd v r) (hB : BB ≤ B9) (hn : n ≤ n9) : JQ a n9 B9 L g pn rc ac ep bk lo hi RS hd v r := by
  obtain ⟨p1, p2, p3, p4, p5, p6, p7, p8, i1, i2, r1, r2, r3, r4, r5, r6, r7, r8, r9⟩ := h
  exact ⟨p1, p2, p3, p4, p5, by omega, by omega, by omega, k_inv_le i1 hB, k_inv_le i2 hB, r1, r2, r3, r4, r5, r6, r7, r8, r9⟩
/-- both kitchens change alike -/
theorem JQ.kit {a n BB : Nat} {L : Nat} {g : Nat → Int32} {pn rc : Nat} {ac ep : Int32} {bk lo hi : Nat} {RS : Nat → q_S} {hd v : q_V} {r : q_R} {w w' : q_V} (h : JQ a n BB L g pn rc ac ep bk lo hi RS hd v r) (j1 : k_inv BB (w, 0, (-1))) (j2 : k_inv BB (w', 0, (-1))) (hvo : v_ok pn (r 9) w') (hr : v_rel pn hd (r 9) w w') (hx : X_E w w') : JQ a n BB L g pn rc ac ep bk lo hi RS hd w (rp r 42 w') := by
  obtain ⟨p1, p2, p3, p4, p5, p6, p7, p8, i1, i2, r1, r2, r3, r4, r5, r6, r7, r8, r9⟩ := h
  refine ⟨p1, p2, p3, p4, p5, p6, p7, p8, j1, ?_, ?_, ?_, ?_, ?_, tp_row (by decide) (by decide) r5, ?_, ?_, ?_, ?_⟩
  · rw [rp_s]; exact j2
  · rw [rp_n (by decide)]; exact r1
  · rw [rp_n (by decide)]; exact r2
  · rw [rp_n (by decide)]; exact r3
  · rw [rp_n (by decide)]; exact r4
  · rw [bR8 (by omega)]; exact r6
  · rw [rp_n (by decide), rp_s]; exact hvo
  · rw [rp_n (by decide), rp_s]; exact hr
  · rw [rp_s]; exact hx
theorem JQ.tape {a n BB : Nat} {L : Nat} {g : Nat → Int32} {pn rc : Nat} {ac ep : Int32} {bk lo hi : Nat} {RS : Nat → q_S} {hd v : q_V} {r : q_R} {L9 : Nat} {g9 x : Nat → Int32} (h : JQ a n BB L g pn rc ac ep bk lo hi RS hd v r) (hL : L9 ≤ 1600) (ht : ∀ j, j < L9 → x j = t_at g9 L9 j) : JQ a n BB L9 g9 pn rc ac ep bk lo hi RS hd v (rp (rp r 1 x) 101 (fun _ => nI L9)) := by
  obtain ⟨p1, p2, p3, p4, p5, p6, p7, p8, i1, i2, r1, r2, r3, r4, r5, r6, r7, r8, r9⟩ := h
  refine ⟨hL, p2, p3, p4, p5, p6, p7, p8, i1, ?_, ?_, ?_, ?_, ?_, ⟨by rw [rp_s], hL, fun j hj => by rw [rp_n (by decide), rp_s]; exact ht j hj⟩, ?_, ?_, ?_, ?_⟩
  · rw [rp_n (by decide), rp_n (by decide)]; exact i2
  · rw [rp_n (by decide), rp_n (by decide)]; exact r1
  · rw [rp_n (by decide), rp_n (by decide)]; exact r2
  · rw [rp_n (by decide), rp_n (by decide)]; exact r3
  · rw [rp_n (by decide), rp_n (by decide)]; exact r4
  · rw [bR8 (by omega), bR8 (by omega)]; exact r6
  · rw [rp_n (by decide), rp_n (by decide), rp_n (by decide), rp_n (by decide)]; exact r7
  · rw [rp_n (by decide), rp_n (by decide), rp_n (by decide), rp_n (by decide)]; exact r8
  · rw [rp_n (by decide), rp_n (by decide)]; exact r9
theorem JQ.trim {a n BB : Nat} {L : Nat} {g : Nat → Int32} {pn rc : Nat} {ac ep : Int32} {bk lo hi : Nat} {RS : Nat → q_S} {hd v : q_V} {r : q_R} {L9 : Nat} (h : JQ a n BB L g pn rc ac ep bk lo hi RS hd v r) (hL : L9 ≤ L) : JQ a n BB L9 g pn rc ac ep bk lo hi RS hd v (rp r 101 (fun _ => nI L9)) := by
  obtain ⟨p1, p2, p3, p4, p5, p6, p7, p8, i1, i2, r1, r2, r3, r4, r5, r6, r7, r8, r9⟩ := h
  refine ⟨by omega, p2, p3, p4, p5, p6, p7, p8, i1, ?_, ?_, ?_, ?_, ?_, ⟨by rw [rp_s], by omega, fun j hj => by rw [rp_n (by decide), r5.2.2 j (by omega)]; unfold t_at; rw [if_pos (by omega), if_pos hj]⟩, ?_, ?_, ?_, ?_⟩
  · rw [rp_n (by decide)]; exact i2
  · rw [rp_n (by decide)]; exact r1
  · rw [rp_n (by decide)]; exact r2
  · rw [rp_n (by decide)]; exact r3
  · rw [rp_n (by decide)]; exact r4
  · rw [bR8 (by omega)]; exact r6
  · rw [rp_n (by decide), rp_n (by decide)]; exact r7
  · rw [rp_n (by decide), rp_n (by decide)]; exact r8
  · rw [rp_n (by decide)]; exact r9

/-- a pair of calls: the class's by the law's own method, then the reference's: they agree, and all stands as before -/
def PAIR (l : Launch) (E : q_E) (a : Nat) (J9 : q_H → Nat → Prop) (yw : MethodName) (wsw : List Cond) (ym : MethodName) (wsm : List Cond) (av : List Value) (f : q_H) (n : Nat) : Prop :=
  ∃ (k : Int32) (P1 : q_H → Nat → Prop) (fr c1 s1 lo : Nat), fr ≤ 400 ∧ c1 ≤ 2 ∧ s1 ≤ 20 ∧ lo ≤ 14000 ∧
    vx_Met l yw wsw { frames := fr, cells := c1, slots := s1, locals := lo } (q_PN E (.ref a :: (av ++ [.ref (a + 99)])) f n) (q_Qi E (fun r0 f1 n1 => k = r0 ∧ P1 f1 n1)) (q_XN E) c1 s1 (q_ge E) ∧
    ∀ f1 n1, P1 f1 n1 → ∃ (b : Int32) (P2 : q_H → Nat → Prop) (fr2 c2 s2 lo2 : Nat), fr2 ≤ 400 ∧ c2 ≤ 2 ∧ s2 ≤ 20 ∧ lo2 ≤ 14000 ∧
      Met l ym wsm { frames := fr2, cells := c2, slots := s2, locals := lo2 } (q_P E (.ref (a + 55) :: av) f1 n1) (q_Qi E (fun r0 f2 n2 => b = r0 ∧ P2 f2 n2)) c2 s2 (q_ge E) ∧
      (∃ q1 q2 q3 q4 q5 q6 ep, f1 a = some (rX12 q1 q2 q3 q4 q5 q6 ep)) ∧ (∃ r, RM E f1 (a + 55) r) ∧
      ∀ f2 n2, P2 f2 n2 → ∃ (r : q_R) (og : Nat → Int64), RM E f2 (a + 55) r ∧ r 100 0 = k ∧ f2 (a + 99) = some (aJ E 1 og) ∧ (k = 0 → og 0 = b.toInt64) ∧ J9 f2 n2
