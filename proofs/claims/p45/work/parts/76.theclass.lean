/-! the class as one thing -/
/-- what is known of the class's cells -/
def JF (E : q_E) (a : Nat) (f : q_H) (ep : Int32) (L : Nat) (g : Nat → Int32) (bk0 et : Nat) (er0 c0 here0 : Int32) (k0 : Nat) (kk0 : Nat → Option Nat) (po0 : Nat → Int32) (wo0 : Nat → Int64) (b0 w0 b1 w1 : Int32) (bk pn rc : Nat) (ac : Int32) (gB : Nat → Option Nat) (hd v : q_V) (bt : Nat) (hdt vt : q_V) (lo hi : Nat) (RS : Nat → q_S) : Prop := f (a) = some (rX12 (some (a + 1)) (some (a + 3)) (some (a + 13)) (some (a + 33)) (some (a + 34)) (some (a + 54)) ep) ∧ f (a + 1) = some (cTape (a + 1) (nI L)) ∧ f (a + 2) = some (aB E 1600 g) ∧ f (a + 3) = some (cPar (a + 3) bk0 er0 (nI et)) ∧ f (a + 4) = some (cTok E (a + 4) c0 here0 k0) ∧ f (a + 5) = some (aQ E 5 401 kk0) ∧ f (a + 6) = some (aI E 401 po0) ∧ f (a + 7) = some (aJ E 401 wo0) ∧ f (a + 33) = some (cCook (a + 13) b0 w0) ∧ f (a + 54) = some (cCook (a + 34) b1 w1) ∧ f (bk) = some (cBook bk (nI pn) (nI rc) ac) ∧ f (bk + 4) = some (aQ E 3 6 gB) ∧ KIT E f (a + 13) bk hd v ∧ KIT E f (a + 34) bt hdt vt ∧ rRS E pn lo hi f RS gB rc
theorem rep_RSf {E : q_E} {pn lo hi n : Nat} {f f' : q_H} {RS : Nat → q_S} {g : Nat → Option Nat} {R : Nat} (fr : ∀ q, lo ≤ q → q < hi → f' q = f q) (h : rRS E pn lo hi f RS g R) : rRS E pn lo hi f' RS g R := rep_RS fr h
/-- the kitchen is another -/
theorem JF.kit {E : q_E} {a : Nat} {f : q_H} {ep : Int32} {L : Nat} {g : Nat → Int32} {bk0 et : Nat} {er0 c0 here0 : Int32} {k0 : Nat} {kk0 : Nat → Option Nat} {po0 : Nat → Int32} {wo0 : Nat → Int64} {b0 w0 b1 w1 : Int32} {bk pn rc : Nat} {ac : Int32} {gB : Nat → Option Nat} {hd v : q_V} {bt : Nat} {hdt vt : q_V} {lo hi : Nat} {RS : Nat → q_S} {w : q_V} (h : JF E a f ep L g bk0 et er0 c0 here0 k0 kk0 po0 wo0 b0 w0 b1 w1 bk pn rc ac gB hd v bt hdt vt lo hi RS) (hb : bk = a + 20 ∨ a + 55 ≤ bk) (hlo : a + 55 ≤ lo) : JF E a (kO E f (a + 13) bk hd w) ep L g bk0 et er0 c0 here0 k0 kk0 po0 wo0 b0 w0 b1 w1 bk pn rc ac gB hd w bt hdt vt lo hi RS := by
  obtain ⟨c1, c2, c3, c4, c5, c6, c7, c8, c9, c10, c12, c13, k1, k2, s1⟩ := h
  exact ⟨((kO_out (by unfold kOut; omega)).trans c1), ((kO_out (by unfold kOut; omega)).trans c2), ((kO_out (by unfold kOut; omega)).trans c3), ((kO_out (by unfold kOut; omega)).trans c4), ((kO_out (by unfold kOut; omega)).trans c5), ((kO_out (by unfold kOut; omega)).trans c6), ((kO_out (by unfold kOut; omega)).trans c7), ((kO_out (by unfold kOut; omega)).trans c8), ((kO_out (by unfold kOut; omega)).trans c9), ((kO_out (by unfold kOut; omega)).trans c10), ((kO_out (by unfold kOut; omega)).trans c12), ((kO_out (by unfold kOut; omega)).trans c13), kO_K, k2.other (fun q hq => ((kO_out (by unfold kOut at *; omega)).trans rfl)), rep_RS (fun q h1 h2 => ((kO_out (by unfold kOut; omega)).trans rfl)) s1⟩
/-- something was cooked -/
theorem JF.cook {E : q_E} {a : Nat} {f : q_H} {ep : Int32} {L : Nat} {g : Nat → Int32} {bk0 et : Nat} {er0 c0 here0 : Int32} {k0 : Nat} {kk0 : Nat → Option Nat} {po0 : Nat → Int32} {wo0 : Nat → Int64} {b0 w0 b1 w1 : Int32} {bk pn rc : Nat} {ac : Int32} {gB : Nat → Option Nat} {hd v : q_V} {bt : Nat} {hdt vt : q_V} {lo hi : Nat} {RS : Nat → q_S} {w : q_V} {b w9 : Int32} (h : JF E a f ep L g bk0 et er0 c0 here0 k0 kk0 po0 wo0 b0 w0 b1 w1 bk pn rc ac gB hd v bt hdt vt lo hi RS) (hb : bk = a + 20 ∨ a + 55 ≤ bk) (hlo : a + 55 ≤ lo) : JF E a (kO E (va_up f (a + 33) (some (cCook (a + 13) b w9))) (a + 13) bk hd w) ep L g bk0 et er0 c0 here0 k0 kk0 po0 wo0 b w9 b1 w1 bk pn rc ac gB hd w bt hdt vt lo hi RS := by
  obtain ⟨c1, c2, c3, c4, c5, c6, c7, c8, c9, c10, c12, c13, k1, k2, s1⟩ := h
  exact ⟨((kO_out (by unfold kOut; omega)).trans ((va_up_ne _ _ (by omega)).trans c1)), ((kO_out (by unfold kOut; omega)).trans ((va_up_ne _ _ (by omega)).trans c2)), ((kO_out (by unfold kOut; omega)).trans ((va_up_ne _ _ (by omega)).trans c3)), ((kO_out (by unfold kOut; omega)).trans ((va_up_ne _ _ (by omega)).trans c4)), ((kO_out (by unfold kOut; omega)).trans ((va_up_ne _ _ (by omega)).trans c5)), ((kO_out (by unfold kOut; omega)).trans ((va_up_ne _ _ (by omega)).trans c6)), ((kO_out (by unfold kOut; omega)).trans ((va_up_ne _ _ (by omega)).trans c7)), ((kO_out (by unfold kOut; omega)).trans ((va_up_ne _ _ (by omega)).trans c8)), ((kO_out (by unfold kOut; omega)).trans q_eq), ((kO_out (by unfold kOut; omega)).trans ((va_up_ne _ _ (by omega)).trans c10)), ((kO_out (by unfold kOut; omega)).trans ((va_up_ne _ _ (by omega)).trans c12)), ((kO_out (by unfold kOut; omega)).trans ((va_up_ne _ _ (by omega)).trans c13)), kO_K, k2.other (fun q hq => ((kO_out (by unfold kOut at *; omega)).trans ((va_up_ne _ _ (by unfold kOut at hq; omega)).trans rfl))), rep_RS (fun q h1 h2 => ((kO_out (by unfold kOut; omega)).trans ((va_up_ne _ _ (by omega)).trans rfl))) s1⟩
/-- something was tried -/
theorem JF.trial {E : q_E} {a : Nat} {f : q_H} {ep : Int32} {L : Nat} {g : Nat → Int32} {bk0 et : Nat} {er0 c0 here0 : Int32} {k0 : Nat} {kk0 : Nat → Option Nat} {po0 : Nat → Int32} {wo0 : Nat → Int64} {b0 w0 b1 w1 : Int32} {bk pn rc : Nat} {ac : Int32} {gB : Nat → Option Nat} {hd v : q_V} {bt : Nat} {hdt vt : q_V} {lo hi : Nat} {RS : Nat → q_S} {bt9 : Nat} {hd9 w : q_V} {b w9 : Int32} (h : JF E a f ep L g bk0 et er0 c0 here0 k0 kk0 po0 wo0 b0 w0 b1 w1 bk pn rc ac gB hd v bt hdt vt lo hi RS) (hb : bk = a + 20 ∨ a + 55 ≤ bk) (hlo : a + 55 ≤ lo) : JF E a (kO E (va_up f (a + 54) (some (cCook (a + 34) b w9))) (a + 34) bt9 hd9 w) ep L g bk0 et er0 c0 here0 k0 kk0 po0 wo0 b0 w0 b w9 bk pn rc ac gB hd v bt9 hd9 w lo hi RS := by
  obtain ⟨c1, c2, c3, c4, c5, c6, c7, c8, c9, c10, c12, c13, k1, k2, s1⟩ := h
  exact ⟨((kO_out (by unfold kOut; omega)).trans ((va_up_ne _ _ (by omega)).trans c1)), ((kO_out (by unfold kOut; omega)).trans ((va_up_ne _ _ (by omega)).trans c2)), ((kO_out (by unfold kOut; omega)).trans ((va_up_ne _ _ (by omega)).trans c3)), ((kO_out (by unfold kOut; omega)).trans ((va_up_ne _ _ (by omega)).trans c4)), ((kO_out (by unfold kOut; omega)).trans ((va_up_ne _ _ (by omega)).trans c5)), ((kO_out (by unfold kOut; omega)).trans ((va_up_ne _ _ (by omega)).trans c6)), ((kO_out (by unfold kOut; omega)).trans ((va_up_ne _ _ (by omega)).trans c7)), ((kO_out (by unfold kOut; omega)).trans ((va_up_ne _ _ (by omega)).trans c8)), ((kO_out (by unfold kOut; omega)).trans ((va_up_ne _ _ (by omega)).trans c9)), ((kO_out (by unfold kOut; omega)).trans q_eq), ((kO_out (by unfold kOut; omega)).trans ((va_up_ne _ _ (by omega)).trans c12)), ((kO_out (by unfold kOut; omega)).trans ((va_up_ne _ _ (by omega)).trans c13)), k1.other (fun q hq => ((kO_out (by unfold kOut at *; omega)).trans ((va_up_ne _ _ (by unfold kOut at hq; omega)).trans rfl))), kO_K, rep_RS (fun q h1 h2 => ((kO_out (by unfold kOut; omega)).trans ((va_up_ne _ _ (by omega)).trans rfl))) s1⟩
/-- the tape is shorter -/
theorem JF.trim {E : q_E} {a : Nat} {f : q_H} {ep : Int32} {L : Nat} {g : Nat → Int32} {bk0 et : Nat} {er0 c0 here0 : Int32} {k0 : Nat} {kk0 : Nat → Option Nat} {po0 : Nat → Int32} {wo0 : Nat → Int64} {b0 w0 b1 w1 : Int32} {bk pn rc : Nat} {ac : Int32} {gB : Nat → Option Nat} {hd v : q_V} {bt : Nat} {hdt vt : q_V} {lo hi : Nat} {RS : Nat → q_S} {L9 : Nat} (h : JF E a f ep L g bk0 et er0 c0 here0 k0 kk0 po0 wo0 b0 w0 b1 w1 bk pn rc ac gB hd v bt hdt vt lo hi RS) (hb : bk = a + 20 ∨ a + 55 ≤ bk) (hlo : a + 55 ≤ lo) : JF E a (va_up f (a + 1) (some (cTape (a + 1) (nI L9)))) ep L9 g bk0 et er0 c0 here0 k0 kk0 po0 wo0 b0 w0 b1 w1 bk pn rc ac gB hd v bt hdt vt lo hi RS := by
  obtain ⟨c1, c2, c3, c4, c5, c6, c7, c8, c9, c10, c12, c13, k1, k2, s1⟩ := h
  exact ⟨((va_up_ne _ _ (by omega)).trans c1), q_eq, ((va_up_ne _ _ (by omega)).trans c3), ((va_up_ne _ _ (by omega)).trans c4), ((va_up_ne _ _ (by omega)).trans c5), ((va_up_ne _ _ (by omega)).trans c6), ((va_up_ne _ _ (by omega)).trans c7), ((va_up_ne _ _ (by omega)).trans c8), ((va_up_ne _ _ (by omega)).trans c9), ((va_up_ne _ _ (by omega)).trans c10), ((va_up_ne _ _ (by omega)).trans c12), ((va_up_ne _ _ (by omega)).trans c13), k1.other (fun q hq => ((va_up_ne _ _ (by unfold kOut at hq; omega)).trans rfl)), k2.other (fun q hq => ((va_up_ne _ _ (by unfold kOut at hq; omega)).trans rfl)), rep_RS (fun q h1 h2 => ((va_up_ne _ _ (by omega)).trans rfl)) s1⟩
/-- the tape is longer -/
theorem JF.feed {E : q_E} {a : Nat} {f : q_H} {ep : Int32} {L : Nat} {g : Nat → Int32} {bk0 et : Nat} {er0 c0 here0 : Int32} {k0 : Nat} {kk0 : Nat → Option Nat} {po0 : Nat → Int32} {wo0 : Nat → Int64} {b0 w0 b1 w1 : Int32} {bk pn rc : Nat} {ac : Int32} {gB : Nat → Option Nat} {hd v : q_V} {bt : Nat} {hdt vt : q_V} {lo hi : Nat} {RS : Nat → q_S} {L9 : Nat} {g9 : Nat → Int32} (h : JF E a f ep L g bk0 et er0 c0 here0 k0 kk0 po0 wo0 b0 w0 b1 w1 bk pn rc ac gB hd v bt hdt vt lo hi RS) (hb : bk = a + 20 ∨ a + 55 ≤ bk) (hlo : a + 55 ≤ lo) : JF E a (va_up (va_up f (a + 1) (some (cTape (a + 1) (nI L9)))) (a + 2) (some (aB E 1600 g9))) ep L9 g9 bk0 et er0 c0 here0 k0 kk0 po0 wo0 b0 w0 b1 w1 bk pn rc ac gB hd v bt hdt vt lo hi RS := by
  obtain ⟨c1, c2, c3, c4, c5, c6, c7, c8, c9, c10, c12, c13, k1, k2, s1⟩ := h
  exact ⟨((va_up_ne _ _ (by omega)).trans ((va_up_ne _ _ (by omega)).trans c1)), ((va_up_ne _ _ (by omega)).trans q_eq), q_eq, ((va_up_ne _ _ (by omega)).trans ((va_up_ne _ _ (by omega)).trans c4)), ((va_up_ne _ _ (by omega)).trans ((va_up_ne _ _ (by omega)).trans c5)), ((va_up_ne _ _ (by omega)).trans ((va_up_ne _ _ (by omega)).trans c6)), ((va_up_ne _ _ (by omega)).trans ((va_up_ne _ _ (by omega)).trans c7)), ((va_up_ne _ _ (by omega)).trans ((va_up_ne _ _ (by omega)).trans c8)), ((va_up_ne _ _ (by omega)).trans ((va_up_ne _ _ (by omega)).trans c9)), ((va_up_ne _ _ (by omega)).trans ((va_up_ne _ _ (by omega)).trans c10)), ((va_up_ne _ _ (by omega)).trans ((va_up_ne _ _ (by omega)).trans c12)), ((va_up_ne _ _ (by omega)).trans ((va_up_ne _ _ (by omega)).trans c13)), k1.other (fun q hq => ((va_up_ne _ _ (by unfold kOut at hq; omega)).trans ((va_up_ne _ _ (by unfold kOut at hq; omega)).trans rfl))), k2.other (fun q hq => ((va_up_ne _ _ (by unfold kOut at hq; omega)).trans ((va_up_ne _ _ (by unfold kOut at hq; omega)).trans rfl))), rep_RS (fun q h1 h2 => ((va_up_ne _ _ (by omega)).trans ((va_up_ne _ _ (by omega)).trans rfl))) s1⟩
/-- cells beside the class's change nothing of it -/
theorem JF.reg {E : q_E} {a : Nat} {f f1 : q_H} {ep : Int32} {L : Nat} {g : Nat → Int32} {bk0 et : Nat} {er0 c0 here0 : Int32} {k0 : Nat} {kk0 : Nat → Option Nat} {po0 : Nat → Int32} {wo0 : Nat → Int64} {b0 w0 b1 w1 : Int32} {bk pn rc : Nat} {ac : Int32} {gB : Nat → Option Nat} {hd v : q_V} {bt : Nat} {hdt vt : q_V} {lo hi : Nat} {RS : Nat → q_S} (h : JF E a f ep L g bk0 et er0 c0 here0 k0 kk0 po0 wo0 b0 w0 b1 w1 bk pn rc ac gB hd v bt hdt vt lo hi RS) (fr : ∀ q, (a ≤ q ∧ q < a + 55) ∨ q = bk ∨ q = bk + 4 ∨ (lo ≤ q ∧ q < hi) → f1 q = f q) : JF E a f1 ep L g bk0 et er0 c0 here0 k0 kk0 po0 wo0 b0 w0 b1 w1 bk pn rc ac gB hd v bt hdt vt lo hi RS := by
  obtain ⟨c1, c2, c3, c4, c5, c6, c7, c8, c9, c10, c12, c13, k1, k2, s1⟩ := h
  exact ⟨(fr _ (by omega)).trans c1, (fr _ (by omega)).trans c2, (fr _ (by omega)).trans c3, (fr _ (by omega)).trans c4, (fr _ (by omega)).trans c5, (fr _ (by omega)).trans c6, (fr _ (by omega)).trans c7, (fr _ (by omega)).trans c8, (fr _ (by omega)).trans c9, (fr _ (by omega)).trans c10, (fr _ (by omega)).trans c12, (fr _ (by omega)).trans c13, k1.other (fun q hq => fr q (by unfold kOut at hq; omega)), k2.other (fun q hq => fr q (by unfold kOut at hq; omega)), rep_RS (fun q h1 h2 => fr q (by omega)) s1⟩

theorem met_imp {l : Launch} {y : MethodName} {ws : List Cond} {rm : Room} {Pc : Array Value → State → Prop} {Qc Qc' : Array Value → State → Outcome → State → Prop} {mc ms : Nat} {free : Addr → Prop} (h : Met l y ws rm Pc Qc mc ms free) (hq : ∀ a s o t, Qc a s o t → Qc' a s o t) : Met l y ws rm Pc Qc' mc ms free := by
  intro p e ha hc hk s m args below hf happ hP hK
  obtain ⟨n, o, h1, h2, h3, h4, h5⟩ := h p e ha hc hk s m args below hf happ hP hK
  exact ⟨n, o, h1, h2, h3, hq _ _ _ _ h4, h5⟩
theorem q_Qi.imp {E : q_E} {post post' : Int32 → q_H → Nat → Prop} (hq : ∀ r f1 n1, post r f1 n1 → post' r f1 n1) : ∀ a st o t, q_Qi E post a st o t → q_Qi E post' a st o t := fun _ _ _ _ ⟨⟨r, u, e, hp, hB⟩, hF⟩ => ⟨⟨r, u, e, hq _ _ _ hp, hB⟩, hF⟩
theorem b_in_nI {j L : Nat} (hL : L < 2 ^ 31) (h : j ≤ L) : b_in (nI j) 0 (nI L) = true := by
  unfold b_in
  rw [decide_eq_false (nI_pos (by omega)), decide_eq_false (nI_nlt h hL)]
  rfl
theorem k_inv_k {B : Nat} {v w : q_V} (h : k_inv B (v, 0, (-1))) (h4 : w 4 = v 4) (h5 : w 5 = v 5) : k_inv B (w, 0, (-1)) := k_inv_same (s' := (w, 0, (-1))) h h4 h5 rfl
theorem k_inv_more {B C : Nat} {v : q_V} (h : k_inv B (v, 0, (-1))) (hBC : B ≤ C) : k_inv C (v, 0, (-1)) := by
  obtain ⟨h1, ⟨h2, h3⟩, h4, h5⟩ := h
  have h3 : k_T v + 100 ≤ B + 0 := h3
  have h5 : k_N v + 100 ≤ B + 0 := h5
  exact ⟨h1, ⟨h2, by show k_T v + 100 ≤ C + 0; omega⟩, h4, by show k_N v + 100 ≤ C + 0; omega⟩
theorem k_inv_cook {B : Nat} {s : q_KS} (h : k_inv B s) : k_inv (B + 100) (s.1, 0, (-1)) := by
  obtain ⟨h1, ⟨h2, h3⟩, h4, h5⟩ := h
  exact ⟨Nat.zero_le _, ⟨h2, by show k_T s.1 + 100 ≤ B + 100 + 0; omega⟩, h4, by show k_N s.1 + 100 ≤ B + 100 + 0; omega⟩

/-- the class at a: its tape, its pans and recipes, its kitchen's row, what its recipes mean, where it stands -/
def CM (E : q_E) (a BB : Nat) (f : q_H) (n L : Nat) (g : Nat → Int32) (pn rc : Nat) (ac : Int32) (hd v : q_V) (RS : Nat → q_S) (Q : Nat → Prop) : Prop := ∃ (ep : Int32) (bk0 et : Nat) (er0 c0 here0 : Int32) (k0 : Nat) (kk0 : Nat → Option Nat) (po0 : Nat → Int32) (wo0 : Nat → Int64) (b0 w0 b1 w1 : Int32) (bk : Nat) (gB : Nat → Option Nat) (bt : Nat) (hdt vt : q_V) (lo hi : Nat), JF E a f ep L g bk0 et er0 c0 here0 k0 kk0 po0 wo0 b0 w0 b1 w1 bk pn rc ac gB hd v bt hdt vt lo hi RS ∧ (L ≤ 1600 ∧ pn ≤ 8 ∧ rc ≤ 6 ∧ (bk = a + 20 ∨ a + 55 ≤ bk) ∧ a + 55 ≤ lo ∧ hi ≤ n ∧ bk + 4 < n ∧ a + 55 ≤ n ∧ k_inv BB (v, 0, (-1))) ∧ (∀ i, i < rc → s_blk pn (RS i)) ∧ (∀ q, (a ≤ q ∧ q < a + 55) ∨ q = bk ∨ q = bk + 4 ∨ (lo ≤ q ∧ q < hi) → Q q)
theorem CM.cell {E : q_E} {a BB : Nat} {f : q_H} {n L : Nat} {g : Nat → Int32} {pn rc : Nat} {ac : Int32} {hd v : q_V} {RS : Nat → q_S} {Q : Nat → Prop} (h : CM E a BB f n L g pn rc ac hd v RS Q) : ∃ tp pr k ck tr tk ep, f a = some (rX12 (some tp) (some pr) (some k) (some ck) (some tr) (some tk) ep) := by
  obtain ⟨ep, bk0, et, er0, c0, here0, k0, kk0, po0, wo0, b0, w0, b1, w1, bk, gB, bt, hdt, vt, lo_, hi_, hF, -⟩ := h
  exact ⟨_, _, _, _, _, _, _, hF.1⟩
theorem CM.frame {E : q_E} {a BB BC : Nat} {f f1 : q_H} {n n1 L : Nat} {g : Nat → Int32} {pn rc : Nat} {ac : Int32} {hd v : q_V} {RS : Nat → q_S} {Q : Nat → Prop} (h : CM E a BB f n L g pn rc ac hd v RS Q) (fr : ∀ q, Q q → f1 q = f q) (hn : n ≤ n1) (hB : BB ≤ BC) : CM E a BC f1 n1 L g pn rc ac hd v RS Q := by
  obtain ⟨ep, bk0, et, er0, c0, here0, k0, kk0, po0, wo0, b0, w0, b1, w1, bk, gB, bt, hdt, vt, lo_, hi_, hF, ⟨p1, p2, p3, p4, p5, p6, p7, p8, p9⟩, hs, hQ⟩ := h
  exact ⟨ep, bk0, et, er0, c0, here0, k0, kk0, po0, wo0, b0, w0, b1, w1, bk, gB, bt, hdt, vt, lo_, hi_, hF.reg (fun q hq => fr q (hQ q hq)), ⟨p1, p2, p3, p4, p5, by omega, by omega, by omega, k_inv_more p9 hB⟩, hs, hQ⟩

theorem cm_pans (l : Launch) (E : q_E) (f : q_H) (n a BB L : Nat) (g : Nat → Int32) (pn rc : Nat) (ac : Int32) (hd v : q_V) (RS : Nat → q_S) (Q : Nat → Prop)  (hM : CM E a BB f n L g pn rc ac hd v RS Q)  : Met l yX12_pans wsX12_pans ({ frames := 0, cells := 0, slots := 0, locals := 0 }) (q_P E [.ref a] f n) (q_Qi E (fun r f1 n1 => nI pn = r ∧ f = f1 ∧ n = n1)) 0 0 (q_ge E) := by
  obtain ⟨ep, bk0, et, er0, c0, here0, k0, kk0, po0, wo0, b0, w0, b1, w1, bk, gB, bt, hdt, vt, lo_, hi_, hF, ⟨p1, p2, p3, p4, p5, p6, p7, p8, p9⟩, hs, hQ⟩ := hM
  have hF0 := hF
  obtain ⟨c1, c2, c3, c4, c5, c6, c7, c8, c9, c10, c12, c13, k1, k2, s1⟩ := hF0
  exact kX12_pans l E f n (hX := c1) (hB := c12) (hk := k1) (hbo := (by unfold kOut; omega)) (hxo := (by unfold kOut; omega)) (hpn := p2) (hrc := p3) 

theorem cm_recipes (l : Launch) (E : q_E) (f : q_H) (n a BB L : Nat) (g : Nat → Int32) (pn rc : Nat) (ac : Int32) (hd v : q_V) (RS : Nat → q_S) (Q : Nat → Prop)  (hM : CM E a BB f n L g pn rc ac hd v RS Q)  : Met l yX12_recipes wsX12_recipes ({ frames := 0, cells := 0, slots := 0, locals := 0 }) (q_P E [.ref a] f n) (q_Qi E (fun r f1 n1 => nI rc = r ∧ f = f1 ∧ n = n1)) 0 0 (q_ge E) := by
  obtain ⟨ep, bk0, et, er0, c0, here0, k0, kk0, po0, wo0, b0, w0, b1, w1, bk, gB, bt, hdt, vt, lo_, hi_, hF, ⟨p1, p2, p3, p4, p5, p6, p7, p8, p9⟩, hs, hQ⟩ := hM
  have hF0 := hF
  obtain ⟨c1, c2, c3, c4, c5, c6, c7, c8, c9, c10, c12, c13, k1, k2, s1⟩ := hF0
  exact kX12_recipes l E f n (hX := c1) (hB := c12) (hk := k1) (hbo := (by unfold kOut; omega)) (hxo := (by unfold kOut; omega)) (hpn := p2) (hrc := p3) 

theorem cm_acts (l : Launch) (E : q_E) (f : q_H) (n a BB L : Nat) (g : Nat → Int32) (pn rc : Nat) (ac : Int32) (hd v : q_V) (RS : Nat → q_S) (Q : Nat → Prop)  (hM : CM E a BB f n L g pn rc ac hd v RS Q)  : Met l yX12_acts wsX12_acts ({ frames := 0, cells := 0, slots := 0, locals := 0 }) (q_P E [.ref a] f n) (q_Qi E (fun r f1 n1 => ac = r ∧ f = f1 ∧ n = n1)) 0 0 (q_ge E) := by
  obtain ⟨ep, bk0, et, er0, c0, here0, k0, kk0, po0, wo0, b0, w0, b1, w1, bk, gB, bt, hdt, vt, lo_, hi_, hF, ⟨p1, p2, p3, p4, p5, p6, p7, p8, p9⟩, hs, hQ⟩ := hM
  have hF0 := hF
  obtain ⟨c1, c2, c3, c4, c5, c6, c7, c8, c9, c10, c12, c13, k1, k2, s1⟩ := hF0
  exact kX12_acts l E f n (hX := c1) (hB := c12) (hk := k1) (hbo := (by unfold kOut; omega)) (hxo := (by unfold kOut; omega)) (hpn := p2) (hrc := p3) 

theorem cm_altitude (l : Launch) (E : q_E) (f : q_H) (n a BB L : Nat) (g : Nat → Int32) (pn rc : Nat) (ac : Int32) (hd v : q_V) (RS : Nat → q_S) (Q : Nat → Prop)  (hM : CM E a BB f n L g pn rc ac hd v RS Q)  : Met l yX12_altitude wsX12_altitude ({ frames := 0, cells := 0, slots := 0, locals := 0 }) (q_P E [.ref a] f n) (q_Qi E (fun r f1 n1 => v 0 = r ∧ f = f1 ∧ n = n1)) 0 0 (q_ge E) := by
  obtain ⟨ep, bk0, et, er0, c0, here0, k0, kk0, po0, wo0, b0, w0, b1, w1, bk, gB, bt, hdt, vt, lo_, hi_, hF, ⟨p1, p2, p3, p4, p5, p6, p7, p8, p9⟩, hs, hQ⟩ := hM
  have hF0 := hF
  obtain ⟨c1, c2, c3, c4, c5, c6, c7, c8, c9, c10, c12, c13, k1, k2, s1⟩ := hF0
  exact kX12_altitude l E f n (hX := c1) (hB := c12) (hk := k1) (hbo := (by unfold kOut; omega)) (hxo := (by unfold kOut; omega)) (hpn := p2) (hrc := p3) 

theorem cm_boilingPoint (l : Launch) (E : q_E) (f : q_H) (n a BB L : Nat) (g : Nat → Int32) (pn rc : Nat) (ac : Int32) (hd v : q_V) (RS : Nat → q_S) (Q : Nat → Prop)  (hM : CM E a BB f n L g pn rc ac hd v RS Q)  : Met l yX12_boilingPoint wsX12_boilingPoint ({ frames := 2, cells := 0, slots := 0, locals := 40 }) (q_P E [.ref a] f n) (q_Qi E (fun r f1 n1 => z_boil (v 0) = r ∧ f = f1 ∧ n = n1)) 0 0 (q_ge E) := by
  obtain ⟨ep, bk0, et, er0, c0, here0, k0, kk0, po0, wo0, b0, w0, b1, w1, bk, gB, bt, hdt, vt, lo_, hi_, hF, ⟨p1, p2, p3, p4, p5, p6, p7, p8, p9⟩, hs, hQ⟩ := hM
  have hF0 := hF
  obtain ⟨c1, c2, c3, c4, c5, c6, c7, c8, c9, c10, c12, c13, k1, k2, s1⟩ := hF0
  exact kX12_boilingPoint l E f n (hX := c1) (hB := c12) (hk := k1) (hbo := (by unfold kOut; omega)) (hxo := (by unfold kOut; omega)) (hpn := p2) (hrc := p3) 

theorem cm_servings (l : Launch) (E : q_E) (f : q_H) (n a BB L : Nat) (g : Nat → Int32) (pn rc : Nat) (ac : Int32) (hd v : q_V) (RS : Nat → q_S) (Q : Nat → Prop)  (hM : CM E a BB f n L g pn rc ac hd v RS Q)  : Met l yX12_servings wsX12_servings ({ frames := 0, cells := 0, slots := 0, locals := 0 }) (q_P E [.ref a] f n) (q_Qi E (fun r f1 n1 => v 1 = r ∧ f = f1 ∧ n = n1)) 0 0 (q_ge E) := by
  obtain ⟨ep, bk0, et, er0, c0, here0, k0, kk0, po0, wo0, b0, w0, b1, w1, bk, gB, bt, hdt, vt, lo_, hi_, hF, ⟨p1, p2, p3, p4, p5, p6, p7, p8, p9⟩, hs, hQ⟩ := hM
  have hF0 := hF
  obtain ⟨c1, c2, c3, c4, c5, c6, c7, c8, c9, c10, c12, c13, k1, k2, s1⟩ := hF0
  exact kX12_servings l E f n (hX := c1) (hB := c12) (hk := k1) (hbo := (by unfold kOut; omega)) (hxo := (by unfold kOut; omega)) (hpn := p2) (hrc := p3) 

theorem cm_spoon (l : Launch) (E : q_E) (f : q_H) (n a BB L : Nat) (g : Nat → Int32) (pn rc : Nat) (ac : Int32) (hd v : q_V) (RS : Nat → q_S) (Q : Nat → Prop)  (hM : CM E a BB f n L g pn rc ac hd v RS Q)  : Met l yX12_spoon wsX12_spoon ({ frames := 0, cells := 0, slots := 0, locals := 0 }) (q_P E [.ref a] f n) (q_Qi E (fun r f1 n1 => v 2 = r ∧ f = f1 ∧ n = n1)) 0 0 (q_ge E) := by
  obtain ⟨ep, bk0, et, er0, c0, here0, k0, kk0, po0, wo0, b0, w0, b1, w1, bk, gB, bt, hdt, vt, lo_, hi_, hF, ⟨p1, p2, p3, p4, p5, p6, p7, p8, p9⟩, hs, hQ⟩ := hM
  have hF0 := hF
  obtain ⟨c1, c2, c3, c4, c5, c6, c7, c8, c9, c10, c12, c13, k1, k2, s1⟩ := hF0
  exact kX12_spoon l E f n (hX := c1) (hB := c12) (hk := k1) (hbo := (by unfold kOut; omega)) (hxo := (by unfold kOut; omega)) (hpn := p2) (hrc := p3) 

theorem cm_minute (l : Launch) (E : q_E) (f : q_H) (n a BB L : Nat) (g : Nat → Int32) (pn rc : Nat) (ac : Int32) (hd v : q_V) (RS : Nat → q_S) (Q : Nat → Prop)  (hM : CM E a BB f n L g pn rc ac hd v RS Q)  : Met l yX12_minute wsX12_minute ({ frames := 0, cells := 0, slots := 0, locals := 0 }) (q_P E [.ref a] f n) (q_Qi E (fun r f1 n1 => v 3 = r ∧ f = f1 ∧ n = n1)) 0 0 (q_ge E) := by
  obtain ⟨ep, bk0, et, er0, c0, here0, k0, kk0, po0, wo0, b0, w0, b1, w1, bk, gB, bt, hdt, vt, lo_, hi_, hF, ⟨p1, p2, p3, p4, p5, p6, p7, p8, p9⟩, hs, hQ⟩ := hM
  have hF0 := hF
  obtain ⟨c1, c2, c3, c4, c5, c6, c7, c8, c9, c10, c12, c13, k1, k2, s1⟩ := hF0
  exact kX12_minute l E f n (hX := c1) (hB := c12) (hk := k1) (hbo := (by unfold kOut; omega)) (hxo := (by unfold kOut; omega)) (hpn := p2) (hrc := p3) 

theorem cm_warnings (l : Launch) (E : q_E) (f : q_H) (n a BB L : Nat) (g : Nat → Int32) (pn rc : Nat) (ac : Int32) (hd v : q_V) (RS : Nat → q_S) (Q : Nat → Prop)  (hM : CM E a BB f n L g pn rc ac hd v RS Q)  : Met l yX12_warnings wsX12_warnings ({ frames := 0, cells := 0, slots := 0, locals := 0 }) (q_P E [.ref a] f n) (q_Qi E (fun r f1 n1 => v 4 = r ∧ f = f1 ∧ n = n1)) 0 0 (q_ge E) := by
  obtain ⟨ep, bk0, et, er0, c0, here0, k0, kk0, po0, wo0, b0, w0, b1, w1, bk, gB, bt, hdt, vt, lo_, hi_, hF, ⟨p1, p2, p3, p4, p5, p6, p7, p8, p9⟩, hs, hQ⟩ := hM
  have hF0 := hF
  obtain ⟨c1, c2, c3, c4, c5, c6, c7, c8, c9, c10, c12, c13, k1, k2, s1⟩ := hF0
  exact kX12_warnings l E f n (hX := c1) (hB := c12) (hk := k1) (hbo := (by unfold kOut; omega)) (hxo := (by unfold kOut; omega)) (hpn := p2) (hrc := p3) 

theorem cm_notes (l : Launch) (E : q_E) (f : q_H) (n a BB L : Nat) (g : Nat → Int32) (pn rc : Nat) (ac : Int32) (hd v : q_V) (RS : Nat → q_S) (Q : Nat → Prop)  (hM : CM E a BB f n L g pn rc ac hd v RS Q)  : Met l yX12_notes wsX12_notes ({ frames := 0, cells := 0, slots := 0, locals := 0 }) (q_P E [.ref a] f n) (q_Qi E (fun r f1 n1 => v 5 = r ∧ f = f1 ∧ n = n1)) 0 0 (q_ge E) := by
  obtain ⟨ep, bk0, et, er0, c0, here0, k0, kk0, po0, wo0, b0, w0, b1, w1, bk, gB, bt, hdt, vt, lo_, hi_, hF, ⟨p1, p2, p3, p4, p5, p6, p7, p8, p9⟩, hs, hQ⟩ := hM
  have hF0 := hF
  obtain ⟨c1, c2, c3, c4, c5, c6, c7, c8, c9, c10, c12, c13, k1, k2, s1⟩ := hF0
  exact kX12_notes l E f n (hX := c1) (hB := c12) (hk := k1) (hbo := (by unfold kOut; omega)) (hxo := (by unfold kOut; omega)) (hpn := p2) (hrc := p3) 

theorem cm_meanHeat (l : Launch) (E : q_E) (f : q_H) (n a BB L : Nat) (g : Nat → Int32) (pn rc : Nat) (ac : Int32) (hd v : q_V) (RS : Nat → q_S) (Q : Nat → Prop)  (hM : CM E a BB f n L g pn rc ac hd v RS Q)  : Met l yX12_meanHeat wsX12_meanHeat ({ frames := 1, cells := 0, slots := 0, locals := 21 }) (q_P E [.ref a] f n) (q_Qd E (fun r f1 n1 => z_mean v pn = r ∧ f = f1 ∧ n = n1)) 0 0 (q_ge E) := by
  obtain ⟨ep, bk0, et, er0, c0, here0, k0, kk0, po0, wo0, b0, w0, b1, w1, bk, gB, bt, hdt, vt, lo_, hi_, hF, ⟨p1, p2, p3, p4, p5, p6, p7, p8, p9⟩, hs, hQ⟩ := hM
  have hF0 := hF
  obtain ⟨c1, c2, c3, c4, c5, c6, c7, c8, c9, c10, c12, c13, k1, k2, s1⟩ := hF0
  exact kX12_meanHeat l E f n (hX := c1) (hB := c12) (hk := k1) (hbo := (by unfold kOut; omega)) (hxo := (by unfold kOut; omega)) (hpn := p2) (hrc := p3) 

theorem cm_holdsOf (l : Launch) (E : q_E) (f : q_H) (n a BB L : Nat) (g : Nat → Int32) (pn rc : Nat) (ac : Int32) (hd v : q_V) (RS : Nat → q_S) (Q : Nat → Prop) (i : Nat) (hM : CM E a BB f n L g pn rc ac hd v RS Q) (hi : i < pn) : Met l yX12_holdsOf wsX12_holdsOf ({ frames := 2, cells := 0, slots := 0, locals := 43 }) (q_P E [.ref a, .int (nI i)] f n) (q_Qi E (fun r f1 n1 => hd i = r ∧ f = f1 ∧ n = n1)) 0 0 (q_ge E) := by
  obtain ⟨ep, bk0, et, er0, c0, here0, k0, kk0, po0, wo0, b0, w0, b1, w1, bk, gB, bt, hdt, vt, lo_, hi_, hF, ⟨p1, p2, p3, p4, p5, p6, p7, p8, p9⟩, hs, hQ⟩ := hM
  have hF0 := hF
  obtain ⟨c1, c2, c3, c4, c5, c6, c7, c8, c9, c10, c12, c13, k1, k2, s1⟩ := hF0
  exact kX12_holdsOf l E f n (hX := c1) (hB := c12) (hk := k1) (hbo := (by unfold kOut; omega)) (hxo := (by unfold kOut; omega)) (hpn := p2) (hrc := p3) (i := i) (hi := hi)

theorem cm_waterIn (l : Launch) (E : q_E) (f : q_H) (n a BB L : Nat) (g : Nat → Int32) (pn rc : Nat) (ac : Int32) (hd v : q_V) (RS : Nat → q_S) (Q : Nat → Prop) (i : Nat) (hM : CM E a BB f n L g pn rc ac hd v RS Q) (hi : i < pn) : Met l yX12_waterIn wsX12_waterIn ({ frames := 2, cells := 0, slots := 0, locals := 43 }) (q_P E [.ref a, .int (nI i)] f n) (q_Qi E (fun r f1 n1 => v (52 + 4 * i) = r ∧ f = f1 ∧ n = n1)) 0 0 (q_ge E) := by
  obtain ⟨ep, bk0, et, er0, c0, here0, k0, kk0, po0, wo0, b0, w0, b1, w1, bk, gB, bt, hdt, vt, lo_, hi_, hF, ⟨p1, p2, p3, p4, p5, p6, p7, p8, p9⟩, hs, hQ⟩ := hM
  have hF0 := hF
  obtain ⟨c1, c2, c3, c4, c5, c6, c7, c8, c9, c10, c12, c13, k1, k2, s1⟩ := hF0
  exact kX12_waterIn l E f n (hX := c1) (hB := c12) (hk := k1) (hbo := (by unfold kOut; omega)) (hxo := (by unfold kOut; omega)) (hpn := p2) (hrc := p3) (i := i) (hi := hi)

theorem cm_mealIn (l : Launch) (E : q_E) (f : q_H) (n a BB L : Nat) (g : Nat → Int32) (pn rc : Nat) (ac : Int32) (hd v : q_V) (RS : Nat → q_S) (Q : Nat → Prop) (i : Nat) (hM : CM E a BB f n L g pn rc ac hd v RS Q) (hi : i < pn) : Met l yX12_mealIn wsX12_mealIn ({ frames := 2, cells := 0, slots := 0, locals := 43 }) (q_P E [.ref a, .int (nI i)] f n) (q_Qi E (fun r f1 n1 => v (53 + 4 * i) = r ∧ f = f1 ∧ n = n1)) 0 0 (q_ge E) := by
  obtain ⟨ep, bk0, et, er0, c0, here0, k0, kk0, po0, wo0, b0, w0, b1, w1, bk, gB, bt, hdt, vt, lo_, hi_, hF, ⟨p1, p2, p3, p4, p5, p6, p7, p8, p9⟩, hs, hQ⟩ := hM
  have hF0 := hF
  obtain ⟨c1, c2, c3, c4, c5, c6, c7, c8, c9, c10, c12, c13, k1, k2, s1⟩ := hF0
  exact kX12_mealIn l E f n (hX := c1) (hB := c12) (hk := k1) (hbo := (by unfold kOut; omega)) (hxo := (by unfold kOut; omega)) (hpn := p2) (hrc := p3) (i := i) (hi := hi)

theorem cm_heatOf (l : Launch) (E : q_E) (f : q_H) (n a BB L : Nat) (g : Nat → Int32) (pn rc : Nat) (ac : Int32) (hd v : q_V) (RS : Nat → q_S) (Q : Nat → Prop) (i : Nat) (hM : CM E a BB f n L g pn rc ac hd v RS Q) (hi : i < pn) : Met l yX12_heatOf wsX12_heatOf ({ frames := 2, cells := 0, slots := 0, locals := 43 }) (q_P E [.ref a, .int (nI i)] f n) (q_Qi E (fun r f1 n1 => v (54 + 4 * i) = r ∧ f = f1 ∧ n = n1)) 0 0 (q_ge E) := by
  obtain ⟨ep, bk0, et, er0, c0, here0, k0, kk0, po0, wo0, b0, w0, b1, w1, bk, gB, bt, hdt, vt, lo_, hi_, hF, ⟨p1, p2, p3, p4, p5, p6, p7, p8, p9⟩, hs, hQ⟩ := hM
  have hF0 := hF
  obtain ⟨c1, c2, c3, c4, c5, c6, c7, c8, c9, c10, c12, c13, k1, k2, s1⟩ := hF0
  exact kX12_heatOf l E f n (hX := c1) (hB := c12) (hk := k1) (hbo := (by unfold kOut; omega)) (hxo := (by unfold kOut; omega)) (hpn := p2) (hrc := p3) (i := i) (hi := hi)

theorem cm_doneIn (l : Launch) (E : q_E) (f : q_H) (n a BB L : Nat) (g : Nat → Int32) (pn rc : Nat) (ac : Int32) (hd v : q_V) (RS : Nat → q_S) (Q : Nat → Prop) (i : Nat) (hM : CM E a BB f n L g pn rc ac hd v RS Q) (hi : i < pn) : Met l yX12_doneIn wsX12_doneIn ({ frames := 2, cells := 0, slots := 0, locals := 43 }) (q_P E [.ref a, .int (nI i)] f n) (q_Qi E (fun r f1 n1 => v (55 + 4 * i) = r ∧ f = f1 ∧ n = n1)) 0 0 (q_ge E) := by
  obtain ⟨ep, bk0, et, er0, c0, here0, k0, kk0, po0, wo0, b0, w0, b1, w1, bk, gB, bt, hdt, vt, lo_, hi_, hF, ⟨p1, p2, p3, p4, p5, p6, p7, p8, p9⟩, hs, hQ⟩ := hM
  have hF0 := hF
  obtain ⟨c1, c2, c3, c4, c5, c6, c7, c8, c9, c10, c12, c13, k1, k2, s1⟩ := hF0
  exact kX12_doneIn l E f n (hX := c1) (hB := c12) (hk := k1) (hbo := (by unfold kOut; omega)) (hxo := (by unfold kOut; omega)) (hpn := p2) (hrc := p3) (i := i) (hi := hi)

theorem cm_roomIn (l : Launch) (E : q_E) (f : q_H) (n a BB L : Nat) (g : Nat → Int32) (pn rc : Nat) (ac : Int32) (hd v : q_V) (RS : Nat → q_S) (Q : Nat → Prop) (i : Nat) (hM : CM E a BB f n L g pn rc ac hd v RS Q) (hi : i < pn) : Met l yX12_roomIn wsX12_roomIn ({ frames := 2, cells := 0, slots := 0, locals := 43 }) (q_P E [.ref a, .int (nI i)] f n) (q_Qi E (fun r f1 n1 => hd i - v (52 + 4 * i) - v (53 + 4 * i) = r ∧ f = f1 ∧ n = n1)) 0 0 (q_ge E) := by
  obtain ⟨ep, bk0, et, er0, c0, here0, k0, kk0, po0, wo0, b0, w0, b1, w1, bk, gB, bt, hdt, vt, lo_, hi_, hF, ⟨p1, p2, p3, p4, p5, p6, p7, p8, p9⟩, hs, hQ⟩ := hM
  have hF0 := hF
  obtain ⟨c1, c2, c3, c4, c5, c6, c7, c8, c9, c10, c12, c13, k1, k2, s1⟩ := hF0
  exact kX12_roomIn l E f n (hX := c1) (hB := c12) (hk := k1) (hbo := (by unfold kOut; omega)) (hxo := (by unfold kOut; omega)) (hpn := p2) (hrc := p3) (i := i) (hi := hi)

theorem cm_amountFor (l : Launch) (E : q_E) (f : q_H) (n a BB L : Nat) (g : Nat → Int32) (pn rc : Nat) (ac : Int32) (hd v : q_V) (RS : Nat → q_S) (Q : Nat → Prop) (y : Int32) (hM : CM E a BB f n L g pn rc ac hd v RS Q) (hin : b_in y 0 999 = true) : Met l yX12_amountFor wsX12_amountFor ({ frames := 3, cells := 0, slots := 0, locals := 65 }) (q_P E [.ref a, .int y] f n) (q_Qi E (fun r f1 n1 => z_tr v y = r ∧ f = f1 ∧ n = n1)) 0 0 (q_ge E) := by
  obtain ⟨ep, bk0, et, er0, c0, here0, k0, kk0, po0, wo0, b0, w0, b1, w1, bk, gB, bt, hdt, vt, lo_, hi_, hF, ⟨p1, p2, p3, p4, p5, p6, p7, p8, p9⟩, hs, hQ⟩ := hM
  have hF0 := hF
  obtain ⟨c1, c2, c3, c4, c5, c6, c7, c8, c9, c10, c12, c13, k1, k2, s1⟩ := hF0
  exact kX12_amountFor l E f n (hX := c1) (hB := c12) (hk := k1) (hbo := (by unfold kOut; omega)) (hxo := (by unfold kOut; omega)) (hpn := p2) (hrc := p3) (y := y) (hin := hin)

theorem cm_warningsOf (l : Launch) (E : q_E) (f : q_H) (n a BB L : Nat) (g : Nat → Int32) (pn rc : Nat) (ac : Int32) (hd v : q_V) (RS : Nat → q_S) (Q : Nat → Prop) (kd : Nat) (hM : CM E a BB f n L g pn rc ac hd v RS Q) (hin : b_in (nI kd) 1 5 = true) (hkd : kd < 6) : Met l yX12_warningsOf wsX12_warningsOf ({ frames := 1, cells := 0, slots := 0, locals := 22 }) (q_P E [.ref a, .int (nI kd)] f n) (q_Qi E (fun r f1 n1 => v (6 + kd) = r ∧ f = f1 ∧ n = n1)) 0 0 (q_ge E) := by
  obtain ⟨ep, bk0, et, er0, c0, here0, k0, kk0, po0, wo0, b0, w0, b1, w1, bk, gB, bt, hdt, vt, lo_, hi_, hF, ⟨p1, p2, p3, p4, p5, p6, p7, p8, p9⟩, hs, hQ⟩ := hM
  have hF0 := hF
  obtain ⟨c1, c2, c3, c4, c5, c6, c7, c8, c9, c10, c12, c13, k1, k2, s1⟩ := hF0
  exact kX12_warningsOf l E f n (hX := c1) (hB := c12) (hk := k1) (hbo := (by unfold kOut; omega)) (hxo := (by unfold kOut; omega)) (hpn := p2) (hrc := p3) (kd := kd) (hin := hin) (hkd := hkd)

theorem cm_warningAt (l : Launch) (E : q_E) (f : q_H) (n a BB L : Nat) (g : Nat → Int32) (pn rc : Nat) (ac : Int32) (hd v : q_V) (RS : Nat → q_S) (Q : Nat → Prop) (T9 : Nat) (i : Nat) (hM : CM E a BB f n L g pn rc ac hd v RS Q) (hv9 : v 4 = nI T9) (hT9 : T9 < 2 ^ 30) (hi : i < min T9 20) : Met l yX12_warningAt wsX12_warningAt ({ frames := 2, cells := 0, slots := 0, locals := 44 }) (q_P E [.ref a, .int (nI i)] f n) (q_Qi E (fun r f1 n1 => v (12 + (T9 - 1 - i) % 20) = r ∧ f = f1 ∧ n = n1)) 0 0 (q_ge E) := by
  obtain ⟨ep, bk0, et, er0, c0, here0, k0, kk0, po0, wo0, b0, w0, b1, w1, bk, gB, bt, hdt, vt, lo_, hi_, hF, ⟨p1, p2, p3, p4, p5, p6, p7, p8, p9⟩, hs, hQ⟩ := hM
  have hF0 := hF
  obtain ⟨c1, c2, c3, c4, c5, c6, c7, c8, c9, c10, c12, c13, k1, k2, s1⟩ := hF0
  exact kX12_warningAt l E f n (hX := c1) (hB := c12) (hk := k1) (hbo := (by unfold kOut; omega)) (hxo := (by unfold kOut; omega)) (hpn := p2) (hrc := p3) (T9 := T9) (i := i) (hv9 := hv9) (hT9 := hT9) (hi := hi)

theorem cm_noteAt (l : Launch) (E : q_E) (f : q_H) (n a BB L : Nat) (g : Nat → Int32) (pn rc : Nat) (ac : Int32) (hd v : q_V) (RS : Nat → q_S) (Q : Nat → Prop) (T9 : Nat) (i : Nat) (hM : CM E a BB f n L g pn rc ac hd v RS Q) (hv9 : v 5 = nI T9) (hT9 : T9 < 2 ^ 30) (hi : i < min T9 20) : Met l yX12_noteAt wsX12_noteAt ({ frames := 2, cells := 0, slots := 0, locals := 44 }) (q_P E [.ref a, .int (nI i)] f n) (q_Qi E (fun r f1 n1 => v (32 + (T9 - 1 - i) % 20) = r ∧ f = f1 ∧ n = n1)) 0 0 (q_ge E) := by
  obtain ⟨ep, bk0, et, er0, c0, here0, k0, kk0, po0, wo0, b0, w0, b1, w1, bk, gB, bt, hdt, vt, lo_, hi_, hF, ⟨p1, p2, p3, p4, p5, p6, p7, p8, p9⟩, hs, hQ⟩ := hM
  have hF0 := hF
  obtain ⟨c1, c2, c3, c4, c5, c6, c7, c8, c9, c10, c12, c13, k1, k2, s1⟩ := hF0
  exact kX12_noteAt l E f n (hX := c1) (hB := c12) (hk := k1) (hbo := (by unfold kOut; omega)) (hxo := (by unfold kOut; omega)) (hpn := p2) (hrc := p3) (T9 := T9) (i := i) (hv9 := hv9) (hT9 := hT9) (hi := hi)

theorem cm_digest (l : Launch) (E : q_E) (f : q_H) (n a BB L : Nat) (g : Nat → Int32) (pn rc : Nat) (ac : Int32) (hd v : q_V) (RS : Nat → q_S) (Q : Nat → Prop) (tw : Nat) (tn : Nat) (hM : CM E a BB f n L g pn rc ac hd v RS Q) (h4 : v 4 = nI tw) (h5 : v 5 = nI tn) (ht4 : tw < 2 ^ 30) (ht5 : tn < 2 ^ 30) : Met l yX12_digest wsX12_digest ({ frames := 3, cells := 0, slots := 0, locals := 70 }) (q_P E [.ref a] f n) (q_Ql E (fun r f1 n1 => z_dig pn (nI rc) ac hd v tw tn = r ∧ f = f1 ∧ n = n1)) 0 0 (q_ge E) := by
  obtain ⟨ep, bk0, et, er0, c0, here0, k0, kk0, po0, wo0, b0, w0, b1, w1, bk, gB, bt, hdt, vt, lo_, hi_, hF, ⟨p1, p2, p3, p4, p5, p6, p7, p8, p9⟩, hs, hQ⟩ := hM
  have hF0 := hF
  obtain ⟨c1, c2, c3, c4, c5, c6, c7, c8, c9, c10, c12, c13, k1, k2, s1⟩ := hF0
  exact kX12_digest l E f n (hX := c1) (hB := c12) (hk := k1) (hbo := (by unfold kOut; omega)) (hxo := (by unfold kOut; omega)) (hpn := p2) (hrc := p3) (tw := tw) (tn := tn) (h4 := h4) (h5 := h5) (ht4 := ht4) (ht5 := ht5)

theorem cm_boilingAt (l : Launch) (E : q_E) (f : q_H) (n a BB L : Nat) (g : Nat → Int32) (pn rc : Nat) (ac : Int32) (hd v : q_V) (RS : Nat → q_S) (Q : Nat → Prop) (y : Int32) (hM : CM E a BB f n L g pn rc ac hd v RS Q) (hin : b_in y 0 60 = true) : Met l yX12_boilingAt wsX12_boilingAt ({ frames := 1, cells := 0, slots := 0, locals := 22 }) (q_P E [.ref a, .int y] f n) (q_Qi E (fun r f1 n1 => z_boil y = r ∧ f = f1 ∧ n = n1)) 0 0 (q_ge E) := by
  obtain ⟨ep, bk0, et, er0, c0, here0, k0, kk0, po0, wo0, b0, w0, b1, w1, bk, gB, bt, hdt, vt, lo_, hi_, hF, ⟨p1, p2, p3, p4, p5, p6, p7, p8, p9⟩, hs, hQ⟩ := hM
  have hF0 := hF
  obtain ⟨c1, c2, c3, c4, c5, c6, c7, c8, c9, c10, c12, c13, k1, k2, s1⟩ := hF0
  exact kX12_boilingAt l E f n a (a + 1) (a + 3) (a + 13) (a + 33) (a + 34) (a + 54) ep y hin

theorem cm_minutesAt (l : Launch) (E : q_E) (f : q_H) (n a BB L : Nat) (g : Nat → Int32) (pn rc : Nat) (ac : Int32) (hd v : q_V) (RS : Nat → q_S) (Q : Nat → Prop) (y : Int32) (b : Int32) (hM : CM E a BB f n L g pn rc ac hd v RS Q) (hin : b_in y 0 999 = true) (hin2 : b_in b 0 60 = true) : Met l yX12_minutesAt wsX12_minutesAt ({ frames := 3, cells := 0, slots := 0, locals := 61 }) (q_P E [.ref a, .int y, .int b] f n) (q_Qi E (fun r f1 n1 => z_long y b = r ∧ f = f1 ∧ n = n1)) 0 0 (q_ge E) := by
  obtain ⟨ep, bk0, et, er0, c0, here0, k0, kk0, po0, wo0, b0, w0, b1, w1, bk, gB, bt, hdt, vt, lo_, hi_, hF, ⟨p1, p2, p3, p4, p5, p6, p7, p8, p9⟩, hs, hQ⟩ := hM
  have hF0 := hF
  obtain ⟨c1, c2, c3, c4, c5, c6, c7, c8, c9, c10, c12, c13, k1, k2, s1⟩ := hF0
  exact kX12_minutesAt l E f n a (a + 1) (a + 3) (a + 13) (a + 33) (a + 34) (a + 54) ep y b hin hin2

theorem cm_setAltitude (l : Launch) (E : q_E) (f : q_H) (n a BB L : Nat) (g : Nat → Int32) (pn rc : Nat) (ac : Int32) (hd v : q_V) (RS : Nat → q_S) (Q : Nat → Prop) (y : Int32) (hM : CM E a BB f n L g pn rc ac hd v RS Q) (hin : b_in y 0 60 = true) : Met l yX12_setAltitude wsX12_setAltitude ({ frames := 3, cells := 0, slots := 0, locals := 63 }) (q_P E [.ref a, .int y] f n) (q_Qi E (fun r f1 n1 => v 0 = r ∧ CM E a BB f1 n1 L g pn rc ac hd (z_move v y pn) RS Q ∧ n1 = n ∧ ∀ q, (q < a ∨ a + 55 ≤ q) → q < n → f1 q = f q)) 0 0 (q_ge E) := by
  obtain ⟨ep, bk0, et, er0, c0, here0, k0, kk0, po0, wo0, b0, w0, b1, w1, bk, gB, bt, hdt, vt, lo_, hi_, hF, ⟨p1, p2, p3, p4, p5, p6, p7, p8, p9⟩, hs, hQ⟩ := hM
  have hF0 := hF
  obtain ⟨c1, c2, c3, c4, c5, c6, c7, c8, c9, c10, c12, c13, k1, k2, s1⟩ := hF0
  refine met_imp (kX12_setAltitude l E f n (hX := c1) (hB := c12) (hk := k1) (hbo := (by unfold kOut; omega)) (hxo := (by unfold kOut; omega)) (hpn := p2) (hrc := p3) (y := y) (hin := hin)) (q_Qi.imp ?_)
  rintro r f1 n1 ⟨rfl, rfl, rfl⟩
  exact ⟨rfl, ⟨ep, bk0, et, er0, c0, here0, k0, kk0, po0, wo0, b0, w0, b1, w1, bk, gB, bt, hdt, vt, lo_, hi_, hF.kit p4 p5, ⟨p1, p2, p3, p4, p5, p6, p7, p8, k_inv_k p9 (z_move_n (i := 0) (by decide) (by omega)) (z_move_n (i := 0) (by decide) (by omega))⟩, hs, hQ⟩, rfl, fun q hq _ => kO_out (by unfold kOut; omega)⟩

theorem cm_setServings (l : Launch) (E : q_E) (f : q_H) (n a BB L : Nat) (g : Nat → Int32) (pn rc : Nat) (ac : Int32) (hd v : q_V) (RS : Nat → q_S) (Q : Nat → Prop) (y : Int32) (hM : CM E a BB f n L g pn rc ac hd v RS Q) (hin : b_in y 1 12 = true) : Met l yX12_setServings wsX12_setServings ({ frames := 1, cells := 0, slots := 0, locals := 22 }) (q_P E [.ref a, .int y] f n) (q_Qi E (fun r f1 n1 => v 1 = r ∧ CM E a BB f1 n1 L g pn rc ac hd (upd v 1 y) RS Q ∧ n1 = n ∧ ∀ q, (q < a ∨ a + 55 ≤ q) → q < n → f1 q = f q)) 0 0 (q_ge E) := by
  obtain ⟨ep, bk0, et, er0, c0, here0, k0, kk0, po0, wo0, b0, w0, b1, w1, bk, gB, bt, hdt, vt, lo_, hi_, hF, ⟨p1, p2, p3, p4, p5, p6, p7, p8, p9⟩, hs, hQ⟩ := hM
  have hF0 := hF
  obtain ⟨c1, c2, c3, c4, c5, c6, c7, c8, c9, c10, c12, c13, k1, k2, s1⟩ := hF0
  refine met_imp (kX12_setServings l E f n (hX := c1) (hB := c12) (hk := k1) (hbo := (by unfold kOut; omega)) (hxo := (by unfold kOut; omega)) (hpn := p2) (hrc := p3) (y := y) (hin := hin)) (q_Qi.imp ?_)
  rintro r f1 n1 ⟨rfl, rfl, rfl⟩
  exact ⟨rfl, ⟨ep, bk0, et, er0, c0, here0, k0, kk0, po0, wo0, b0, w0, b1, w1, bk, gB, bt, hdt, vt, lo_, hi_, hF.kit p4 p5, ⟨p1, p2, p3, p4, p5, p6, p7, p8, k_inv_k p9 (z_un (by decide)) (z_un (by decide))⟩, hs, hQ⟩, rfl, fun q hq _ => kO_out (by unfold kOut; omega)⟩

theorem cm_setSpoon (l : Launch) (E : q_E) (f : q_H) (n a BB L : Nat) (g : Nat → Int32) (pn rc : Nat) (ac : Int32) (hd v : q_V) (RS : Nat → q_S) (Q : Nat → Prop) (y : Int32) (hM : CM E a BB f n L g pn rc ac hd v RS Q) (hin : b_in y 1 10 = true) : Met l yX12_setSpoon wsX12_setSpoon ({ frames := 1, cells := 0, slots := 0, locals := 22 }) (q_P E [.ref a, .int y] f n) (q_Qi E (fun r f1 n1 => v 2 = r ∧ CM E a BB f1 n1 L g pn rc ac hd (upd v 2 y) RS Q ∧ n1 = n ∧ ∀ q, (q < a ∨ a + 55 ≤ q) → q < n → f1 q = f q)) 0 0 (q_ge E) := by
  obtain ⟨ep, bk0, et, er0, c0, here0, k0, kk0, po0, wo0, b0, w0, b1, w1, bk, gB, bt, hdt, vt, lo_, hi_, hF, ⟨p1, p2, p3, p4, p5, p6, p7, p8, p9⟩, hs, hQ⟩ := hM
  have hF0 := hF
  obtain ⟨c1, c2, c3, c4, c5, c6, c7, c8, c9, c10, c12, c13, k1, k2, s1⟩ := hF0
  refine met_imp (kX12_setSpoon l E f n (hX := c1) (hB := c12) (hk := k1) (hbo := (by unfold kOut; omega)) (hxo := (by unfold kOut; omega)) (hpn := p2) (hrc := p3) (y := y) (hin := hin)) (q_Qi.imp ?_)
  rintro r f1 n1 ⟨rfl, rfl, rfl⟩
  exact ⟨rfl, ⟨ep, bk0, et, er0, c0, here0, k0, kk0, po0, wo0, b0, w0, b1, w1, bk, gB, bt, hdt, vt, lo_, hi_, hF.kit p4 p5, ⟨p1, p2, p3, p4, p5, p6, p7, p8, k_inv_k p9 (z_un (by decide)) (z_un (by decide))⟩, hs, hQ⟩, rfl, fun q hq _ => kO_out (by unfold kOut; omega)⟩

theorem cm_rest (l : Launch) (E : q_E) (f : q_H) (n a BB L : Nat) (g : Nat → Int32) (pn rc : Nat) (ac : Int32) (hd v : q_V) (RS : Nat → q_S) (Q : Nat → Prop) (y : Int32) (hM : CM E a BB f n L g pn rc ac hd v RS Q) (hin : b_in y 1 600 = true) : Met l yX12_rest wsX12_rest ({ frames := 3, cells := 0, slots := 0, locals := 66 }) (q_P E [.ref a, .int y] f n) (q_Qi E (fun r f1 n1 => z_hot (z_pass v y 8 pn) pn = r ∧ CM E a BB f1 n1 L g pn rc ac hd (z_pass v y 8 pn) RS Q ∧ n1 = n ∧ ∀ q, (q < a ∨ a + 55 ≤ q) → q < n → f1 q = f q)) 0 0 (q_ge E) := by
  obtain ⟨ep, bk0, et, er0, c0, here0, k0, kk0, po0, wo0, b0, w0, b1, w1, bk, gB, bt, hdt, vt, lo_, hi_, hF, ⟨p1, p2, p3, p4, p5, p6, p7, p8, p9⟩, hs, hQ⟩ := hM
  have hF0 := hF
  obtain ⟨c1, c2, c3, c4, c5, c6, c7, c8, c9, c10, c12, c13, k1, k2, s1⟩ := hF0
  refine met_imp (kX12_rest l E f n (hX := c1) (hB := c12) (hk := k1) (hbo := (by unfold kOut; omega)) (hxo := (by unfold kOut; omega)) (hpn := p2) (hrc := p3) (y := y) (hin := hin)) (q_Qi.imp ?_)
  rintro r f1 n1 ⟨rfl, rfl, rfl⟩
  exact ⟨rfl, ⟨ep, bk0, et, er0, c0, here0, k0, kk0, po0, wo0, b0, w0, b1, w1, bk, gB, bt, hdt, vt, lo_, hi_, hF.kit p4 p5, ⟨p1, p2, p3, p4, p5, p6, p7, p8, k_inv_k p9 (z_pass_lo (by decide) (by decide)) (z_pass_lo (by decide) (by decide))⟩, hs, hQ⟩, rfl, fun q hq _ => kO_out (by unfold kOut; omega)⟩

theorem cm_pourWater (l : Launch) (E : q_E) (f : q_H) (n a BB L : Nat) (g : Nat → Int32) (pn rc : Nat) (ac : Int32) (hd v : q_V) (RS : Nat → q_S) (Q : Nat → Prop) (i : Nat) (y : Int32) (hM : CM E a BB f n L g pn rc ac hd v RS Q) (hi : i < pn) (hin : b_in y 1 200 = true) : Met l yX12_pourWater wsX12_pourWater ({ frames := 2, cells := 0, slots := 0, locals := 44 }) (q_P E [.ref a, .int (nI i), .int y] f n) (q_Qi E (fun r f1 n1 => z_frv hd v i y = r ∧ CM E a BB f1 n1 L g pn rc ac hd (z_fillv hd v i 0 y) RS Q ∧ n1 = n ∧ ∀ q, (q < a ∨ a + 55 ≤ q) → q < n → f1 q = f q)) 0 0 (q_ge E) := by
  obtain ⟨ep, bk0, et, er0, c0, here0, k0, kk0, po0, wo0, b0, w0, b1, w1, bk, gB, bt, hdt, vt, lo_, hi_, hF, ⟨p1, p2, p3, p4, p5, p6, p7, p8, p9⟩, hs, hQ⟩ := hM
  have hF0 := hF
  obtain ⟨c1, c2, c3, c4, c5, c6, c7, c8, c9, c10, c12, c13, k1, k2, s1⟩ := hF0
  refine met_imp (kX12_pourWater l E f n (hX := c1) (hB := c12) (hk := k1) (hbo := (by unfold kOut; omega)) (hxo := (by unfold kOut; omega)) (hpn := p2) (hrc := p3) (i := i) (y := y) (hi := hi) (hin := hin)) (q_Qi.imp ?_)
  rintro r f1 n1 ⟨rfl, rfl, rfl⟩
  exact ⟨rfl, ⟨ep, bk0, et, er0, c0, here0, k0, kk0, po0, wo0, b0, w0, b1, w1, bk, gB, bt, hdt, vt, lo_, hi_, hF.kit p4 p5, ⟨p1, p2, p3, p4, p5, p6, p7, p8, k_inv_k p9 (z_fillv_n (by omega)) (z_fillv_n (by omega))⟩, hs, hQ⟩, rfl, fun q hq _ => kO_out (by unfold kOut; omega)⟩

theorem cm_pourMeal (l : Launch) (E : q_E) (f : q_H) (n a BB L : Nat) (g : Nat → Int32) (pn rc : Nat) (ac : Int32) (hd v : q_V) (RS : Nat → q_S) (Q : Nat → Prop) (i : Nat) (y : Int32) (hM : CM E a BB f n L g pn rc ac hd v RS Q) (hi : i < pn) (hin : b_in y 1 200 = true) : Met l yX12_pourMeal wsX12_pourMeal ({ frames := 2, cells := 0, slots := 0, locals := 44 }) (q_P E [.ref a, .int (nI i), .int y] f n) (q_Qi E (fun r f1 n1 => z_frv hd v i y = r ∧ CM E a BB f1 n1 L g pn rc ac hd (z_fillv hd v i 1 y) RS Q ∧ n1 = n ∧ ∀ q, (q < a ∨ a + 55 ≤ q) → q < n → f1 q = f q)) 0 0 (q_ge E) := by
  obtain ⟨ep, bk0, et, er0, c0, here0, k0, kk0, po0, wo0, b0, w0, b1, w1, bk, gB, bt, hdt, vt, lo_, hi_, hF, ⟨p1, p2, p3, p4, p5, p6, p7, p8, p9⟩, hs, hQ⟩ := hM
  have hF0 := hF
  obtain ⟨c1, c2, c3, c4, c5, c6, c7, c8, c9, c10, c12, c13, k1, k2, s1⟩ := hF0
  refine met_imp (kX12_pourMeal l E f n (hX := c1) (hB := c12) (hk := k1) (hbo := (by unfold kOut; omega)) (hxo := (by unfold kOut; omega)) (hpn := p2) (hrc := p3) (i := i) (y := y) (hi := hi) (hin := hin)) (q_Qi.imp ?_)
  rintro r f1 n1 ⟨rfl, rfl, rfl⟩
  exact ⟨rfl, ⟨ep, bk0, et, er0, c0, here0, k0, kk0, po0, wo0, b0, w0, b1, w1, bk, gB, bt, hdt, vt, lo_, hi_, hF.kit p4 p5, ⟨p1, p2, p3, p4, p5, p6, p7, p8, k_inv_k p9 (z_fillv_n (by omega)) (z_fillv_n (by omega))⟩, hs, hQ⟩, rfl, fun q hq _ => kO_out (by unfold kOut; omega)⟩

theorem cm_wash (l : Launch) (E : q_E) (f : q_H) (n a BB L : Nat) (g : Nat → Int32) (pn rc : Nat) (ac : Int32) (hd v : q_V) (RS : Nat → q_S) (Q : Nat → Prop) (i : Nat) (hM : CM E a BB f n L g pn rc ac hd v RS Q) (hi : i < pn) : Met l yX12_wash wsX12_wash ({ frames := 2, cells := 0, slots := 0, locals := 43 }) (q_P E [.ref a, .int (nI i)] f n) (q_Qi E (fun r f1 n1 => v (52 + 4 * i) + v (53 + 4 * i) = r ∧ CM E a BB f1 n1 L g pn rc ac hd (z_pan v i 0 0 20 0) RS Q ∧ n1 = n ∧ ∀ q, (q < a ∨ a + 55 ≤ q) → q < n → f1 q = f q)) 0 0 (q_ge E) := by
  obtain ⟨ep, bk0, et, er0, c0, here0, k0, kk0, po0, wo0, b0, w0, b1, w1, bk, gB, bt, hdt, vt, lo_, hi_, hF, ⟨p1, p2, p3, p4, p5, p6, p7, p8, p9⟩, hs, hQ⟩ := hM
  have hF0 := hF
  obtain ⟨c1, c2, c3, c4, c5, c6, c7, c8, c9, c10, c12, c13, k1, k2, s1⟩ := hF0
  refine met_imp (kX12_wash l E f n (hX := c1) (hB := c12) (hk := k1) (hbo := (by unfold kOut; omega)) (hxo := (by unfold kOut; omega)) (hpn := p2) (hrc := p3) (i := i) (hi := hi)) (q_Qi.imp ?_)
  rintro r f1 n1 ⟨rfl, rfl, rfl⟩
  exact ⟨rfl, ⟨ep, bk0, et, er0, c0, here0, k0, kk0, po0, wo0, b0, w0, b1, w1, bk, gB, bt, hdt, vt, lo_, hi_, hF.kit p4 p5, ⟨p1, p2, p3, p4, p5, p6, p7, p8, k_inv_k p9 (z_pan_n (by omega)) (z_pan_n (by omega))⟩, hs, hQ⟩, rfl, fun q hq _ => kO_out (by unfold kOut; omega)⟩

theorem cm_cook (l : Launch) (E : q_E) (f : q_H) (n a BB L : Nat) (g : Nat → Int32) (pn rc : Nat) (ac : Int32) (hd v : q_V) (RS : Nat → q_S) (Q : Nat → Prop) (i : Nat) (hM : CM E a BB f n L g pn rc ac hd v RS Q) (hB : BB ≤ 2 ^ 29) (hi9 : i < rc) : Met l yX12_cook wsX12_cook ({ frames := 230 + 0, cells := 0, slots := 0, locals := 9000 + 0 }) (q_P E [.ref a, .int (nI i)] f n) (q_Qi E (fun r f1 n1 => (RS i hd (v, 0, (-1))).1 3 - v 3 = r ∧ CM E a (BB + 100) f1 n1 L g pn rc ac hd (RS i hd (v, 0, (-1))).1 RS Q ∧ n1 = n ∧ ∀ q, (q < a ∨ a + 55 ≤ q) → q < n → f1 q = f q)) 0 0 (q_ge E) := by
  obtain ⟨ep, bk0, et, er0, c0, here0, k0, kk0, po0, wo0, b0, w0, b1, w1, bk, gB, bt, hdt, vt, lo_, hi_, hF, ⟨p1, p2, p3, p4, p5, p6, p7, p8, p9⟩, hs, hQ⟩ := hM
  have hF0 := hF
  obtain ⟨c1, c2, c3, c4, c5, c6, c7, c8, c9, c10, c12, c13, k1, k2, s1⟩ := hF0
  refine met_imp (kX12_cook l E f n (hX := c1) (hB := c12) (hk := k1) (hbo := (by unfold kOut; omega)) (hxo := (by unfold kOut; omega)) (hpn := p2) (hrc := p3) (hc := c9) (hG := c13) (hck := (by unfold kOut; omega)) (hbo4 := (by unfold kOut; omega)) (hbc := by omega) (hb4c := by omega) (hreg := (fun q h1 h2 => ⟨by unfold kOut; omega, by omega⟩)) (hB29 := hB) (hinv := p9) (hi9 := hi9) (hRS := s1)) (q_Qi.imp ?_)
  rintro r f1 n1 ⟨rfl, rfl, rfl⟩
  have hk9 := k_inv_cook ((hs i hi9).2.1 BB hd (v, 0, (-1)) hB p9)
  exact ⟨rfl, ⟨ep, bk0, et, er0, c0, here0, k0, kk0, po0, wo0, _, _, b1, w1, bk, gB, bt, hdt, vt, lo_, hi_, hF.cook p4 p5, ⟨p1, p2, p3, p4, p5, p6, p7, p8, hk9⟩, hs, hQ⟩, rfl, fun q hq _ => (kO_out (by unfold kOut; omega)).trans (va_up_ne _ _ (by omega))⟩

theorem cm_minutesOfRecipe (l : Launch) (E : q_E) (f : q_H) (n a BB L : Nat) (g : Nat → Int32) (pn rc : Nat) (ac : Int32) (hd v : q_V) (RS : Nat → q_S) (Q : Nat → Prop) (i : Nat)  (hM : CM E a BB f n L g pn rc ac hd v RS Q) (hB : BB ≤ 2 ^ 29) (hi9 : i < rc)  : Met l yX12_minutesOfRecipe wsX12_minutesOfRecipe ({ frames := 240 + 0, cells := 0, slots := 0, locals := 9000 + 0 }) (q_P E [.ref a, .int (nI i)] f n) (q_Qi E (fun r f1 n1 => (RS i hd (v, 0, (-1))).1 3 - v 3 = r ∧ CM E a BB f1 n1 L g pn rc ac hd v RS Q ∧ n1 = n ∧ ∀ q, (q < a ∨ a + 55 ≤ q) → q < n → f1 q = f q)) 0 0 (q_ge E) := by
  obtain ⟨ep, bk0, et, er0, c0, here0, k0, kk0, po0, wo0, b0, w0, b1, w1, bk, gB, bt, hdt, vt, lo_, hi_, hF, ⟨p1, p2, p3, p4, p5, p6, p7, p8, p9⟩, hs, hQ⟩ := hM
  have hF0 := hF
  obtain ⟨c1, c2, c3, c4, c5, c6, c7, c8, c9, c10, c12, c13, k1, k2, s1⟩ := hF0
  refine met_imp (kX12_minutesOfRecipe l E f n (hX := c1) (hB := c12) (hc := c10) (hG := c13) (hk := k1) (hkt := k2) (hbo := (by unfold kOut; omega)) (hxo := (by unfold kOut; omega)) (hpn := p2) (hrc := p3) (hdis := Or.inr (by omega)) (hbt := (by unfold kOut; omega)) (hbt4 := (by unfold kOut; omega)) (hxt := (by unfold kOut; omega)) (htk := (by unfold kOut; omega)) (hbc := by omega) (hb4c := by omega) (hxk := by omega) (hreg := fun q h1 h2 => ⟨by unfold kOut; omega, by omega⟩) (hB29 := hB) (hinv := p9) (hi9 := hi9) (hRS := s1) (hsb := hs i hi9) (hktk := (by unfold kOut; omega)) ) (q_Qi.imp ?_)
  rintro r f1 n1 ⟨rfl, rfl, rfl⟩
  exact ⟨rfl, ⟨ep, bk0, et, er0, c0, here0, k0, kk0, po0, wo0, b0, w0, _, _, bk, gB, _, _, _, lo_, hi_, hF.trial p4 p5, ⟨p1, p2, p3, p4, p5, p6, p7, p8, p9⟩, hs, hQ⟩, rfl, fun q hq _ => (kO_out (by unfold kOut; omega)).trans (va_up_ne _ _ (by omega))⟩

theorem cm_warningsOfRecipe (l : Launch) (E : q_E) (f : q_H) (n a BB L : Nat) (g : Nat → Int32) (pn rc : Nat) (ac : Int32) (hd v : q_V) (RS : Nat → q_S) (Q : Nat → Prop) (i : Nat)  (hM : CM E a BB f n L g pn rc ac hd v RS Q) (hB : BB ≤ 2 ^ 29) (hi9 : i < rc)  : Met l yX12_warningsOfRecipe wsX12_warningsOfRecipe ({ frames := 240 + 0, cells := 0, slots := 0, locals := 9000 + 0 }) (q_P E [.ref a, .int (nI i)] f n) (q_Qi E (fun r f1 n1 => (RS i hd (v, 0, (-1))).1 4 - v 4 = r ∧ CM E a BB f1 n1 L g pn rc ac hd v RS Q ∧ n1 = n ∧ ∀ q, (q < a ∨ a + 55 ≤ q) → q < n → f1 q = f q)) 0 0 (q_ge E) := by
  obtain ⟨ep, bk0, et, er0, c0, here0, k0, kk0, po0, wo0, b0, w0, b1, w1, bk, gB, bt, hdt, vt, lo_, hi_, hF, ⟨p1, p2, p3, p4, p5, p6, p7, p8, p9⟩, hs, hQ⟩ := hM
  have hF0 := hF
  obtain ⟨c1, c2, c3, c4, c5, c6, c7, c8, c9, c10, c12, c13, k1, k2, s1⟩ := hF0
  refine met_imp (kX12_warningsOfRecipe l E f n (hX := c1) (hB := c12) (hc := c10) (hG := c13) (hk := k1) (hkt := k2) (hbo := (by unfold kOut; omega)) (hxo := (by unfold kOut; omega)) (hpn := p2) (hrc := p3) (hdis := Or.inr (by omega)) (hbt := (by unfold kOut; omega)) (hbt4 := (by unfold kOut; omega)) (hxt := (by unfold kOut; omega)) (htk := (by unfold kOut; omega)) (hbc := by omega) (hb4c := by omega) (hxk := by omega) (hreg := fun q h1 h2 => ⟨by unfold kOut; omega, by omega⟩) (hB29 := hB) (hinv := p9) (hi9 := hi9) (hRS := s1) (hsb := hs i hi9) (hktk := (by unfold kOut; omega)) ) (q_Qi.imp ?_)
  rintro r f1 n1 ⟨rfl, rfl, rfl⟩
  exact ⟨rfl, ⟨ep, bk0, et, er0, c0, here0, k0, kk0, po0, wo0, b0, w0, _, _, bk, gB, _, _, _, lo_, hi_, hF.trial p4 p5, ⟨p1, p2, p3, p4, p5, p6, p7, p8, p9⟩, hs, hQ⟩, rfl, fun q hq _ => (kO_out (by unfold kOut; omega)).trans (va_up_ne _ _ (by omega))⟩

theorem cm_firstWarning (l : Launch) (E : q_E) (f : q_H) (n a BB L : Nat) (g : Nat → Int32) (pn rc : Nat) (ac : Int32) (hd v : q_V) (RS : Nat → q_S) (Q : Nat → Prop) (i : Nat)  (hM : CM E a BB f n L g pn rc ac hd v RS Q) (hB : BB ≤ 2 ^ 29) (hi9 : i < rc)  : Met l yX12_firstWarning wsX12_firstWarning ({ frames := 240 + 0, cells := 0, slots := 0, locals := 9000 + 0 }) (q_P E [.ref a, .int (nI i)] f n) (q_Qi E (fun r f1 n1 => (RS i hd (v, 0, (-1))).2.2 = r ∧ CM E a BB f1 n1 L g pn rc ac hd v RS Q ∧ n1 = n ∧ ∀ q, (q < a ∨ a + 55 ≤ q) → q < n → f1 q = f q)) 0 0 (q_ge E) := by
  obtain ⟨ep, bk0, et, er0, c0, here0, k0, kk0, po0, wo0, b0, w0, b1, w1, bk, gB, bt, hdt, vt, lo_, hi_, hF, ⟨p1, p2, p3, p4, p5, p6, p7, p8, p9⟩, hs, hQ⟩ := hM
  have hF0 := hF
  obtain ⟨c1, c2, c3, c4, c5, c6, c7, c8, c9, c10, c12, c13, k1, k2, s1⟩ := hF0
  refine met_imp (kX12_firstWarning l E f n (hX := c1) (hB := c12) (hc := c10) (hG := c13) (hk := k1) (hkt := k2) (hbo := (by unfold kOut; omega)) (hxo := (by unfold kOut; omega)) (hpn := p2) (hrc := p3) (hdis := Or.inr (by omega)) (hbt := (by unfold kOut; omega)) (hbt4 := (by unfold kOut; omega)) (hxt := (by unfold kOut; omega)) (htk := (by unfold kOut; omega)) (hbc := by omega) (hb4c := by omega) (hxk := by omega) (hreg := fun q h1 h2 => ⟨by unfold kOut; omega, by omega⟩) (hB29 := hB) (hinv := p9) (hi9 := hi9) (hRS := s1) (hsb := hs i hi9) (hktk := (by unfold kOut; omega)) ) (q_Qi.imp ?_)
  rintro r f1 n1 ⟨rfl, rfl, rfl⟩
  exact ⟨rfl, ⟨ep, bk0, et, er0, c0, here0, k0, kk0, po0, wo0, b0, w0, _, _, bk, gB, _, _, _, lo_, hi_, hF.trial p4 p5, ⟨p1, p2, p3, p4, p5, p6, p7, p8, p9⟩, hs, hQ⟩, rfl, fun q hq _ => (kO_out (by unfold kOut; omega)).trans (va_up_ne _ _ (by omega))⟩

theorem cm_doneBehind (l : Launch) (E : q_E) (f : q_H) (n a BB L : Nat) (g : Nat → Int32) (pn rc : Nat) (ac : Int32) (hd v : q_V) (RS : Nat → q_S) (Q : Nat → Prop) (i : Nat) (j : Nat) (hM : CM E a BB f n L g pn rc ac hd v RS Q) (hB : BB ≤ 2 ^ 29) (hi9 : i < rc) (hj : j < pn) : Met l yX12_doneBehind wsX12_doneBehind ({ frames := 240 + 0, cells := 0, slots := 0, locals := 9000 + 0 }) (q_P E [.ref a, .int (nI i), .int (nI j)] f n) (q_Qi E (fun r f1 n1 => (RS i hd (v, 0, (-1))).1 (55 + 4 * j) = r ∧ CM E a BB f1 n1 L g pn rc ac hd v RS Q ∧ n1 = n ∧ ∀ q, (q < a ∨ a + 55 ≤ q) → q < n → f1 q = f q)) 0 0 (q_ge E) := by
  obtain ⟨ep, bk0, et, er0, c0, here0, k0, kk0, po0, wo0, b0, w0, b1, w1, bk, gB, bt, hdt, vt, lo_, hi_, hF, ⟨p1, p2, p3, p4, p5, p6, p7, p8, p9⟩, hs, hQ⟩ := hM
  have hF0 := hF
  obtain ⟨c1, c2, c3, c4, c5, c6, c7, c8, c9, c10, c12, c13, k1, k2, s1⟩ := hF0
  refine met_imp (kX12_doneBehind l E f n (hX := c1) (hB := c12) (hc := c10) (hG := c13) (hk := k1) (hkt := k2) (hbo := (by unfold kOut; omega)) (hxo := (by unfold kOut; omega)) (hpn := p2) (hrc := p3) (hdis := Or.inr (by omega)) (hbt := (by unfold kOut; omega)) (hbt4 := (by unfold kOut; omega)) (hxt := (by unfold kOut; omega)) (htk := (by unfold kOut; omega)) (hbc := by omega) (hb4c := by omega) (hxk := by omega) (hreg := fun q h1 h2 => ⟨by unfold kOut; omega, by omega⟩) (hB29 := hB) (hinv := p9) (hi9 := hi9) (hRS := s1) (hsb := hs i hi9) (hktk := (by unfold kOut; omega)) (j := j) (hj := hj)) (q_Qi.imp ?_)
  rintro r f1 n1 ⟨rfl, rfl, rfl⟩
  exact ⟨rfl, ⟨ep, bk0, et, er0, c0, here0, k0, kk0, po0, wo0, b0, w0, _, _, bk, gB, _, _, _, lo_, hi_, hF.trial p4 p5, ⟨p1, p2, p3, p4, p5, p6, p7, p8, p9⟩, hs, hQ⟩, rfl, fun q hq _ => (kO_out (by unfold kOut; omega)).trans (va_up_ne _ _ (by omega))⟩

theorem cm_highestSafe (l : Launch) (E : q_E) (f : q_H) (n a BB L : Nat) (g : Nat → Int32) (pn rc : Nat) (ac : Int32) (hd v : q_V) (RS : Nat → q_S) (Q : Nat → Prop) (i : Nat)  (hM : CM E a BB f n L g pn rc ac hd v RS Q) (hB : BB ≤ 2 ^ 29) (hi9 : i < rc)  : Met l yX12_highestSafe wsX12_highestSafe ({ frames := 240 + 0, cells := 0, slots := 0, locals := 9000 + 0 }) (q_P E [.ref a, .int (nI i)] f n) (q_Qi E (fun r f1 n1 => z_best (fun h => decide ((RS i hd (z_move v (nI h) pn, 0, (-1))).1 4 = v 4)) 61 = r ∧ CM E a BB f1 n1 L g pn rc ac hd v RS Q ∧ n1 = n ∧ ∀ q, (q < a ∨ a + 55 ≤ q) → q < n → f1 q = f q)) 0 0 (q_ge E) := by
  obtain ⟨ep, bk0, et, er0, c0, here0, k0, kk0, po0, wo0, b0, w0, b1, w1, bk, gB, bt, hdt, vt, lo_, hi_, hF, ⟨p1, p2, p3, p4, p5, p6, p7, p8, p9⟩, hs, hQ⟩ := hM
  have hF0 := hF
  obtain ⟨c1, c2, c3, c4, c5, c6, c7, c8, c9, c10, c12, c13, k1, k2, s1⟩ := hF0
  refine met_imp (kX12_highestSafe l E f n (hX := c1) (hB := c12) (hc := c10) (hG := c13) (hk := k1) (hkt := k2) (hbo := (by unfold kOut; omega)) (hxo := (by unfold kOut; omega)) (hpn := p2) (hrc := p3) (hdis := Or.inr (by omega)) (hbt := (by unfold kOut; omega)) (hbt4 := (by unfold kOut; omega)) (hxt := (by unfold kOut; omega)) (htk := (by unfold kOut; omega)) (hbc := by omega) (hb4c := by omega) (hxk := by omega) (hreg := fun q h1 h2 => ⟨by unfold kOut; omega, by omega⟩) (hB29 := hB) (hinv := p9) (hi9 := hi9) (hRS := s1) (hsb := hs i hi9) (hktk := (by unfold kOut; omega)) ) (q_Qi.imp ?_)
  rintro r f1 n1 ⟨rfl, ⟨bt1, hdt1, vt1, b9, w9, rfl⟩, rfl⟩
  exact ⟨rfl, ⟨ep, bk0, et, er0, c0, here0, k0, kk0, po0, wo0, b0, w0, _, _, bk, gB, _, _, _, lo_, hi_, hF.trial p4 p5, ⟨p1, p2, p3, p4, p5, p6, p7, p8, p9⟩, hs, hQ⟩, rfl, fun q hq _ => (kO_out (by unfold kOut; omega)).trans (va_up_ne _ _ (by omega))⟩

theorem cm_mostServings (l : Launch) (E : q_E) (f : q_H) (n a BB L : Nat) (g : Nat → Int32) (pn rc : Nat) (ac : Int32) (hd v : q_V) (RS : Nat → q_S) (Q : Nat → Prop) (i : Nat)  (hM : CM E a BB f n L g pn rc ac hd v RS Q) (hB : BB ≤ 2 ^ 29) (hi9 : i < rc)  : Met l yX12_mostServings wsX12_mostServings ({ frames := 240 + 0, cells := 0, slots := 0, locals := 9000 + 0 }) (q_P E [.ref a, .int (nI i)] f n) (q_Qi E (fun r f1 n1 => z_best1 (fun h => decide ((RS i hd (upd v 1 (nI h), 0, (-1))).1 7 = v 7)) 12 = r ∧ CM E a BB f1 n1 L g pn rc ac hd v RS Q ∧ n1 = n ∧ ∀ q, (q < a ∨ a + 55 ≤ q) → q < n → f1 q = f q)) 0 0 (q_ge E) := by
  obtain ⟨ep, bk0, et, er0, c0, here0, k0, kk0, po0, wo0, b0, w0, b1, w1, bk, gB, bt, hdt, vt, lo_, hi_, hF, ⟨p1, p2, p3, p4, p5, p6, p7, p8, p9⟩, hs, hQ⟩ := hM
  have hF0 := hF
  obtain ⟨c1, c2, c3, c4, c5, c6, c7, c8, c9, c10, c12, c13, k1, k2, s1⟩ := hF0
  refine met_imp (kX12_mostServings l E f n (hX := c1) (hB := c12) (hc := c10) (hG := c13) (hk := k1) (hkt := k2) (hbo := (by unfold kOut; omega)) (hxo := (by unfold kOut; omega)) (hpn := p2) (hrc := p3) (hdis := Or.inr (by omega)) (hbt := (by unfold kOut; omega)) (hbt4 := (by unfold kOut; omega)) (hxt := (by unfold kOut; omega)) (htk := (by unfold kOut; omega)) (hbc := by omega) (hb4c := by omega) (hxk := by omega) (hreg := fun q h1 h2 => ⟨by unfold kOut; omega, by omega⟩) (hB29 := hB) (hinv := p9) (hi9 := hi9) (hRS := s1) (hsb := hs i hi9) (hktk := (by unfold kOut; omega)) ) (q_Qi.imp ?_)
  rintro r f1 n1 ⟨rfl, ⟨bt1, hdt1, vt1, b9, w9, rfl⟩, rfl⟩
  exact ⟨rfl, ⟨ep, bk0, et, er0, c0, here0, k0, kk0, po0, wo0, b0, w0, _, _, bk, gB, _, _, _, lo_, hi_, hF.trial p4 p5, ⟨p1, p2, p3, p4, p5, p6, p7, p8, p9⟩, hs, hQ⟩, rfl, fun q hq _ => (kO_out (by unfold kOut; omega)).trans (va_up_ne _ _ (by omega))⟩

theorem cm_feed (l : Launch) (E : q_E) (f : q_H) (n a BB L : Nat) (g : Nat → Int32) (pn rc : Nat) (ac : Int32) (hd v : q_V) (RS : Nat → q_S) (Q : Nat → Prop) (x1 x2 x3 x4 x5 : Int32) (hM : CM E a BB f n L g pn rc ac hd v RS Q) (hL : L + 20 ≤ 1600) : Met l yX12_feed wsX12_feed ({ frames := 1, cells := 0, slots := 0, locals := 22 }) (q_P E [.ref a, .int x1, .int x2, .int x3, .int x4, .int x5] f n) (q_Qi E (fun r f1 n1 => nI (L + 20) = r ∧ CM E a BB f1 n1 (L + 20) (t_four (t_four (t_four (t_four (t_four (g) L x1) (L + 4) x2) (L + 8) x3) (L + 12) x4) (L + 16) x5) pn rc ac hd v RS Q ∧ n1 = n ∧ ∀ q, (q < a ∨ a + 55 ≤ q) → q < n → f1 q = f q)) 0 0 (q_ge E) := by
  obtain ⟨ep, bk0, et, er0, c0, here0, k0, kk0, po0, wo0, b0, w0, b1, w1, bk, gB, bt, hdt, vt, lo_, hi_, hF, ⟨p1, p2, p3, p4, p5, p6, p7, p8, p9⟩, hs, hQ⟩ := hM
  have hF0 := hF
  obtain ⟨c1, c2, c3, c4, c5, c6, c7, c8, c9, c10, c12, c13, k1, k2, s1⟩ := hF0
  refine met_imp (kX12_feed l E f n (hX := c1) (hT := c2) (hT1 := c3) (x1 := x1) (x2 := x2) (x3 := x3) (x4 := x4) (x5 := x5) (hL := hL) (hxt := ⟨by omega, by omega⟩)) (q_Qi.imp ?_)
  rintro r f1 n1 ⟨rfl, rfl, rfl⟩
  exact ⟨rfl, ⟨ep, bk0, et, er0, c0, here0, k0, kk0, po0, wo0, b0, w0, b1, w1, bk, gB, bt, hdt, vt, lo_, hi_, hF.feed p4 p5, ⟨hL, p2, p3, p4, p5, p6, p7, p8, p9⟩, hs, hQ⟩, rfl, fun q hq _ => (va_up_ne _ _ (by omega)).trans (va_up_ne _ _ (by omega))⟩

theorem cm_trim (l : Launch) (E : q_E) (f : q_H) (n a BB L : Nat) (g : Nat → Int32) (pn rc : Nat) (ac : Int32) (hd v : q_V) (RS : Nat → q_S) (Q : Nat → Prop) (L9 : Nat) (hM : CM E a BB f n L g pn rc ac hd v RS Q) (hL9 : L9 ≤ L) : Met l yX12_trim wsX12_trim ({ frames := 1, cells := 0, slots := 0, locals := 22 }) (q_P E [.ref a, .int (nI L9)] f n) (q_Qi E (fun r f1 n1 => nI L9 = r ∧ CM E a BB f1 n1 L9 g pn rc ac hd v RS Q ∧ n1 = n ∧ ∀ q, (q < a ∨ a + 55 ≤ q) → q < n → f1 q = f q)) 0 0 (q_ge E) := by
  obtain ⟨ep, bk0, et, er0, c0, here0, k0, kk0, po0, wo0, b0, w0, b1, w1, bk, gB, bt, hdt, vt, lo_, hi_, hF, ⟨p1, p2, p3, p4, p5, p6, p7, p8, p9⟩, hs, hQ⟩ := hM
  have hF0 := hF
  obtain ⟨c1, c2, c3, c4, c5, c6, c7, c8, c9, c10, c12, c13, k1, k2, s1⟩ := hF0
  refine met_imp (kX12_trim l E f n (hX := c1) (hT := c2) (g := g) (hin := b_in_nI (by omega) hL9) (hxt := by omega)) (q_Qi.imp ?_)
  rintro r f1 n1 ⟨rfl, rfl, rfl⟩
  exact ⟨rfl, ⟨ep, bk0, et, er0, c0, here0, k0, kk0, po0, wo0, b0, w0, b1, w1, bk, gB, bt, hdt, vt, lo_, hi_, hF.trim p4 p5, ⟨by omega, p2, p3, p4, p5, p6, p7, p8, p9⟩, hs, hQ⟩, rfl, fun q hq _ => va_up_ne _ _ (by omega)⟩

