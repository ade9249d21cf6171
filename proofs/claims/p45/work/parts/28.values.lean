/-! values and acts out of tokens -/
def p_mid (K : Nat → Nat) (s : p_S) : p_S := p_step K (b_vsign s.2.1) s
section PV
variable (K : Nat → Nat) (Wd pN : Nat → Int64) (pn : Nat)
def p_val1 (V : p_S → p_S) (b : Bool) (s : p_S) : p_S :=
  if s.2.1 = 38 then p_take K 38 (p_new s)
  else if b_cont s.2.1 = true then p_known K Wd pN pn (p_take K 24 (p_step K true (p_new s)))
  else if s.2.1 = 27 ∧ b = true then p_take K 28 (V (p_mid K (V (p_take K 27 (p_new s)))))
  else p_step K (b_meas s.2.1) (p_new s)
def p_val : Nat → p_S → p_S
  | 0 => p_val1 K Wd pN pn id false
  | d + 1 => p_val1 K Wd pN pn (p_val d) true
def p_valD1 (V : p_S → p_S) (M : p_S → q_D) (b : Bool) (s : p_S) : q_D :=
  if s.2.1 = 38 then fun _ _ => (Wd s.1).toInt32
  else if b_cont s.2.1 = true then d_cont s.2.1 (ix pN pn (Wd (p_take K 24 (p_step K true (p_new s))).1)).toNatClampNeg
  else if s.2.1 = 27 ∧ b = true then fun hd v => d_bin (V (p_take K 27 (p_new s))).2.1 (M (p_take K 27 (p_new s)) hd v) (M (p_mid K (V (p_take K 27 (p_new s)))) hd v)
  else d_meas s.2.1
def p_valD : Nat → p_S → q_D
  | 0 => p_valD1 K Wd pN pn id (fun _ _ _ => 0) false
  | d + 1 => p_valD1 K Wd pN pn (p_val K Wd pN pn d) (p_valD d) true
end PV
/-- what a step of reading does not undo -/
def p_le (s s' : p_S) : Prop := s.1 ≤ s'.1 ∧ s.2.2.2.2.2 ≤ s'.2.2.2.2.2 ∧ (s'.2.1 ≠ 40 → s.2.1 ≠ 40) ∧ (s'.2.2.1 = 0 → s.2.2.1 = 0)
def p_go (K : Nat → Nat) (T : Nat) (s s' : p_S) : Prop := p_ok K T s → p_ok K T s' ∧ p_le s s'
theorem p_le.trans {a b c : p_S} (h : p_le a b) (h2 : p_le b c) : p_le a c := ⟨Nat.le_trans h.1 h2.1, Nat.le_trans h.2.1 h2.2.1, fun z => h.2.2.1 (h2.2.2.1 z), fun z => h.2.2.2 (h2.2.2.2 z)⟩
theorem p_le.rf {a : p_S} : p_le a a := ⟨Nat.le_refl _, Nat.le_refl _, id, id⟩
section PG
variable {K : Nat → Nat} {T : Nat}
theorem p_go.trans {a b c : p_S} (h : p_go K T a b) (h2 : p_go K T b c) : p_go K T a c := fun h0 => ⟨(h2 (h h0).1).1, (h h0).2.trans (h2 (h h0).1).2⟩
theorem go_rf {a : p_S} : p_go K T a a := fun h => ⟨h, p_le.rf⟩
theorem go_step {s : p_S} {r : Bool} (hKT : 39 ≤ K T) (hr : r = true → s.2.1 < 39) : p_go K T s (p_step K r s) := fun h => ⟨(h.step hKT hr).1, by
  cases r
  · exact ⟨Nat.le_refl _, Nat.le_refl _, fun z => absurd rfl z, id⟩
  · exact ⟨Nat.le_succ _, Nat.le_refl _, fun _ => by have := hr rfl; omega, id⟩⟩
theorem go_take {s : p_S} {w : Nat} (hKT : 39 ≤ K T) (hw : w < 39) : p_go K T s (p_take K w s) := go_step hKT fun e => by have := of_decide_eq_true e; omega
theorem go_ci {s : p_S} {c : Bool} {e : Nat} (he : e ≤ 5) (h0 : e ≠ 0) : p_go K T s (p_ci c e s) := fun h => ⟨h.ci he, Nat.le_refl _, Nat.le_refl _, id, fun z => by
  have z : (if c = true ∧ s.2.2.1 = 0 then e else s.2.2.1) = 0 := z
  split at z
  · exact absurd z h0
  · exact z⟩
theorem go_new {s : p_S} : p_go K T s (p_new s) := fun h => ⟨h, Nat.le_refl _, Nat.le_succ _, id, id⟩
theorem go_known {s : p_S} {Wd nm : Nat → Int64} {cnt : Nat} (hKT : 39 ≤ K T) : p_go K T s (p_known K Wd nm cnt s) := (go_ci (by decide) (by decide)).trans (go_step hKT fun e => by have := of_decide_eq_true e; show s.2.1 < 39; omega)
theorem go_newn {s : p_S} {Wd pN rN : Nat → Int64} {pn rc : Nat} {full : Bool} (hKT : 39 ≤ K T) : p_go K T s (p_newn K Wd pN pn rN rc full s) := by
  unfold p_newn
  refine p_go.trans ?_ (go_take hKT (by decide))
  split
  · split
    · exact go_ci (by decide) (by decide)
    · exact go_ci (by decide) (by decide)
  · exact go_rf
theorem known_ok {s : p_S} {Wd nm : Nat → Int64} {cnt : Nat} (hc : cnt ≤ 8) (h1 : (p_known K Wd nm cnt s).2.1 ≠ 40) (h2 : (p_known K Wd nm cnt s).2.2.1 = 0) : s.2.1 = 37 ∧ ∃ i, i < cnt ∧ ix nm cnt (Wd s.1) = nI i := by
  have e1 : s.2.1 = 37 := by
    by_cases h : s.2.1 = 37
    · exact h
    · exfalso
      apply h1
      unfold p_known
      rw [decide_eq_false h]
      rfl
  refine ⟨e1, ?_⟩
  rcases ix_ok (nm := nm) (w := Wd s.1) hc with h | h
  · exfalso
    have h3 : (if (decide (s.2.1 = 37) && decide (ix nm cnt (Wd s.1) < 0)) = true ∧ s.2.2.1 = 0 then 3 else s.2.2.1) = 0 := h2
    rw [decide_eq_true e1, decide_eq_true h] at h3
    by_cases h4 : s.2.2.1 = 0
    · rw [if_pos ⟨rfl, h4⟩] at h3
      cases h3
    · rw [if_neg (fun h9 => h4 h9.2)] at h3
      exact h4 h3
  · exact h
theorem b_cont_lt {kd : Nat} (h : b_cont kd = true) : kd < 39 ∧ (kd = 4 ∨ kd = 5 ∨ kd = 7 ∨ kd = 25 ∨ kd = 26) := by
  have h2 : kd = 4 ∨ kd = 5 ∨ kd = 7 ∨ kd = 25 ∨ kd = 26 := by simpa [b_cont, or_assoc] using h
  exact ⟨by omega, h2⟩
theorem b_meas_lt {kd : Nat} (h : b_meas kd = true) : kd < 39 ∧ 19 ≤ kd ∧ kd ≤ 23 := by
  have h2 : kd = 19 ∨ kd = 20 ∨ kd = 21 ∨ kd = 22 ∨ kd = 23 := by simpa [b_meas, or_assoc] using h
  omega
theorem b_vsign_lt {kd : Nat} (h : b_vsign kd = true) : kd < 39 ∧ 33 ≤ kd ∧ kd ≤ 36 := by
  have h2 : kd = 33 ∨ kd = 34 ∨ kd = 35 ∨ kd = 36 := by simpa [b_vsign, or_assoc] using h
  omega
theorem b_csign_lt {kd : Nat} (h : b_csign kd = true) : kd < 39 ∧ 30 ≤ kd ∧ kd ≤ 32 := by
  have h2 : kd = 30 ∨ kd = 31 ∨ kd = 32 := by simpa [b_csign, or_assoc] using h
  omega
theorem b_act_lt {kd : Nat} (h : b_act kd = true) : kd < 39 := by
  have h2 : kd = 3 ∨ kd = 7 ∨ kd = 9 ∨ kd = 11 ∨ kd = 12 ∨ kd = 13 ∨ kd = 14 ∨ kd = 15 ∨ kd = 16 := by simpa [b_act, or_assoc] using h
  omega
theorem go_mid {s : p_S} (hKT : 39 ≤ K T) : p_go K T s (p_mid K s) := go_step hKT fun e => (b_vsign_lt e).1
variable {Wd pN : Nat → Int64} {pn : Nat}
theorem go_val1 {V : p_S → p_S} {b : Bool} (hKT : 39 ≤ K T) (hV : ∀ s, p_go K T s (V s)) (s : p_S) : p_go K T (p_new s) (p_val1 K Wd pN pn V b s) := by
  unfold p_val1
  repeat' split
  · exact go_take hKT (by decide)
  · next h => exact ((go_step (s := p_new s) (r := true) hKT fun _ => (b_cont_lt h).1).trans (go_take (s := p_step K true (p_new s)) (w := 24) hKT (by decide))).trans (go_known (s := p_take K 24 (p_step K true (p_new s))) (Wd := Wd) (nm := pN) (cnt := pn) hKT)
  · exact (((go_take hKT (by decide)).trans (hV _)).trans (go_mid hKT)).trans ((hV _).trans (go_take hKT (by decide)))
  · exact go_step hKT fun e => (b_meas_lt e).1
theorem go_val (hKT : 39 ≤ K T) : ∀ (d : Nat) (s : p_S), p_go K T (p_new s) (p_val K Wd pN pn d s)
  | 0, s => go_val1 hKT (fun _ => go_rf) s
  | d + 1, s => go_val1 hKT (fun s => go_new.trans (go_val hKT d s)) s
theorem val_n (hKT : 39 ≤ K T) {d : Nat} {s : p_S} (h : p_ok K T s) : p_ok K T (p_val K Wd pN pn d s) ∧ p_le s (p_val K Wd pN pn d s) ∧ s.2.2.2.2.2 + 1 ≤ (p_val K Wd pN pn d s).2.2.2.2.2 := by
  obtain ⟨h1, h2⟩ := go_val (Wd := Wd) (pN := pN) (pn := pn) hKT d s h
  exact ⟨h1, (go_new h).2.trans h2, h2.2.1⟩
end PG

/-- what readValue leaves -/
def VALq (E : q_E) (f : q_H) (px bk T pn rc : Nat) (K : Nat → Nat) (Wd pN : Nat → Int64) (d : Nat) (u : p_S) : Option Nat → q_H → Nat → Prop := fun r f1 n1 => ∃ g, some u.2.2.2.2.2 = r ∧ pS E g px bk T pn rc (p_val K Wd pN pn d u) = f1 ∧ (p_val K Wd pN pn d u).2.2.2.2.2 = n1 ∧ (∀ q, q < u.2.2.2.2.2 → q ≠ px → q ≠ px + 1 → q ≠ bk → g q = f q) ∧ ((p_val K Wd pN pn d u).2.1 ≠ 40 → (p_val K Wd pN pn d u).2.2.1 = 0 → rV E pn u.2.2.2.2.2 (p_val K Wd pN pn d u).2.2.2.2.2 g (d + 1) u.2.2.2.2.2 (p_valD K Wd pN pn d u))
def VAL (l : Launch) (E : q_E) (d : Nat) : Prop := ∀ (f : q_H) (px bk T pn rc : Nat) (u : p_S) (kk : Nat → Option Nat) (wo pN rN : Nat → Int64) (K : Nat → Nat) (Wd : Nat → Int64), f (px + 2) = some (aQ E 5 401 kk) → f (px + 4) = some (aJ E 401 wo) → f (bk + 1) = some (aJ E 8 pN) → f (bk + 3) = some (aJ E 6 rN) → PAR E f px bk T pn rc u → px + 5 ≤ bk → bk + 5 ≤ u.2.2.2.2.2 → T ≤ 400 → (∀ j, j ≤ T → kk j = some (E.2.2.2 (K j))) → 39 ≤ K T → (∀ j, K j < 41) → (∀ j, j ≤ T → wo j = Wd j) → pn ≤ 8 → rc ≤ 6 → p_ok K T u → d ≤ 4 →
  Met l yX8_readValue wsX8_readValue ({ frames := 5 * d + 12, cells := (p_val K Wd pN pn d u).2.2.2.2.2 - u.2.2.2.2.2, slots := 9 * ((p_val K Wd pN pn d u).2.2.2.2.2 - u.2.2.2.2.2), locals := 120 * d + 400 }) (q_P E [.ref px, .int (nI (4 - d))] f u.2.2.2.2.2) (q_Qq E (VALq E f px bk T pn rc K Wd pN d u)) ((p_val K Wd pN pn d u).2.2.2.2.2 - u.2.2.2.2.2) (9 * ((p_val K Wd pN pn d u).2.2.2.2.2 - u.2.2.2.2.2)) (q_ge E)

set_option maxHeartbeats 4000000 in
set_option maxRecDepth 100000 in
theorem kX8_readValue (l : Launch) (E : q_E) (f : q_H) (n : Nat) (px bk T pn rc : Nat) (u : p_S) (kk : Nat → Option Nat) (wo pN rN : Nat → Int64) (K : Nat → Nat) (Wd : Nat → Int64) (d : Nat) (f2 : f (px + 2) = some (aQ E 5 401 kk)) (f4 : f (px + 4) = some (aJ E 401 wo)) (g1 : f (bk + 1) = some (aJ E 8 pN)) (g3 : f (bk + 3) = some (aJ E 6 rN)) (hp : PAR E f px bk T pn rc u) (hbk : px + 5 ≤ bk) (hn : bk + 5 ≤ n) (hT : T ≤ 400) (hkk : ∀ j, j ≤ T → kk j = some (E.2.2.2 (K j))) (hKT : 39 ≤ K T) (hK41 : ∀ j, K j < 41) (hWd : ∀ j, j ≤ T → wo j = Wd j) (hpn : pn ≤ 8) (hrc : rc ≤ 6) (hok : p_ok K T u) (hsn : n = u.2.2.2.2.2) (hd4 : d ≤ 4) (ihV : ∀ d1, d = d1 + 1 → VAL l E d1) : Met l yX8_readValue wsX8_readValue ({ frames := 5 * d + 12, cells := (p_val K Wd pN pn d u).2.2.2.2.2 - u.2.2.2.2.2, slots := 9 * ((p_val K Wd pN pn d u).2.2.2.2.2 - u.2.2.2.2.2), locals := 120 * d + 400 }) (q_P E [.ref px, .int (nI (4 - d))] f n) (q_Qq E (VALq E f px bk T pn rc K Wd pN d u)) ((p_val K Wd pN pn d u).2.2.2.2.2 - u.2.2.2.2.2) (9 * ((p_val K Wd pN pn d u).2.2.2.2.2 - u.2.2.2.2.2)) (q_ge E) := by
  refine Met.ofW (cc := cX8_readValue) (maxL := 3) (ret := (some (.object "HighRecipes$Value"))) (by decide) rfl ?_
  intro p e s m args below meth c s₁ B hml hv
  obtain ⟨rfl, hA, hW⟩ := hv
  have hx := B.exec
  have hb := B.bytes
  have hr := B.returns
  have hts := atoms_spec (ws := wsX8_readValue) B.pre
  have hown : s.vm.findClass RX8 = some m.cls := findClass_of_methodNamed B.named
  have hlocks := B.notSynchronized
  have hS : va_S (q_ge E) s.heap s.heap [] := va_S.rf
  have iX10 : ∀ w ∈ wsX100, w ∈ wsX8_readValue := by decide +kernel
  have iX11 : ∀ w ∈ wsX110, w ∈ wsX8_readValue := by decide +kernel
  have iX8 : ∀ w ∈ wsX80, w ∈ wsX8_readValue := by decide +kernel
  have hl := lv_entry ([.ref px, .int (nI (4 - d))]) (n := 3) (Nat.le_of_ble_eq_true rfl)
  rw [lg_entry_eq]
  generalize (lg_sl ([.ref px, .int (nI (4 - d))]) ++ List.replicate (3 - (lg_sl ([.ref px, .int (nI (4 - d))])).length) Slot.unset).toArray = ls at hl ⊢
  have hl : lv_has ls 3 [(0, .ref px), (1, .int (nI (4 - d)))] := hl
  subst hsn
  rw [hp.eq] at hW
  have hk41 : u.2.1 < 41 := by rcases hok.2.1 with h9 | h9 <;> rw [h9]; decide; exact hK41 _
  have hval := val_n (Wd := Wd) (pN := pN) (pn := pn) (d := d) hKT hok
  have hn1 := hval.2.2
  refine q_new (ci := 11) hx hb hts hown hA hW hS iX11 tyX11 tyX11_ok (hts (.classLink RX8 218 RX11) (by decide +kernel)) (hts (.instantiable RX11 5) (by decide +kernel)) (hts (.initialized RX11) (by decide +kernel)) rfl (fs := [.null, .int 0, .null, .null, .null]) (by decide) (by show 0 + 1 ≤ (p_val K Wd pN pn d u).2.2.2.2.2 - u.2.2.2.2.2; omega) (by show 0 + 5 ≤ 9 * ((p_val K Wd pN pn d u).2.2.2.2.2 - u.2.2.2.2.2); omega) dX8_readValue_0 (fun H hW hS => ?_)
  have hW : q_W E (va_up (pS E f px bk T pn rc u) u.2.2.2.2.2 (some (rX11 none 0 none none none))) (u.2.2.2.2.2 + 1) H := hW
  rw [pS_iu (by omega) (by omega) (by omega)] at hW
  have hW : q_W E (pS E (va_up f u.2.2.2.2.2 (some (rX11 none 0 none none none))) px bk T pn rc (p_new u)) (u.2.2.2.2.2 + 1) H := hW
  refine lv_dup hx hb dX8_readValue_3 rfl ?_
  refine lv_aload_n hx hb dX8_readValue_4 rfl (lv_at hl 0 rfl) ?_
  refine q_get hx hb hts hown hA hW iX8 pS_p rfl 0 (by decide) (hts (.fieldLink RX8 10 "HighRecipes$Parser" "tokens" "LHighRecipes$Tokens;") (by decide +kernel)) (fun _ h9 => h9) (v := .ref (px + 1)) rfl dX8_readValue_5 ?_
  refine q_getN hx hb hts hown hA hW iX10 pS_t rfl 5 (by decide) (va_Nw.use rfl (hA.2.2.2.1 ("HighRecipes$Parser", 31, "HighRecipes$Tokens", "kind", "LHighRecipes$Kind;", "HighRecipes") (by decide +kernel))) (fun _ h9 => h9) (v := .ref (E.2.2.2 ((p_new u)).2.1)) rfl dX8_readValue_8 ?_
  refine q_cv (va_runI (As := [.ref (E.2.2.2 u.2.1)]) (rest := [.ref u.2.2.2.2.2]) ⟨hx, hb, hml, hown, hts⟩ (kX11_init l E (pS E (va_up f u.2.2.2.2.2 (some (rX11 none 0 none none none))) px bk T pn rc (p_new u)) (u.2.2.2.2.2 + 1) u.2.2.2.2.2 u.2.1 ((pS_out (by omega) (by omega) (by omega)).trans q_eq)) (cwI 1 hts gX8_readValue_X11_init rfl rfl rfl (hts (.initialized RX11) (by decide +kernel)) (hts (.methodLink RX8 220 yX11_init) (by decide +kernel)) (hts (.instanceMethod yX11_init) (by decide +kernel)) rfl (by decide +kernel) ⟨(by show 1 + 1 ≤ 5 * d + 12; omega), (by show 8 + (2 + 11) + 20 ≤ 120 * d + 400; omega)⟩) (q_pS hA hW hS) rfl rfl hl.1 rfl (lv_room (Nat.le_of_ble_eq_true rfl)) dX8_readValue_11 ⟨(by show 1 + 0 ≤ (p_val K Wd pN pn d u).2.2.2.2.2 - u.2.2.2.2.2; omega), (by show 5 + 0 ≤ 9 * ((p_val K Wd pN pn d u).2.2.2.2.2 - u.2.2.2.2.2); omega)⟩) hS (fun f_11 n_11 H locs hp hW hS => ?_)
  obtain ⟨rfl, rfl⟩ := hp
  have hW : q_W E (va_up (pS E (va_up f u.2.2.2.2.2 (some (rX11 none 0 none none none))) px bk T pn rc (p_new u)) u.2.2.2.2.2 (some (rX11 (some (E.2.2.2 u.2.1)) 0 none none none))) (u.2.2.2.2.2 + 1) H := hW
  rw [pS_iu (by omega) (by omega) (by omega)] at hW
  rw [q_upup] at hW
  have hW : q_W E (pS E (va_up f u.2.2.2.2.2 (some (rX11 (some (E.2.2.2 u.2.1)) 0 none none none))) px bk T pn rc (p_new u)) (u.2.2.2.2.2 + 1) H := hW
  refine lv_astore_n (lv' := [(2, .ref u.2.2.2.2.2), (0, .ref px), (1, .int (nI (4 - d)))]) hx hb dX8_readValue_14 rfl hl (by decide) rfl (fun ls hl => ?_)
  refine lv_aload_n hx hb dX8_readValue_15 rfl (lv_at hl 0 rfl) ?_
  refine q_getN hx hb hts hown hA hW iX11 ((pS_out (by omega) (by omega) (by omega)).trans q_eq) rfl 0 (by decide) (va_Nw.use rfl (hA.2.2.2.1 ("HighRecipes$Parser", 236, "HighRecipes$Value", "kind", "LHighRecipes$Kind;", "HighRecipes") (by decide +kernel))) (fun _ h9 => h9) (v := .ref (E.2.2.2 u.2.1)) rfl dX8_readValue_16 ?_
  refine va_gets (n := "NUMBER") (v := .ref (E.2.2.2 38)) hx hb (hA.2.2.1.1.1 38 (by decide)).1 hS hown (hts (.fieldLink RX8 88 "HighRecipes$Kind" "NUMBER" "LHighRecipes$Kind;") (by decide +kernel)) (fun _ h9 => h9) dX8_readValue_19 ?_
  refine lv_acmp_ne (rx := (some (E.2.2.2 u.2.1))) (ry := (some (E.2.2.2 38))) (tgt := 50) hx hb dX8_readValue_22 (by decide) (fun c_22 => ?_) (fun c_22 => ?_)
  · have e22 : ¬ u.2.1 = 38 := fun h9 => c_22 (by rw [h9])
    refine lv_aload_n hx hb dX8_readValue_50 rfl (lv_at hl 0 rfl) ?_
    refine q_getN hx hb hts hown hA hW iX11 ((pS_out (by omega) (by omega) (by omega)).trans q_eq) rfl 0 (by decide) (va_Nw.use rfl (hA.2.2.2.1 ("HighRecipes$Parser", 236, "HighRecipes$Value", "kind", "LHighRecipes$Kind;", "HighRecipes") (by decide +kernel))) (fun _ h9 => h9) (v := .ref (E.2.2.2 u.2.1)) rfl dX8_readValue_51 ?_
    refine q_ci (va_runV (As := []) (rest := []) ⟨hx, hb, hml, hown, hts⟩ (kX5_isContent l E (pS E (va_up f u.2.2.2.2.2 (some (rX11 (some (E.2.2.2 u.2.1)) 0 none none none))) px bk T pn rc (p_new u)) (u.2.2.2.2.2 + 1) u.2.1 hk41) (cwV 0 hts gX8_readValue_X5_isContent rfl rfl rfl (by decide +kernel) ⟨(by show 0 + 1 ≤ 5 * d + 12; omega), (by show 8 + (1 + 11) + 0 ≤ 120 * d + 400; omega)⟩) (q_pK hA hW hS hk41) rfl rfl hl.1 rfl (lv_room (Nat.le_of_ble_eq_true rfl)) dX8_readValue_54 ⟨(by show 1 + 0 ≤ (p_val K Wd pN pn d u).2.2.2.2.2 - u.2.2.2.2.2; omega), (by show 5 + 0 ≤ 9 * ((p_val K Wd pN pn d u).2.2.2.2.2 - u.2.2.2.2.2); omega)⟩) hS (fun r_54 f_54 n_54 H locs hp hW hS => ?_)
    obtain ⟨rfl, rfl, rfl⟩ := hp
    have hW : q_W E (pS E (va_up f u.2.2.2.2.2 (some (rX11 (some (E.2.2.2 u.2.1)) 0 none none none))) px bk T pn rc (p_new u)) (u.2.2.2.2.2 + 1) H := hW
    refine lv_if_eq (tgt := 90) hx hb dX8_readValue_57 (by decide) (fun c_57 => ?_) (fun c_57 => ?_)
    · have e57 := b01_0 c_57
      have e57n : ¬ b_cont u.2.1 = true := by rw [e57]; decide
      refine lv_aload_n hx hb dX8_readValue_90 rfl (lv_at hl 0 rfl) ?_
      refine q_getN hx hb hts hown hA hW iX11 ((pS_out (by omega) (by omega) (by omega)).trans q_eq) rfl 0 (by decide) (va_Nw.use rfl (hA.2.2.2.1 ("HighRecipes$Parser", 236, "HighRecipes$Value", "kind", "LHighRecipes$Kind;", "HighRecipes") (by decide +kernel))) (fun _ h9 => h9) (v := .ref (E.2.2.2 u.2.1)) rfl dX8_readValue_91 ?_
      refine va_gets (n := "OPEN") (v := .ref (E.2.2.2 27)) hx hb (hA.2.2.1.1.1 27 (by decide)).1 hS hown (hts (.fieldLink RX8 124 "HighRecipes$Kind" "OPEN" "LHighRecipes$Kind;") (by decide +kernel)) (fun _ h9 => h9) dX8_readValue_94 ?_
      refine lv_acmp_ne (rx := (some (E.2.2.2 u.2.1))) (ry := (some (E.2.2.2 27))) (tgt := 178) hx hb dX8_readValue_97 (by decide) (fun c_97 => ?_) (fun c_97 => ?_)
      · have e97 : ¬ (u.2.1 = 27) := fun h9 => c_97 (by rw [h9])
        have eV : p_val K Wd pN pn d u = p_step K (b_meas u.2.1) (p_new u) := by cases d with | zero => unfold p_val p_val1; rw [if_neg e22, if_neg e57n, if_neg (fun h9 => e97 h9.1)] | succ d0 => unfold p_val p_val1; rw [if_neg e22, if_neg e57n, if_neg (fun h9 => e97 h9.1)]
        have eD : p_valD K Wd pN pn d u = d_meas u.2.1 := by cases d with | zero => unfold p_valD p_valD1; rw [if_neg e22, if_neg e57n, if_neg (fun h9 => e97 h9.1)] | succ d0 => unfold p_valD p_valD1; rw [if_neg e22, if_neg e57n, if_neg (fun h9 => e97 h9.1)]
        refine lv_aload_n hx hb dX8_readValue_178 rfl (lv_at hl 1 rfl) ?_
        refine q_get hx hb hts hown hA hW iX8 pS_p rfl 0 (by decide) (hts (.fieldLink RX8 10 "HighRecipes$Parser" "tokens" "LHighRecipes$Tokens;") (by decide +kernel)) (fun _ h9 => h9) (v := .ref (px + 1)) rfl dX8_readValue_179 ?_
        refine lv_aload_n hx hb dX8_readValue_182 rfl (lv_at hl 0 rfl) ?_
        refine q_getN hx hb hts hown hA hW iX11 ((pS_out (by omega) (by omega) (by omega)).trans q_eq) rfl 0 (by decide) (va_Nw.use rfl (hA.2.2.2.1 ("HighRecipes$Parser", 236, "HighRecipes$Value", "kind", "LHighRecipes$Kind;", "HighRecipes") (by decide +kernel))) (fun _ h9 => h9) (v := .ref (E.2.2.2 u.2.1)) rfl dX8_readValue_183 ?_
        refine q_ci (va_runV (As := []) (rest := [.ref (px + 1)]) ⟨hx, hb, hml, hown, hts⟩ (kX5_isMeasure l E (pS E (va_up f u.2.2.2.2.2 (some (rX11 (some (E.2.2.2 u.2.1)) 0 none none none))) px bk T pn rc (p_new u)) (u.2.2.2.2.2 + 1) u.2.1 hk41) (cwV 0 hts gX8_readValue_X5_isMeasure rfl rfl rfl (by decide +kernel) ⟨(by show 0 + 1 ≤ 5 * d + 12; omega), (by show 8 + (1 + 11) + 0 ≤ 120 * d + 400; omega)⟩) (q_pK hA hW hS hk41) rfl rfl hl.1 rfl (lv_room (Nat.le_of_ble_eq_true rfl)) dX8_readValue_186 ⟨(by show 1 + 0 ≤ (p_val K Wd pN pn d u).2.2.2.2.2 - u.2.2.2.2.2; omega), (by show 5 + 0 ≤ 9 * ((p_val K Wd pN pn d u).2.2.2.2.2 - u.2.2.2.2.2); omega)⟩) hS (fun r_186 f_186 n_186 H locs hp hW hS => ?_)
        obtain ⟨rfl, rfl, rfl⟩ := hp
        have hW : q_W E (pS E (va_up f u.2.2.2.2.2 (some (rX11 (some (E.2.2.2 u.2.1)) 0 none none none))) px bk T pn rc (p_new u)) (u.2.2.2.2.2 + 1) H := hW
        refine q_cv (va_runV (As := [.int (b01 (b_meas u.2.1))]) (rest := []) ⟨hx, hb, hml, hown, hts⟩ (kX10_step l E (pS E (va_up f u.2.2.2.2.2 (some (rX11 (some (E.2.2.2 u.2.1)) 0 none none none))) px bk T pn rc (p_new u)) (u.2.2.2.2.2 + 1) (px + 1) T (p_new u) kk K (b_meas u.2.1) pS_t ((pS_out (by omega) (by omega) (by omega)).trans (q_ne (by omega) f2)) (by assumption) (by assumption) (hok.step hKT (fun h9 => (b_meas_lt h9).1)).2) (cwV 1 hts gX8_readValue_X10_step rfl rfl rfl (by decide +kernel) ⟨(by show 0 + 1 ≤ 5 * d + 12; omega), (by show 8 + (3 + 11) + 0 ≤ 120 * d + 400; omega)⟩) (q_pV hA hW hS (ci := 10) rfl pS_t) rfl rfl hl.1 rfl (lv_room (Nat.le_of_ble_eq_true rfl)) dX8_readValue_189 ⟨(by show 1 + 0 ≤ (p_val K Wd pN pn d u).2.2.2.2.2 - u.2.2.2.2.2; omega), (by show 5 + 0 ≤ 9 * ((p_val K Wd pN pn d u).2.2.2.2.2 - u.2.2.2.2.2); omega)⟩) hS (fun f_189 n_189 H locs hp hW hS => ?_)
        obtain ⟨rfl, rfl⟩ := hp
        have hW : q_W E (va_up (pS E (va_up f u.2.2.2.2.2 (some (rX11 (some (E.2.2.2 u.2.1)) 0 none none none))) px bk T pn rc (p_new u)) (px + 1) (some (cTS E (px + 1) T (p_step K (b_meas u.2.1) (p_new u))))) (u.2.2.2.2.2 + 1) H := hW
        have hW : q_W E (pS E (va_up f u.2.2.2.2.2 (some (rX11 (some (E.2.2.2 u.2.1)) 0 none none none))) px bk T pn rc (p_step K (b_meas u.2.1) (p_new u))) (u.2.2.2.2.2 + 1) H := by rw [← pS_st (s := p_new u) (s' := p_step K (b_meas u.2.1) (p_new u)) rfl rfl]; exact hW
        have hW : q_W E (pS E (va_up f u.2.2.2.2.2 (some (rX11 (some (E.2.2.2 u.2.1)) 0 none none none))) px bk T pn rc (p_step K (b_meas u.2.1) (p_new u))) (u.2.2.2.2.2 + 1) H := hW
        refine lv_aload_n hx hb dX8_readValue_192 rfl (lv_at hl 0 rfl) ?_
        have rep : (p_step K (b_meas u.2.1) (p_new u)).2.1 ≠ 40 → (p_step K (b_meas u.2.1) (p_new u)).2.2.1 = 0 → rV E pn u.2.2.2.2.2 (p_step K (b_meas u.2.1) (p_new u)).2.2.2.2.2 (va_up f u.2.2.2.2.2 (some (rX11 (some (E.2.2.2 u.2.1)) 0 none none none))) (d + 1) u.2.2.2.2.2 (d_meas u.2.1) := by
          intro k1 k2
          have hm : b_meas u.2.1 = true := by cases hb9 : b_meas u.2.1 with | true => rfl | false => rw [hb9] at k1; exact absurd rfl k1
          exact ⟨Nat.le_refl _, Nat.lt_succ_self _, u.2.1, 0, none, none, none, q_eq, Or.inr (Or.inl ⟨(b_meas_lt hm).2.1, (b_meas_lt hm).2.2, rfl⟩)⟩
        exact q_aret (v := some u.2.2.2.2.2) hx hb hr (Or.inl ⟨_, rfl⟩) hlocks hW hS ⟨_, rfl, congrArg (fun z => pS E _ px bk T pn rc z) eV, (by rw [eV]; try rfl), fun q hq h7 h8 h9 => ((va_up_ne _ _ (by omega)).trans rfl), fun k1 k2 => by rw [eD]; rw [eV] at k1 k2 ⊢; exact rep k1 k2⟩ (by show 1 ≤ (p_val K Wd pN pn d u).2.2.2.2.2 - u.2.2.2.2.2; omega) (by show 5 ≤ 9 * ((p_val K Wd pN pn d u).2.2.2.2.2 - u.2.2.2.2.2); omega) dX8_readValue_193
      · have e97 : u.2.1 = 27 := q_kinj hA hk41 (by decide) c_97
        refine lv_iload_n hx hb dX8_readValue_100 rfl (lv_at hl 2 rfl) ?_
        refine lv_iconst (v := 3) hx hb dX8_readValue_101 (by decide) ?_
        refine lv_icmp_gt (tgt := 178) hx hb dX8_readValue_102 (by decide) (fun c_102 => ?_) (fun c_102 => ?_)
        · have hd0 : d = 0 := by rcases Nat.eq_zero_or_pos d with h9 | h9; exact h9; exact absurd (show nI 3 < nI (4 - d) from c_102) (nI_nlt (by omega) (by decide))
          have eV : p_val K Wd pN pn d u = p_step K (b_meas u.2.1) (p_new u) := by rw [hd0]; unfold p_val p_val1; rw [if_neg e22, if_neg e57n, if_neg (fun h9 => by cases h9.2)]
          have eD : p_valD K Wd pN pn d u = d_meas u.2.1 := by rw [hd0]; unfold p_valD p_valD1; rw [if_neg e22, if_neg e57n, if_neg (fun h9 => by cases h9.2)]
          refine lv_aload_n hx hb dX8_readValue_178 rfl (lv_at hl 1 rfl) ?_
          refine q_get hx hb hts hown hA hW iX8 pS_p rfl 0 (by decide) (hts (.fieldLink RX8 10 "HighRecipes$Parser" "tokens" "LHighRecipes$Tokens;") (by decide +kernel)) (fun _ h9 => h9) (v := .ref (px + 1)) rfl dX8_readValue_179 ?_
          refine lv_aload_n hx hb dX8_readValue_182 rfl (lv_at hl 0 rfl) ?_
          refine q_getN hx hb hts hown hA hW iX11 ((pS_out (by omega) (by omega) (by omega)).trans q_eq) rfl 0 (by decide) (va_Nw.use rfl (hA.2.2.2.1 ("HighRecipes$Parser", 236, "HighRecipes$Value", "kind", "LHighRecipes$Kind;", "HighRecipes") (by decide +kernel))) (fun _ h9 => h9) (v := .ref (E.2.2.2 u.2.1)) rfl dX8_readValue_183 ?_
          refine q_ci (va_runV (As := []) (rest := [.ref (px + 1)]) ⟨hx, hb, hml, hown, hts⟩ (kX5_isMeasure l E (pS E (va_up f u.2.2.2.2.2 (some (rX11 (some (E.2.2.2 u.2.1)) 0 none none none))) px bk T pn rc (p_new u)) (u.2.2.2.2.2 + 1) u.2.1 hk41) (cwV 0 hts gX8_readValue_X5_isMeasure rfl rfl rfl (by decide +kernel) ⟨(by show 0 + 1 ≤ 5 * d + 12; omega), (by show 8 + (1 + 11) + 0 ≤ 120 * d + 400; omega)⟩) (q_pK hA hW hS hk41) rfl rfl hl.1 rfl (lv_room (Nat.le_of_ble_eq_true rfl)) dX8_readValue_186 ⟨(by show 1 + 0 ≤ (p_val K Wd pN pn d u).2.2.2.2.2 - u.2.2.2.2.2; omega), (by show 5 + 0 ≤ 9 * ((p_val K Wd pN pn d u).2.2.2.2.2 - u.2.2.2.2.2); omega)⟩) hS (fun r_186 f_186 n_186 H locs hp hW hS => ?_)
          obtain ⟨rfl, rfl, rfl⟩ := hp
          have hW : q_W E (pS E (va_up f u.2.2.2.2.2 (some (rX11 (some (E.2.2.2 u.2.1)) 0 none none none))) px bk T pn rc (p_new u)) (u.2.2.2.2.2 + 1) H := hW
          refine q_cv (va_runV (As := [.int (b01 (b_meas u.2.1))]) (rest := []) ⟨hx, hb, hml, hown, hts⟩ (kX10_step l E (pS E (va_up f u.2.2.2.2.2 (some (rX11 (some (E.2.2.2 u.2.1)) 0 none none none))) px bk T pn rc (p_new u)) (u.2.2.2.2.2 + 1) (px + 1) T (p_new u) kk K (b_meas u.2.1) pS_t ((pS_out (by omega) (by omega) (by omega)).trans (q_ne (by omega) f2)) (by assumption) (by assumption) (hok.step hKT (fun h9 => (b_meas_lt h9).1)).2) (cwV 1 hts gX8_readValue_X10_step rfl rfl rfl (by decide +kernel) ⟨(by show 0 + 1 ≤ 5 * d + 12; omega), (by show 8 + (3 + 11) + 0 ≤ 120 * d + 400; omega)⟩) (q_pV hA hW hS (ci := 10) rfl pS_t) rfl rfl hl.1 rfl (lv_room (Nat.le_of_ble_eq_true rfl)) dX8_readValue_189 ⟨(by show 1 + 0 ≤ (p_val K Wd pN pn d u).2.2.2.2.2 - u.2.2.2.2.2; omega), (by show 5 + 0 ≤ 9 * ((p_val K Wd pN pn d u).2.2.2.2.2 - u.2.2.2.2.2); omega)⟩) hS (fun f_189 n_189 H locs hp hW hS => ?_)
          obtain ⟨rfl, rfl⟩ := hp
          have hW : q_W E (va_up (pS E (va_up f u.2.2.2.2.2 (some (rX11 (some (E.2.2.2 u.2.1)) 0 none none none))) px bk T pn rc (p_new u)) (px + 1) (some (cTS E (px + 1) T (p_step K (b_meas u.2.1) (p_new u))))) (u.2.2.2.2.2 + 1) H := hW
          have hW : q_W E (pS E (va_up f u.2.2.2.2.2 (some (rX11 (some (E.2.2.2 u.2.1)) 0 none none none))) px bk T pn rc (p_step K (b_meas u.2.1) (p_new u))) (u.2.2.2.2.2 + 1) H := by rw [← pS_st (s := p_new u) (s' := p_step K (b_meas u.2.1) (p_new u)) rfl rfl]; exact hW
          have hW : q_W E (pS E (va_up f u.2.2.2.2.2 (some (rX11 (some (E.2.2.2 u.2.1)) 0 none none none))) px bk T pn rc (p_step K (b_meas u.2.1) (p_new u))) (u.2.2.2.2.2 + 1) H := hW
          refine lv_aload_n hx hb dX8_readValue_192 rfl (lv_at hl 0 rfl) ?_
          have rep : (p_step K (b_meas u.2.1) (p_new u)).2.1 ≠ 40 → (p_step K (b_meas u.2.1) (p_new u)).2.2.1 = 0 → rV E pn u.2.2.2.2.2 (p_step K (b_meas u.2.1) (p_new u)).2.2.2.2.2 (va_up f u.2.2.2.2.2 (some (rX11 (some (E.2.2.2 u.2.1)) 0 none none none))) (d + 1) u.2.2.2.2.2 (d_meas u.2.1) := by
            intro k1 k2
            have hm : b_meas u.2.1 = true := by cases hb9 : b_meas u.2.1 with | true => rfl | false => rw [hb9] at k1; exact absurd rfl k1
            exact ⟨Nat.le_refl _, Nat.lt_succ_self _, u.2.1, 0, none, none, none, q_eq, Or.inr (Or.inl ⟨(b_meas_lt hm).2.1, (b_meas_lt hm).2.2, rfl⟩)⟩
          exact q_aret (v := some u.2.2.2.2.2) hx hb hr (Or.inl ⟨_, rfl⟩) hlocks hW hS ⟨_, rfl, congrArg (fun z => pS E _ px bk T pn rc z) eV, (by rw [eV]; try rfl), fun q hq h7 h8 h9 => ((va_up_ne _ _ (by omega)).trans rfl), fun k1 k2 => by rw [eD]; rw [eV] at k1 k2 ⊢; exact rep k1 k2⟩ (by show 1 ≤ (p_val K Wd pN pn d u).2.2.2.2.2 - u.2.2.2.2.2; omega) (by show 5 ≤ 9 * ((p_val K Wd pN pn d u).2.2.2.2.2 - u.2.2.2.2.2); omega) dX8_readValue_193
        · obtain ⟨d1, hd1⟩ : ∃ d1, d = d1 + 1 := ⟨d - 1, by rcases Nat.eq_zero_or_pos d with h9 | h9; (subst h9; exact absurd (by decide) c_102); omega⟩
          obtain ⟨u1, hu_u1⟩ : ∃ z, p_val K Wd pN pn d1 (p_take K 27 (p_new u)) = z := ⟨_, rfl⟩
          obtain ⟨u2, hu_u2⟩ : ∃ z, p_val K Wd pN pn d1 (p_mid K u1) = z := ⟨_, rfl⟩
          have ok0 : p_ok K T (p_take K 27 (p_new u)) := hok.new.take hKT (by decide)
          have v1 := val_n (Wd := Wd) (pN := pN) (pn := pn) (d := d1) hKT ok0
          rw [hu_u1] at v1
          have ok1 := v1.1
          have okm : p_ok K T (p_mid K u1) := (go_mid hKT ok1).1
          have v2 := val_n (Wd := Wd) (pN := pN) (pn := pn) (d := d1) hKT okm
          rw [hu_u2] at v2
          have ok2 := v2.1
          have vn1 : u.2.2.2.2.2 + 1 + 1 ≤ u1.2.2.2.2.2 := v1.2.2
          have vn2 : u1.2.2.2.2.2 + 1 ≤ u2.2.2.2.2.2 := v2.2.2
          have eV : p_val K Wd pN pn d u = p_take K 28 u2 := by rw [hd1]; show p_val1 K Wd pN pn (p_val K Wd pN pn d1) true u = _; unfold p_val1; rw [if_neg e22, if_neg e57n, if_pos ⟨e97, rfl⟩, hu_u1, hu_u2]
          have eD : p_valD K Wd pN pn d u = fun hd v => d_bin u1.2.1 (p_valD K Wd pN pn d1 (p_take K 27 (p_new u)) hd v) (p_valD K Wd pN pn d1 (p_mid K u1) hd v) := by rw [hd1]; show p_valD1 K Wd pN pn (p_val K Wd pN pn d1) (p_valD K Wd pN pn d1) true u = _; unfold p_valD1; rw [if_neg e22, if_neg e57n, if_pos ⟨e97, rfl⟩, hu_u1]
          have eN : (p_val K Wd pN pn d u).2.2.2.2.2 = u2.2.2.2.2.2 := by rw [eV]; rfl
          have ea : nI (4 - d) + 1 = nI (4 - d1) := by rw [nI_1]; congr 1; omega
          have hk1 : u1.2.1 < 41 := by rcases ok1.2.1 with h9 | h9 <;> rw [h9]; decide; exact hK41 _
          refine lv_aload_n hx hb dX8_readValue_105 rfl (lv_at hl 1 rfl) ?_
          refine q_get hx hb hts hown hA hW iX8 pS_p rfl 0 (by decide) (hts (.fieldLink RX8 10 "HighRecipes$Parser" "tokens" "LHighRecipes$Tokens;") (by decide +kernel)) (fun _ h9 => h9) (v := .ref (px + 1)) rfl dX8_readValue_106 ?_
          refine va_gets (n := "OPEN") (v := .ref (E.2.2.2 27)) hx hb (hA.2.2.1.1.1 27 (by decide)).1 hS hown (hts (.fieldLink RX8 124 "HighRecipes$Kind" "OPEN" "LHighRecipes$Kind;") (by decide +kernel)) (fun _ h9 => h9) dX8_readValue_109 ?_
          refine q_cv (va_runV (As := [.ref (E.2.2.2 27)]) (rest := []) ⟨hx, hb, hml, hown, hts⟩ (kX10_take l E (pS E (va_up f u.2.2.2.2.2 (some (rX11 (some (E.2.2.2 u.2.1)) 0 none none none))) px bk T pn rc (p_new u)) (u.2.2.2.2.2 + 1) (px + 1) T (p_new u) kk K 27 pS_t ((pS_out (by omega) (by omega) (by omega)).trans (q_ne (by omega) f2)) (by assumption) (by assumption) (by assumption) (by assumption) hok.new (by first | assumption | decide)) (cwV 1 hts gX8_readValue_X10_take rfl rfl rfl (by decide +kernel) ⟨(by show 1 + 1 ≤ 5 * d + 12; omega), (by show 8 + (2 + 11) + 22 ≤ 120 * d + 400; omega)⟩) (q_pV hA hW hS (ci := 10) rfl pS_t) rfl rfl hl.1 rfl (lv_room (Nat.le_of_ble_eq_true rfl)) dX8_readValue_112 ⟨(by show 1 + 0 ≤ (p_val K Wd pN pn d u).2.2.2.2.2 - u.2.2.2.2.2; omega), (by show 5 + 0 ≤ 9 * ((p_val K Wd pN pn d u).2.2.2.2.2 - u.2.2.2.2.2); omega)⟩) hS (fun f_112 n_112 H locs hp hW hS => ?_)
          obtain ⟨rfl, rfl⟩ := hp
          have hW : q_W E (va_up (pS E (va_up f u.2.2.2.2.2 (some (rX11 (some (E.2.2.2 u.2.1)) 0 none none none))) px bk T pn rc (p_new u)) (px + 1) (some (cTS E (px + 1) T (p_take K 27 (p_new u))))) (u.2.2.2.2.2 + 1) H := hW
          have hW : q_W E (pS E (va_up f u.2.2.2.2.2 (some (rX11 (some (E.2.2.2 u.2.1)) 0 none none none))) px bk T pn rc (p_take K 27 (p_new u))) (u.2.2.2.2.2 + 1) H := by rw [← pS_st (s := p_new u) (s' := p_take K 27 (p_new u)) rfl rfl]; exact hW
          have hok_112 : p_ok K T (p_take K 27 (p_new u)) := hok.new.take hKT (by first | assumption | decide)
          have hW : q_W E (pS E (va_up f u.2.2.2.2.2 (some (rX11 (some (E.2.2.2 u.2.1)) 0 none none none))) px bk T pn rc (p_take K 27 (p_new u))) (u.2.2.2.2.2 + 1) H := hW
          refine lv_aload_n hx hb dX8_readValue_115 rfl (lv_at hl 0 rfl) ?_
          refine lv_aload_n hx hb dX8_readValue_116 rfl (lv_at hl 1 rfl) ?_
          refine lv_iload_n hx hb dX8_readValue_117 rfl (lv_at hl 2 rfl) ?_
          refine lv_iconst (v := 1) hx hb dX8_readValue_118 (by decide) ?_
          refine lv_iadd hx hb dX8_readValue_119 ?_
          rw [ea]
          refine q_cq (va_runV (As := [.int (nI (4 - d1))]) (rest := [.ref u.2.2.2.2.2]) ⟨hx, hb, hml, hown, hts⟩ (ihV d1 hd1 (pS E (va_up f u.2.2.2.2.2 (some (rX11 (some (E.2.2.2 u.2.1)) 0 none none none))) px bk T pn rc (p_take K 27 (p_new u))) px bk T pn rc (p_take K 27 (p_new u)) kk wo pN rN K Wd ((pS_out (by omega) (by omega) (by omega)).trans (q_ne (by omega) f2)) ((pS_out (by omega) (by omega) (by omega)).trans (q_ne (by omega) f4)) ((pS_out (by omega) (by omega) (by omega)).trans (q_ne (by omega) g1)) ((pS_out (by omega) (by omega) (by omega)).trans (q_ne (by omega) g3)) (pS_K hbk) hbk (by show bk + 5 ≤ u.2.2.2.2.2 + 1; omega) hT hkk hKT hK41 hWd hpn hrc hok_112 (by omega)) (cwV 1 hts gX8_readValue_X8_readValue rfl rfl rfl (by decide +kernel) ⟨(by show (5 * d1 + 12) + 1 ≤ 5 * d + 12; omega), (by show 8 + (3 + 11) + (120 * d1 + 400) ≤ 120 * d + 400; omega)⟩) (q_pV hA hW hS (ci := 8) rfl pS_p) rfl rfl hl.1 rfl (lv_room (Nat.le_of_ble_eq_true rfl)) dX8_readValue_120 ⟨(by rw [hu_u1]; show 1 + (u1.2.2.2.2.2 - (u.2.2.2.2.2 + 1)) ≤ (p_val K Wd pN pn d u).2.2.2.2.2 - u.2.2.2.2.2; omega), (by rw [hu_u1]; show 5 + (9 * (u1.2.2.2.2.2 - (u.2.2.2.2.2 + 1))) ≤ 9 * ((p_val K Wd pN pn d u).2.2.2.2.2 - u.2.2.2.2.2); omega)⟩) hS (fun r_120 f_120 n_120 H locs hp hW hS => ?_)
          obtain ⟨g_120, rfl, rfl, rfl, fr_120, rep_120⟩ := hp
          rw [hu_u1] at hW rep_120
          rw [hu_u1]
          have fr_120 : ∀ q, q < u.2.2.2.2.2 + 1 → q ≠ px → q ≠ px + 1 → q ≠ bk → g_120 q = (pS E (va_up f u.2.2.2.2.2 (some (rX11 (some (E.2.2.2 u.2.1)) 0 none none none))) px bk T pn rc (p_take K 27 (p_new u))) q := fr_120
          have fi_120 : ∀ q, q < u.2.2.2.2.2 → q ≠ px → q ≠ px + 1 → q ≠ bk → g_120 q = f q := fun q hq h7 h8 h9 => (fr_120 q (by omega) h7 h8 h9).trans ((pS_out h7 h8 h9).trans (((va_up_ne _ _ (by omega)).trans rfl)))
          have hW : q_W E (pS E g_120 px bk T pn rc u1) (u1.2.2.2.2.2) H := hW
          refine q_putN hx hb hts hown hA hW hS iX11 tyX11 tyX11_ok nmX11 ((pS_out (by omega) (by omega) (by omega)).trans ((fr_120 _ (by omega) (by omega) (by omega) (by omega)).trans ((pS_out (by omega) (by omega) (by omega)).trans q_eq))) rfl 2 (by decide) (va_Nw.use rfl (hA.2.2.2.1 ("HighRecipes$Parser", 224, "HighRecipes$Value", "left", "LHighRecipes$Value;", "HighRecipes") (by decide +kernel))) (fun _ h9 => h9) rfl rfl rfl (Nat.le_of_ble_eq_true rfl) dX8_readValue_123 (fun H locs hW hS => ?_)
          have hW : q_W E (va_up (pS E g_120 px bk T pn rc u1) u.2.2.2.2.2 (some (rX11 (some (E.2.2.2 u.2.1)) 0 (some (u.2.2.2.2.2 + 1)) none none))) u1.2.2.2.2.2 H := hW
          rw [pS_iu (by omega) (by omega) (by omega)] at hW
          refine lv_aload_n hx hb dX8_readValue_126 rfl (lv_at hl 0 rfl) ?_
          refine lv_aload_n hx hb dX8_readValue_127 rfl (lv_at hl 1 rfl) ?_
          refine q_get hx hb hts hown hA hW iX8 pS_p rfl 0 (by decide) (hts (.fieldLink RX8 10 "HighRecipes$Parser" "tokens" "LHighRecipes$Tokens;") (by decide +kernel)) (fun _ h9 => h9) (v := .ref (px + 1)) rfl dX8_readValue_128 ?_
          refine q_getN hx hb hts hown hA hW iX10 pS_t rfl 5 (by decide) (va_Nw.use rfl (hA.2.2.2.1 ("HighRecipes$Parser", 31, "HighRecipes$Tokens", "kind", "LHighRecipes$Kind;", "HighRecipes") (by decide +kernel))) (fun _ h9 => h9) (v := .ref (E.2.2.2 (u1).2.1)) rfl dX8_readValue_131 ?_
          refine q_putN hx hb hts hown hA hW hS iX11 tyX11 tyX11_ok nmX11 ((pS_out (by omega) (by omega) (by omega)).trans q_eq) rfl 0 (by decide) (va_Nw.use rfl (hA.2.2.2.1 ("HighRecipes$Parser", 236, "HighRecipes$Value", "kind", "LHighRecipes$Kind;", "HighRecipes") (by decide +kernel))) (fun _ h9 => h9) rfl rfl rfl (Nat.le_of_ble_eq_true rfl) dX8_readValue_134 (fun H locs hW hS => ?_)
          have hW : q_W E (va_up (pS E (va_up g_120 u.2.2.2.2.2 (some (rX11 (some (E.2.2.2 u.2.1)) 0 (some (u.2.2.2.2.2 + 1)) none none))) px bk T pn rc u1) u.2.2.2.2.2 (some (rX11 (some (E.2.2.2 (u1).2.1)) 0 (some (u.2.2.2.2.2 + 1)) none none))) u1.2.2.2.2.2 H := hW
          rw [pS_iu (by omega) (by omega) (by omega)] at hW
          rw [q_upup] at hW
          refine lv_aload_n hx hb dX8_readValue_137 rfl (lv_at hl 1 rfl) ?_
          refine q_get hx hb hts hown hA hW iX8 pS_p rfl 0 (by decide) (hts (.fieldLink RX8 10 "HighRecipes$Parser" "tokens" "LHighRecipes$Tokens;") (by decide +kernel)) (fun _ h9 => h9) (v := .ref (px + 1)) rfl dX8_readValue_138 ?_
          refine lv_aload_n hx hb dX8_readValue_141 rfl (lv_at hl 1 rfl) ?_
          refine q_get hx hb hts hown hA hW iX8 pS_p rfl 0 (by decide) (hts (.fieldLink RX8 10 "HighRecipes$Parser" "tokens" "LHighRecipes$Tokens;") (by decide +kernel)) (fun _ h9 => h9) (v := .ref (px + 1)) rfl dX8_readValue_142 ?_
          refine q_getN hx hb hts hown hA hW iX10 pS_t rfl 5 (by decide) (va_Nw.use rfl (hA.2.2.2.1 ("HighRecipes$Parser", 31, "HighRecipes$Tokens", "kind", "LHighRecipes$Kind;", "HighRecipes") (by decide +kernel))) (fun _ h9 => h9) (v := .ref (E.2.2.2 (u1).2.1)) rfl dX8_readValue_145 ?_
          refine q_ci (va_runV (As := []) (rest := [.ref (px + 1)]) ⟨hx, hb, hml, hown, hts⟩ (kX5_isValueSign l E (pS E (va_up g_120 u.2.2.2.2.2 (some (rX11 (some (E.2.2.2 (u1).2.1)) 0 (some (u.2.2.2.2.2 + 1)) none none))) px bk T pn rc u1) u1.2.2.2.2.2 ((u1).2.1) hk1) (cwV 0 hts gX8_readValue_X5_isValueSign rfl rfl rfl (by decide +kernel) ⟨(by show 0 + 1 ≤ 5 * d + 12; omega), (by show 8 + (1 + 11) + 0 ≤ 120 * d + 400; omega)⟩) (q_pK hA hW hS hk1) rfl rfl hl.1 rfl (lv_room (Nat.le_of_ble_eq_true rfl)) dX8_readValue_148 ⟨(by show 1 + (u1.2.2.2.2.2 - (u.2.2.2.2.2 + 1)) + 0 ≤ (p_val K Wd pN pn d u).2.2.2.2.2 - u.2.2.2.2.2; omega), (by show 5 + (9 * (u1.2.2.2.2.2 - (u.2.2.2.2.2 + 1))) + 0 ≤ 9 * ((p_val K Wd pN pn d u).2.2.2.2.2 - u.2.2.2.2.2); omega)⟩) hS (fun r_148 f_148 n_148 H locs hp hW hS => ?_)
          obtain ⟨rfl, rfl, rfl⟩ := hp
          have hW : q_W E (pS E (va_up g_120 u.2.2.2.2.2 (some (rX11 (some (E.2.2.2 (u1).2.1)) 0 (some (u.2.2.2.2.2 + 1)) none none))) px bk T pn rc u1) u1.2.2.2.2.2 H := hW
          refine q_cv (va_runV (As := [.int (b01 (b_vsign ((u1).2.1)))]) (rest := []) ⟨hx, hb, hml, hown, hts⟩ (kX10_step l E (pS E (va_up g_120 u.2.2.2.2.2 (some (rX11 (some (E.2.2.2 (u1).2.1)) 0 (some (u.2.2.2.2.2 + 1)) none none))) px bk T pn rc u1) u1.2.2.2.2.2 (px + 1) T u1 kk K (b_vsign u1.2.1) pS_t ((pS_out (by omega) (by omega) (by omega)).trans (q_ne (by omega) ((fr_120 _ (by omega) (by omega) (by omega) (by omega)).trans ((pS_out (by omega) (by omega) (by omega)).trans (q_ne (by omega) f2))))) (by assumption) (by assumption) (ok1.step hKT (fun h9 => (b_vsign_lt h9).1)).2) (cwV 1 hts gX8_readValue_X10_step rfl rfl rfl (by decide +kernel) ⟨(by show 0 + 1 ≤ 5 * d + 12; omega), (by show 8 + (3 + 11) + 0 ≤ 120 * d + 400; omega)⟩) (q_pV hA hW hS (ci := 10) rfl pS_t) rfl rfl hl.1 rfl (lv_room (Nat.le_of_ble_eq_true rfl)) dX8_readValue_151 ⟨(by show 1 + (u1.2.2.2.2.2 - (u.2.2.2.2.2 + 1)) + 0 ≤ (p_val K Wd pN pn d u).2.2.2.2.2 - u.2.2.2.2.2; omega), (by show 5 + (9 * (u1.2.2.2.2.2 - (u.2.2.2.2.2 + 1))) + 0 ≤ 9 * ((p_val K Wd pN pn d u).2.2.2.2.2 - u.2.2.2.2.2); omega)⟩) hS (fun f_151 n_151 H locs hp hW hS => ?_)
          obtain ⟨rfl, rfl⟩ := hp
          have hW : q_W E (va_up (pS E (va_up g_120 u.2.2.2.2.2 (some (rX11 (some (E.2.2.2 (u1).2.1)) 0 (some (u.2.2.2.2.2 + 1)) none none))) px bk T pn rc u1) (px + 1) (some (cTS E (px + 1) T (p_step K (b_vsign u1.2.1) u1)))) u1.2.2.2.2.2 H := hW
          have hW : q_W E (pS E (va_up g_120 u.2.2.2.2.2 (some (rX11 (some (E.2.2.2 (u1).2.1)) 0 (some (u.2.2.2.2.2 + 1)) none none))) px bk T pn rc (p_step K (b_vsign u1.2.1) u1)) u1.2.2.2.2.2 H := by rw [← pS_st (s := u1) (s' := p_step K (b_vsign u1.2.1) u1) rfl rfl]; exact hW
          have hW : q_W E (pS E (va_up g_120 u.2.2.2.2.2 (some (rX11 (some (E.2.2.2 (u1).2.1)) 0 (some (u.2.2.2.2.2 + 1)) none none))) px bk T pn rc (p_step K (b_vsign u1.2.1) u1)) u1.2.2.2.2.2 H := hW
          refine lv_aload_n hx hb dX8_readValue_154 rfl (lv_at hl 0 rfl) ?_
          refine lv_aload_n hx hb dX8_readValue_155 rfl (lv_at hl 1 rfl) ?_
          refine lv_iload_n hx hb dX8_readValue_156 rfl (lv_at hl 2 rfl) ?_
          refine lv_iconst (v := 1) hx hb dX8_readValue_157 (by decide) ?_
          refine lv_iadd hx hb dX8_readValue_158 ?_
          rw [ea]
          refine q_cq (va_runV (As := [.int (nI (4 - d1))]) (rest := [.ref u.2.2.2.2.2]) ⟨hx, hb, hml, hown, hts⟩ (ihV d1 hd1 (pS E (va_up g_120 u.2.2.2.2.2 (some (rX11 (some (E.2.2.2 (u1).2.1)) 0 (some (u.2.2.2.2.2 + 1)) none none))) px bk T pn rc (p_mid K u1)) px bk T pn rc (p_mid K u1) kk wo pN rN K Wd ((pS_out (by omega) (by omega) (by omega)).trans (q_ne (by omega) ((fr_120 _ (by omega) (by omega) (by omega) (by omega)).trans ((pS_out (by omega) (by omega) (by omega)).trans (q_ne (by omega) f2))))) ((pS_out (by omega) (by omega) (by omega)).trans (q_ne (by omega) ((fr_120 _ (by omega) (by omega) (by omega) (by omega)).trans ((pS_out (by omega) (by omega) (by omega)).trans (q_ne (by omega) f4))))) ((pS_out (by omega) (by omega) (by omega)).trans (q_ne (by omega) ((fr_120 _ (by omega) (by omega) (by omega) (by omega)).trans ((pS_out (by omega) (by omega) (by omega)).trans (q_ne (by omega) g1))))) ((pS_out (by omega) (by omega) (by omega)).trans (q_ne (by omega) ((fr_120 _ (by omega) (by omega) (by omega) (by omega)).trans ((pS_out (by omega) (by omega) (by omega)).trans (q_ne (by omega) g3))))) (pS_K hbk) hbk (by show bk + 5 ≤ u1.2.2.2.2.2; omega) hT hkk hKT hK41 hWd hpn hrc okm (by omega)) (cwV 1 hts gX8_readValue_X8_readValue rfl rfl rfl (by decide +kernel) ⟨(by show (5 * d1 + 12) + 1 ≤ 5 * d + 12; omega), (by show 8 + (3 + 11) + (120 * d1 + 400) ≤ 120 * d + 400; omega)⟩) (q_pV hA hW hS (ci := 8) rfl pS_p) rfl rfl hl.1 rfl (lv_room (Nat.le_of_ble_eq_true rfl)) dX8_readValue_159 ⟨(by rw [hu_u2]; show 1 + (u1.2.2.2.2.2 - (u.2.2.2.2.2 + 1)) + (u2.2.2.2.2.2 - (u1.2.2.2.2.2)) ≤ (p_val K Wd pN pn d u).2.2.2.2.2 - u.2.2.2.2.2; omega), (by rw [hu_u2]; show 5 + (9 * (u1.2.2.2.2.2 - (u.2.2.2.2.2 + 1))) + (9 * (u2.2.2.2.2.2 - (u1.2.2.2.2.2))) ≤ 9 * ((p_val K Wd pN pn d u).2.2.2.2.2 - u.2.2.2.2.2); omega)⟩) hS (fun r_159 f_159 n_159 H locs hp hW hS => ?_)
          obtain ⟨g_159, rfl, rfl, rfl, fr_159, rep_159⟩ := hp
          rw [hu_u2] at hW rep_159
          rw [hu_u2]
          have fr_159 : ∀ q, q < u1.2.2.2.2.2 → q ≠ px → q ≠ px + 1 → q ≠ bk → g_159 q = (pS E (va_up g_120 u.2.2.2.2.2 (some (rX11 (some (E.2.2.2 (u1).2.1)) 0 (some (u.2.2.2.2.2 + 1)) none none))) px bk T pn rc (p_mid K u1)) q := fr_159
          have fi_159 : ∀ q, q < u.2.2.2.2.2 → q ≠ px → q ≠ px + 1 → q ≠ bk → g_159 q = f q := fun q hq h7 h8 h9 => (fr_159 q (by omega) h7 h8 h9).trans ((pS_out h7 h8 h9).trans (((va_up_ne _ _ (by omega)).trans (fi_120 q hq h7 h8 h9))))
          have hW : q_W E (pS E g_159 px bk T pn rc u2) (u2.2.2.2.2.2) H := hW
          refine q_putN hx hb hts hown hA hW hS iX11 tyX11 tyX11_ok nmX11 ((pS_out (by omega) (by omega) (by omega)).trans ((fr_159 _ (by omega) (by omega) (by omega) (by omega)).trans ((pS_out (by omega) (by omega) (by omega)).trans q_eq))) rfl 3 (by decide) (va_Nw.use rfl (hA.2.2.2.1 ("HighRecipes$Parser", 227, "HighRecipes$Value", "right", "LHighRecipes$Value;", "HighRecipes") (by decide +kernel))) (fun _ h9 => h9) rfl rfl rfl (Nat.le_of_ble_eq_true rfl) dX8_readValue_162 (fun H locs hW hS => ?_)
          have hW : q_W E (va_up (pS E g_159 px bk T pn rc u2) u.2.2.2.2.2 (some (rX11 (some (E.2.2.2 (u1).2.1)) 0 (some (u.2.2.2.2.2 + 1)) (some u1.2.2.2.2.2) none))) u2.2.2.2.2.2 H := hW
          rw [pS_iu (by omega) (by omega) (by omega)] at hW
          refine lv_aload_n hx hb dX8_readValue_165 rfl (lv_at hl 1 rfl) ?_
          refine q_get hx hb hts hown hA hW iX8 pS_p rfl 0 (by decide) (hts (.fieldLink RX8 10 "HighRecipes$Parser" "tokens" "LHighRecipes$Tokens;") (by decide +kernel)) (fun _ h9 => h9) (v := .ref (px + 1)) rfl dX8_readValue_166 ?_
          refine va_gets (n := "CLOSE") (v := .ref (E.2.2.2 28)) hx hb (hA.2.2.1.1.1 28 (by decide)).1 hS hown (hts (.fieldLink RX8 140 "HighRecipes$Kind" "CLOSE" "LHighRecipes$Kind;") (by decide +kernel)) (fun _ h9 => h9) dX8_readValue_169 ?_
          refine q_cv (va_runV (As := [.ref (E.2.2.2 28)]) (rest := []) ⟨hx, hb, hml, hown, hts⟩ (kX10_take l E (pS E (va_up g_159 u.2.2.2.2.2 (some (rX11 (some (E.2.2.2 (u1).2.1)) 0 (some (u.2.2.2.2.2 + 1)) (some u1.2.2.2.2.2) none))) px bk T pn rc u2) u2.2.2.2.2.2 (px + 1) T u2 kk K 28 pS_t ((pS_out (by omega) (by omega) (by omega)).trans (q_ne (by omega) ((fr_159 _ (by omega) (by omega) (by omega) (by omega)).trans ((pS_out (by omega) (by omega) (by omega)).trans (q_ne (by omega) ((fr_120 _ (by omega) (by omega) (by omega) (by omega)).trans ((pS_out (by omega) (by omega) (by omega)).trans (q_ne (by omega) f2)))))))) (by assumption) (by assumption) (by assumption) (by assumption) ok2 (by first | assumption | decide)) (cwV 1 hts gX8_readValue_X10_take rfl rfl rfl (by decide +kernel) ⟨(by show 1 + 1 ≤ 5 * d + 12; omega), (by show 8 + (2 + 11) + 22 ≤ 120 * d + 400; omega)⟩) (q_pV hA hW hS (ci := 10) rfl pS_t) rfl rfl hl.1 rfl (lv_room (Nat.le_of_ble_eq_true rfl)) dX8_readValue_172 ⟨(by show 1 + (u1.2.2.2.2.2 - (u.2.2.2.2.2 + 1)) + (u2.2.2.2.2.2 - (u1.2.2.2.2.2)) + 0 ≤ (p_val K Wd pN pn d u).2.2.2.2.2 - u.2.2.2.2.2; omega), (by show 5 + (9 * (u1.2.2.2.2.2 - (u.2.2.2.2.2 + 1))) + (9 * (u2.2.2.2.2.2 - (u1.2.2.2.2.2))) + 0 ≤ 9 * ((p_val K Wd pN pn d u).2.2.2.2.2 - u.2.2.2.2.2); omega)⟩) hS (fun f_172 n_172 H locs hp hW hS => ?_)
          obtain ⟨rfl, rfl⟩ := hp
          have hW : q_W E (va_up (pS E (va_up g_159 u.2.2.2.2.2 (some (rX11 (some (E.2.2.2 (u1).2.1)) 0 (some (u.2.2.2.2.2 + 1)) (some u1.2.2.2.2.2) none))) px bk T pn rc u2) (px + 1) (some (cTS E (px + 1) T (p_take K 28 u2)))) u2.2.2.2.2.2 H := hW
          have hW : q_W E (pS E (va_up g_159 u.2.2.2.2.2 (some (rX11 (some (E.2.2.2 (u1).2.1)) 0 (some (u.2.2.2.2.2 + 1)) (some u1.2.2.2.2.2) none))) px bk T pn rc (p_take K 28 u2)) u2.2.2.2.2.2 H := by rw [← pS_st (s := u2) (s' := p_take K 28 u2) rfl rfl]; exact hW
          have hok_172 : p_ok K T (p_take K 28 u2) := ok2.take hKT (by first | assumption | decide)
          have hW : q_W E (pS E (va_up g_159 u.2.2.2.2.2 (some (rX11 (some (E.2.2.2 (u1).2.1)) 0 (some (u.2.2.2.2.2 + 1)) (some u1.2.2.2.2.2) none))) px bk T pn rc (p_take K 28 u2)) u2.2.2.2.2.2 H := hW
          refine lv_goto (tgt := 192) hx hb dX8_readValue_175 (by decide) ?_
          refine lv_aload_n hx hb dX8_readValue_192 rfl (lv_at hl 0 rfl) ?_
          have rep : (p_take K 28 u2).2.1 ≠ 40 → (p_take K 28 u2).2.2.1 = 0 → rV E pn u.2.2.2.2.2 (p_take K 28 u2).2.2.2.2.2 (va_up g_159 u.2.2.2.2.2 (some (rX11 (some (E.2.2.2 (u1).2.1)) 0 (some (u.2.2.2.2.2 + 1)) (some u1.2.2.2.2.2) none))) (d + 1) u.2.2.2.2.2 (fun hd v => d_bin u1.2.1 (p_valD K Wd pN pn d1 (p_take K 27 (p_new u)) hd v) (p_valD K Wd pN pn d1 (p_mid K u1) hd v)) := by
            intro k1 k2
            have le2 := (go_take (s := u2) (w := 28) hKT (by decide) ok2).2
            have k1a := le2.2.2.1 k1
            have k2a := le2.2.2.2 k2
            have R2 := rep_159 k1a k2a
            have k1b := v2.2.1.2.2.1 k1a
            have lm := (go_mid hKT ok1).2
            have R1 := rep_120 (lm.2.2.1 k1b) (lm.2.2.2 (v2.2.1.2.2.2 k2a))
            have hm : b_vsign u1.2.1 = true := by cases hb9 : b_vsign u1.2.1 with | true => rfl | false => exact absurd (by show (p_step K (b_vsign u1.2.1) u1).2.1 = 40; rw [hb9]; rfl) k1b
            rw [hd1]
            refine ⟨Nat.le_refl _, (by show u.2.2.2.2.2 < u2.2.2.2.2.2; omega), u1.2.1, 0, some (u.2.2.2.2.2 + 1), some u1.2.2.2.2.2, none, q_eq, Or.inr (Or.inr (Or.inr ⟨(b_vsign_lt hm).2.1, (b_vsign_lt hm).2.2, u.2.2.2.2.2 + 1, u1.2.2.2.2.2, _, _, rfl, rfl, rV_frame ?_ (Nat.le_succ _) (by show u1.2.2.2.2.2 ≤ u2.2.2.2.2.2; omega) _ _ _ R1, rV_frame ?_ (by show u.2.2.2.2.2 ≤ u1.2.2.2.2.2; omega) (Nat.le_refl _) _ _ _ R2, rfl⟩))⟩
            · intro q hq1 hq2
              have hq1 : u.2.2.2.2.2 + 1 ≤ q := hq1
              have hq2 : q < u1.2.2.2.2.2 := hq2
              exact (va_up_ne _ _ (by omega)).trans ((fr_159 q (by omega) (by omega) (by omega) (by omega)).trans ((pS_out (by omega) (by omega) (by omega)).trans (va_up_ne _ _ (by omega))))
            · intro q hq1 hq2
              have hq1 : u1.2.2.2.2.2 ≤ q := hq1
              exact va_up_ne _ _ (by omega)
          exact q_aret (v := some u.2.2.2.2.2) hx hb hr (Or.inl ⟨_, rfl⟩) hlocks hW hS ⟨_, rfl, congrArg (fun z => pS E _ px bk T pn rc z) eV, (by rw [eV]; try rfl), fun q hq h7 h8 h9 => ((va_up_ne _ _ (by omega)).trans (fi_159 q hq h7 h8 h9)), fun k1 k2 => by rw [eD]; rw [eV] at k1 k2 ⊢; exact rep k1 k2⟩ (by show 1 + (u1.2.2.2.2.2 - (u.2.2.2.2.2 + 1)) + (u2.2.2.2.2.2 - (u1.2.2.2.2.2)) ≤ (p_val K Wd pN pn d u).2.2.2.2.2 - u.2.2.2.2.2; omega) (by show 5 + (9 * (u1.2.2.2.2.2 - (u.2.2.2.2.2 + 1))) + (9 * (u2.2.2.2.2.2 - (u1.2.2.2.2.2))) ≤ 9 * ((p_val K Wd pN pn d u).2.2.2.2.2 - u.2.2.2.2.2); omega) dX8_readValue_193
    · have e57 := b01_1 c_57
      have eV : p_val K Wd pN pn d u = p_known K Wd pN pn (p_take K 24 (p_step K true (p_new u))) := by cases d with | zero => unfold p_val p_val1; rw [if_neg e22, if_pos e57] | succ d0 => unfold p_val p_val1; rw [if_neg e22, if_pos e57]
      have eD : p_valD K Wd pN pn d u = d_cont u.2.1 (ix pN pn (Wd (p_take K 24 (p_step K true (p_new u))).1)).toNatClampNeg := by cases d with | zero => unfold p_valD p_valD1; rw [if_neg e22, if_pos e57] | succ d0 => unfold p_valD p_valD1; rw [if_neg e22, if_pos e57]
      refine lv_aload_n hx hb dX8_readValue_60 rfl (lv_at hl 1 rfl) ?_
      refine q_get hx hb hts hown hA hW iX8 pS_p rfl 0 (by decide) (hts (.fieldLink RX8 10 "HighRecipes$Parser" "tokens" "LHighRecipes$Tokens;") (by decide +kernel)) (fun _ h9 => h9) (v := .ref (px + 1)) rfl dX8_readValue_61 ?_
      refine lv_iconst (v := 1) hx hb dX8_readValue_64 (by decide) ?_
      refine q_cv (va_runV (As := [.int 1]) (rest := []) ⟨hx, hb, hml, hown, hts⟩ (kX10_step l E (pS E (va_up f u.2.2.2.2.2 (some (rX11 (some (E.2.2.2 u.2.1)) 0 none none none))) px bk T pn rc (p_new u)) (u.2.2.2.2.2 + 1) (px + 1) T (p_new u) kk K true pS_t ((pS_out (by omega) (by omega) (by omega)).trans (q_ne (by omega) f2)) (by assumption) (by assumption) (hok.step hKT (r := true) (fun _ => (b_cont_lt e57).1)).2) (cwV 1 hts gX8_readValue_X10_step rfl rfl rfl (by decide +kernel) ⟨(by show 0 + 1 ≤ 5 * d + 12; omega), (by show 8 + (3 + 11) + 0 ≤ 120 * d + 400; omega)⟩) (q_pV hA hW hS (ci := 10) rfl pS_t) rfl rfl hl.1 rfl (lv_room (Nat.le_of_ble_eq_true rfl)) dX8_readValue_65 ⟨(by show 1 + 0 ≤ (p_val K Wd pN pn d u).2.2.2.2.2 - u.2.2.2.2.2; omega), (by show 5 + 0 ≤ 9 * ((p_val K Wd pN pn d u).2.2.2.2.2 - u.2.2.2.2.2); omega)⟩) hS (fun f_65 n_65 H locs hp hW hS => ?_)
      obtain ⟨rfl, rfl⟩ := hp
      have hW : q_W E (va_up (pS E (va_up f u.2.2.2.2.2 (some (rX11 (some (E.2.2.2 u.2.1)) 0 none none none))) px bk T pn rc (p_new u)) (px + 1) (some (cTS E (px + 1) T (p_step K true (p_new u))))) (u.2.2.2.2.2 + 1) H := hW
      have hW : q_W E (pS E (va_up f u.2.2.2.2.2 (some (rX11 (some (E.2.2.2 u.2.1)) 0 none none none))) px bk T pn rc (p_step K true (p_new u))) (u.2.2.2.2.2 + 1) H := by rw [← pS_st (s := p_new u) (s' := p_step K true (p_new u)) rfl rfl]; exact hW
      have hW : q_W E (pS E (va_up f u.2.2.2.2.2 (some (rX11 (some (E.2.2.2 u.2.1)) 0 none none none))) px bk T pn rc (p_step K true (p_new u))) (u.2.2.2.2.2 + 1) H := hW
      have ok65 : p_ok K T (p_step K true (p_new u)) := (go_step hKT (fun _ => (b_cont_lt e57).1) hok.new).1
      refine lv_aload_n hx hb dX8_readValue_68 rfl (lv_at hl 1 rfl) ?_
      refine q_get hx hb hts hown hA hW iX8 pS_p rfl 0 (by decide) (hts (.fieldLink RX8 10 "HighRecipes$Parser" "tokens" "LHighRecipes$Tokens;") (by decide +kernel)) (fun _ h9 => h9) (v := .ref (px + 1)) rfl dX8_readValue_69 ?_
      refine va_gets (n := "OF") (v := .ref (E.2.2.2 24)) hx hb (hA.2.2.1.1.1 24 (by decide)).1 hS hown (hts (.fieldLink RX8 243 "HighRecipes$Kind" "OF" "LHighRecipes$Kind;") (by decide +kernel)) (fun _ h9 => h9) dX8_readValue_72 ?_
      refine q_cv (va_runV (As := [.ref (E.2.2.2 24)]) (rest := []) ⟨hx, hb, hml, hown, hts⟩ (kX10_take l E (pS E (va_up f u.2.2.2.2.2 (some (rX11 (some (E.2.2.2 u.2.1)) 0 none none none))) px bk T pn rc (p_step K true (p_new u))) (u.2.2.2.2.2 + 1) (px + 1) T (p_step K true (p_new u)) kk K 24 pS_t ((pS_out (by omega) (by omega) (by omega)).trans (q_ne (by omega) f2)) (by assumption) (by assumption) (by assumption) (by assumption) ok65 (by first | assumption | decide)) (cwV 1 hts gX8_readValue_X10_take rfl rfl rfl (by decide +kernel) ⟨(by show 1 + 1 ≤ 5 * d + 12; omega), (by show 8 + (2 + 11) + 22 ≤ 120 * d + 400; omega)⟩) (q_pV hA hW hS (ci := 10) rfl pS_t) rfl rfl hl.1 rfl (lv_room (Nat.le_of_ble_eq_true rfl)) dX8_readValue_75 ⟨(by show 1 + 0 ≤ (p_val K Wd pN pn d u).2.2.2.2.2 - u.2.2.2.2.2; omega), (by show 5 + 0 ≤ 9 * ((p_val K Wd pN pn d u).2.2.2.2.2 - u.2.2.2.2.2); omega)⟩) hS (fun f_75 n_75 H locs hp hW hS => ?_)
      obtain ⟨rfl, rfl⟩ := hp
      have hW : q_W E (va_up (pS E (va_up f u.2.2.2.2.2 (some (rX11 (some (E.2.2.2 u.2.1)) 0 none none none))) px bk T pn rc (p_step K true (p_new u))) (px + 1) (some (cTS E (px + 1) T (p_take K 24 (p_step K true (p_new u)))))) (u.2.2.2.2.2 + 1) H := hW
      have hW : q_W E (pS E (va_up f u.2.2.2.2.2 (some (rX11 (some (E.2.2.2 u.2.1)) 0 none none none))) px bk T pn rc (p_take K 24 (p_step K true (p_new u)))) (u.2.2.2.2.2 + 1) H := by rw [← pS_st (s := p_step K true (p_new u)) (s' := p_take K 24 (p_step K true (p_new u))) rfl rfl]; exact hW
      have hok_75 : p_ok K T (p_take K 24 (p_step K true (p_new u))) := ok65.take hKT (by first | assumption | decide)
      have hW : q_W E (pS E (va_up f u.2.2.2.2.2 (some (rX11 (some (E.2.2.2 u.2.1)) 0 none none none))) px bk T pn rc (p_take K 24 (p_step K true (p_new u)))) (u.2.2.2.2.2 + 1) H := hW
      refine lv_aload_n hx hb dX8_readValue_78 rfl (lv_at hl 0 rfl) ?_
      refine lv_aload_n hx hb dX8_readValue_79 rfl (lv_at hl 1 rfl) ?_
      refine lv_iconst (v := 0) hx hb dX8_readValue_80 (by decide) ?_
      refine q_ci (va_runV (As := [.int 0]) (rest := [.ref u.2.2.2.2.2]) ⟨hx, hb, hml, hown, hts⟩ (kX8_known0 l E (pS E (va_up f u.2.2.2.2.2 (some (rX11 (some (E.2.2.2 u.2.1)) 0 none none none))) px bk T pn rc (p_take K 24 (p_step K true (p_new u)))) (u.2.2.2.2.2 + 1) px bk T pn rc (p_take K 24 (p_step K true (p_new u))) kk wo pN rN K Wd ((pS_out (by omega) (by omega) (by omega)).trans (q_ne (by omega) f2)) ((pS_out (by omega) (by omega) (by omega)).trans (q_ne (by omega) f4)) ((pS_out (by omega) (by omega) (by omega)).trans (q_ne (by omega) g1)) ((pS_out (by omega) (by omega) (by omega)).trans (q_ne (by omega) g3)) (pS_K hbk) (by assumption) (by omega) (by assumption) (by assumption) (by assumption) (by assumption) (by assumption) (by assumption) (by assumption) hok_75) (cwV 1 hts gX8_readValue_X8_readKnownName rfl rfl rfl (by decide +kernel) ⟨(by show 1 + 1 ≤ 5 * d + 12; omega), (by show 8 + (3 + 11) + 24 ≤ 120 * d + 400; omega)⟩) (q_pV hA hW hS (ci := 8) rfl pS_p) rfl rfl hl.1 rfl (lv_room (Nat.le_of_ble_eq_true rfl)) dX8_readValue_81 ⟨(by show 1 + 0 ≤ (p_val K Wd pN pn d u).2.2.2.2.2 - u.2.2.2.2.2; omega), (by show 5 + 0 ≤ 9 * ((p_val K Wd pN pn d u).2.2.2.2.2 - u.2.2.2.2.2); omega)⟩) hS (fun r_81 f_81 n_81 H locs hp hW hS => ?_)
      obtain ⟨rfl, rfl, rfl⟩ := hp
      rw [pS_pS] at hW
      have hok_81 : p_ok K T (p_known K Wd pN pn (p_take K 24 (p_step K true (p_new u)))) := hok_75.known hKT
      have hW : q_W E (pS E (va_up f u.2.2.2.2.2 (some (rX11 (some (E.2.2.2 u.2.1)) 0 none none none))) px bk T pn rc (p_known K Wd pN pn (p_take K 24 (p_step K true (p_new u))))) (u.2.2.2.2.2 + 1) H := hW
      refine q_putN hx hb hts hown hA hW hS iX11 tyX11 tyX11_ok nmX11 ((pS_out (by omega) (by omega) (by omega)).trans q_eq) rfl 1 (by decide) (va_Nw.use rfl (hA.2.2.2.1 ("HighRecipes$Parser", 237, "HighRecipes$Value", "number", "I", "HighRecipes") (by decide +kernel))) (fun _ h9 => h9) rfl rfl rfl (Nat.le_of_ble_eq_true rfl) dX8_readValue_84 (fun H locs hW hS => ?_)
      have hW : q_W E (va_up (pS E (va_up f u.2.2.2.2.2 (some (rX11 (some (E.2.2.2 u.2.1)) 0 none none none))) px bk T pn rc (p_known K Wd pN pn (p_take K 24 (p_step K true (p_new u))))) u.2.2.2.2.2 (some (rX11 (some (E.2.2.2 u.2.1)) (ix pN pn (Wd (p_take K 24 (p_step K true (p_new u))).1)) none none none))) (u.2.2.2.2.2 + 1) H := hW
      rw [pS_iu (by omega) (by omega) (by omega)] at hW
      rw [q_upup] at hW
      refine lv_goto (tgt := 192) hx hb dX8_readValue_87 (by decide) ?_
      refine lv_aload_n hx hb dX8_readValue_192 rfl (lv_at hl 0 rfl) ?_
      have rep : (p_known K Wd pN pn (p_take K 24 (p_step K true (p_new u)))).2.1 ≠ 40 → (p_known K Wd pN pn (p_take K 24 (p_step K true (p_new u)))).2.2.1 = 0 → rV E pn u.2.2.2.2.2 (p_known K Wd pN pn (p_take K 24 (p_step K true (p_new u)))).2.2.2.2.2 (va_up f u.2.2.2.2.2 (some (rX11 (some (E.2.2.2 u.2.1)) (ix pN pn (Wd (p_take K 24 (p_step K true (p_new u))).1)) none none none))) (d + 1) u.2.2.2.2.2 (d_cont u.2.1 (ix pN pn (Wd (p_take K 24 (p_step K true (p_new u))).1)).toNatClampNeg) := by
        intro k1 k2
        obtain ⟨-, i, hi, hix⟩ := known_ok hpn k1 k2
        rw [hix, nI_clamp (by omega)]
        exact ⟨Nat.le_refl _, Nat.lt_succ_self _, u.2.1, _, none, none, none, q_eq, Or.inr (Or.inr (Or.inl ⟨(b_cont_lt e57).2, i, hi, rfl, rfl⟩))⟩
      exact q_aret (v := some u.2.2.2.2.2) hx hb hr (Or.inl ⟨_, rfl⟩) hlocks hW hS ⟨_, rfl, congrArg (fun z => pS E _ px bk T pn rc z) eV, (by rw [eV]; try rfl), fun q hq h7 h8 h9 => ((va_up_ne _ _ (by omega)).trans rfl), fun k1 k2 => by rw [eD]; rw [eV] at k1 k2 ⊢; exact rep k1 k2⟩ (by show 1 ≤ (p_val K Wd pN pn d u).2.2.2.2.2 - u.2.2.2.2.2; omega) (by show 5 ≤ 9 * ((p_val K Wd pN pn d u).2.2.2.2.2 - u.2.2.2.2.2); omega) dX8_readValue_193
  · have e22 : u.2.1 = 38 := q_kinj hA hk41 (by decide) c_22
    have eV : p_val K Wd pN pn d u = p_take K 38 (p_new u) := by cases d with | zero => unfold p_val p_val1; rw [if_pos e22] | succ d0 => unfold p_val p_val1; rw [if_pos e22]
    have eD : p_valD K Wd pN pn d u = fun _ _ => (Wd u.1).toInt32 := by cases d with | zero => unfold p_valD p_valD1; rw [if_pos e22] | succ d0 => unfold p_valD p_valD1; rw [if_pos e22]
    refine lv_aload_n hx hb dX8_readValue_25 rfl (lv_at hl 0 rfl) ?_
    refine lv_aload_n hx hb dX8_readValue_26 rfl (lv_at hl 1 rfl) ?_
    refine q_get hx hb hts hown hA hW iX8 pS_p rfl 0 (by decide) (hts (.fieldLink RX8 10 "HighRecipes$Parser" "tokens" "LHighRecipes$Tokens;") (by decide +kernel)) (fun _ h9 => h9) (v := .ref (px + 1)) rfl dX8_readValue_27 ?_
    refine q_cl (va_runV (As := []) (rest := [.ref u.2.2.2.2.2]) ⟨hx, hb, hml, hown, hts⟩ (kX10_worth l E (pS E (va_up f u.2.2.2.2.2 (some (rX11 (some (E.2.2.2 u.2.1)) 0 none none none))) px bk T pn rc (p_new u)) (u.2.2.2.2.2 + 1) (px + 1) wo (nI (T + 1)) ((p_new u).1) ((p_new u).2.1) pS_t ((pS_out (by omega) (by omega) (by omega)).trans (q_ne (by omega) f4)) (by have := hok.1; show u.1 < 401; omega)) (cwV 0 hts gX8_readValue_X10_worth rfl rfl rfl (by decide +kernel) ⟨(by show 0 + 1 ≤ 5 * d + 12; omega), (by show 8 + (1 + 11) + 0 ≤ 120 * d + 400; omega)⟩) (q_pV hA hW hS (ci := 10) rfl pS_t) rfl rfl hl.1 rfl (lv_room (Nat.le_of_ble_eq_true rfl)) dX8_readValue_30 ⟨(by show 1 + 0 ≤ (p_val K Wd pN pn d u).2.2.2.2.2 - u.2.2.2.2.2; omega), (by show 5 + 0 ≤ 9 * ((p_val K Wd pN pn d u).2.2.2.2.2 - u.2.2.2.2.2); omega)⟩) hS (fun r_30 f_30 n_30 H locs hp hW hS => ?_)
    obtain ⟨rfl, rfl, rfl⟩ := hp
    have hW : q_W E (pS E (va_up f u.2.2.2.2.2 (some (rX11 (some (E.2.2.2 u.2.1)) 0 none none none))) px bk T pn rc (p_new u)) (u.2.2.2.2.2 + 1) H := hW
    rw [show wo (p_new u).1 = Wd u.1 from hWd _ hok.1]
    refine lv_l2i hx hb dX8_readValue_33 rfl ?_
    refine q_putN hx hb hts hown hA hW hS iX11 tyX11 tyX11_ok nmX11 ((pS_out (by omega) (by omega) (by omega)).trans q_eq) rfl 1 (by decide) (va_Nw.use rfl (hA.2.2.2.1 ("HighRecipes$Parser", 237, "HighRecipes$Value", "number", "I", "HighRecipes") (by decide +kernel))) (fun _ h9 => h9) rfl rfl rfl (Nat.le_of_ble_eq_true rfl) dX8_readValue_34 (fun H locs hW hS => ?_)
    have hW : q_W E (va_up (pS E (va_up f u.2.2.2.2.2 (some (rX11 (some (E.2.2.2 u.2.1)) 0 none none none))) px bk T pn rc (p_new u)) u.2.2.2.2.2 (some (rX11 (some (E.2.2.2 u.2.1)) ((Wd u.1).toInt32) none none none))) (u.2.2.2.2.2 + 1) H := hW
    rw [pS_iu (by omega) (by omega) (by omega)] at hW
    rw [q_upup] at hW
    refine lv_aload_n hx hb dX8_readValue_37 rfl (lv_at hl 1 rfl) ?_
    refine q_get hx hb hts hown hA hW iX8 pS_p rfl 0 (by decide) (hts (.fieldLink RX8 10 "HighRecipes$Parser" "tokens" "LHighRecipes$Tokens;") (by decide +kernel)) (fun _ h9 => h9) (v := .ref (px + 1)) rfl dX8_readValue_38 ?_
    refine va_gets (n := "NUMBER") (v := .ref (E.2.2.2 38)) hx hb (hA.2.2.1.1.1 38 (by decide)).1 hS hown (hts (.fieldLink RX8 88 "HighRecipes$Kind" "NUMBER" "LHighRecipes$Kind;") (by decide +kernel)) (fun _ h9 => h9) dX8_readValue_41 ?_
    refine q_cv (va_runV (As := [.ref (E.2.2.2 38)]) (rest := []) ⟨hx, hb, hml, hown, hts⟩ (kX10_take l E (pS E (va_up f u.2.2.2.2.2 (some (rX11 (some (E.2.2.2 u.2.1)) ((Wd u.1).toInt32) none none none))) px bk T pn rc (p_new u)) (u.2.2.2.2.2 + 1) (px + 1) T (p_new u) kk K 38 pS_t ((pS_out (by omega) (by omega) (by omega)).trans (q_ne (by omega) f2)) (by assumption) (by assumption) (by assumption) (by assumption) hok.new (by first | assumption | decide)) (cwV 1 hts gX8_readValue_X10_take rfl rfl rfl (by decide +kernel) ⟨(by show 1 + 1 ≤ 5 * d + 12; omega), (by show 8 + (2 + 11) + 22 ≤ 120 * d + 400; omega)⟩) (q_pV hA hW hS (ci := 10) rfl pS_t) rfl rfl hl.1 rfl (lv_room (Nat.le_of_ble_eq_true rfl)) dX8_readValue_44 ⟨(by show 1 + 0 ≤ (p_val K Wd pN pn d u).2.2.2.2.2 - u.2.2.2.2.2; omega), (by show 5 + 0 ≤ 9 * ((p_val K Wd pN pn d u).2.2.2.2.2 - u.2.2.2.2.2); omega)⟩) hS (fun f_44 n_44 H locs hp hW hS => ?_)
    obtain ⟨rfl, rfl⟩ := hp
    have hW : q_W E (va_up (pS E (va_up f u.2.2.2.2.2 (some (rX11 (some (E.2.2.2 u.2.1)) ((Wd u.1).toInt32) none none none))) px bk T pn rc (p_new u)) (px + 1) (some (cTS E (px + 1) T (p_take K 38 (p_new u))))) (u.2.2.2.2.2 + 1) H := hW
    have hW : q_W E (pS E (va_up f u.2.2.2.2.2 (some (rX11 (some (E.2.2.2 u.2.1)) ((Wd u.1).toInt32) none none none))) px bk T pn rc (p_take K 38 (p_new u))) (u.2.2.2.2.2 + 1) H := by rw [← pS_st (s := p_new u) (s' := p_take K 38 (p_new u)) rfl rfl]; exact hW
    have hok_44 : p_ok K T (p_take K 38 (p_new u)) := hok.new.take hKT (by first | assumption | decide)
    have hW : q_W E (pS E (va_up f u.2.2.2.2.2 (some (rX11 (some (E.2.2.2 u.2.1)) ((Wd u.1).toInt32) none none none))) px bk T pn rc (p_take K 38 (p_new u))) (u.2.2.2.2.2 + 1) H := hW
    refine lv_goto (tgt := 192) hx hb dX8_readValue_47 (by decide) ?_
    refine lv_aload_n hx hb dX8_readValue_192 rfl (lv_at hl 0 rfl) ?_
    have rep : (p_take K 38 (p_new u)).2.1 ≠ 40 → (p_take K 38 (p_new u)).2.2.1 = 0 → rV E pn u.2.2.2.2.2 (p_take K 38 (p_new u)).2.2.2.2.2 (va_up f u.2.2.2.2.2 (some (rX11 (some (E.2.2.2 u.2.1)) ((Wd u.1).toInt32) none none none))) (d + 1) u.2.2.2.2.2 (fun _ _ => (Wd u.1).toInt32) := by
      intro k1 k2
      exact ⟨Nat.le_refl _, Nat.lt_succ_self _, u.2.1, _, none, none, none, q_eq, Or.inl ⟨e22, rfl⟩⟩
    exact q_aret (v := some u.2.2.2.2.2) hx hb hr (Or.inl ⟨_, rfl⟩) hlocks hW hS ⟨_, rfl, congrArg (fun z => pS E _ px bk T pn rc z) eV, (by rw [eV]; try rfl), fun q hq h7 h8 h9 => ((va_up_ne _ _ (by omega)).trans rfl), fun k1 k2 => by rw [eD]; rw [eV] at k1 k2 ⊢; exact rep k1 k2⟩ (by show 1 ≤ (p_val K Wd pN pn d u).2.2.2.2.2 - u.2.2.2.2.2; omega) (by show 5 ≤ 9 * ((p_val K Wd pN pn d u).2.2.2.2.2 - u.2.2.2.2.2); omega) dX8_readValue_193

