/-! reading a book, as a function of tokens: the token looked at, its kind (40: no more is taken), the error, the token of the error, how many acts, the heap's size -/
abbrev p_S : Type := Nat × Nat × Nat × Nat × Nat × Nat
def p_step (K : Nat → Nat) (r : Bool) (s : p_S) : p_S := (if r = true then s.1 + 1 else s.1, if r = true then K (s.1 + 1) else 40, s.2.2)
def p_take (K : Nat → Nat) (w : Nat) (s : p_S) : p_S := p_step K (decide (s.2.1 = w)) s
def p_seter (s : p_S) (e t : Nat) : p_S := (s.1, s.2.1, e, t, s.2.2.2.2)
def p_setac (s : p_S) (a : Nat) : p_S := (s.1, s.2.1, s.2.2.1, s.2.2.2.1, a, s.2.2.2.2.2)
def p_ci (c : Bool) (e : Nat) (s : p_S) : p_S := (s.1, s.2.1, if c = true ∧ s.2.2.1 = 0 then e else s.2.2.1, if c = true ∧ s.2.2.1 = 0 then s.1 else s.2.2.2.1, s.2.2.2.2)
def p_new (s : p_S) : p_S := (s.1, s.2.1, s.2.2.1, s.2.2.2.1, s.2.2.2.2.1, s.2.2.2.2.2 + 1)
def p_cnt (s : p_S) : p_S := p_ci (decide (80 < s.2.2.2.2.1 + 1)) 4 (p_setac s (s.2.2.2.2.1 + 1))
def ixF (nm : Nat → Int64) (w : Int64) : Nat → Nat → Int32
  | 0, _ => -1
  | m + 1, j => if nm j = w then nI j else ixF nm w m (j + 1)
def ix (nm : Nat → Int64) (cnt : Nat) (w : Int64) : Int32 := ixF nm w cnt 0
def p_known (K : Nat → Nat) (W : Nat → Int64) (nm : Nat → Int64) (cnt : Nat) (s : p_S) : p_S := p_step K (decide (s.2.1 = 37)) (p_ci (decide (s.2.1 = 37) && decide (ix nm cnt (W s.1) < 0)) 3 s)
def p_ok (K : Nat → Nat) (T : Nat) (s : p_S) : Prop := s.1 ≤ T ∧ (s.2.1 = 40 ∨ s.2.1 = K s.1) ∧ s.2.2.1 ≤ 5 ∧ (s.2.2.1 ≠ 0 → s.2.2.2.1 ≤ T) ∧ s.2.2.2.2.1 ≤ s.1
abbrev cTS (E : q_E) (t T : Nat) (s : p_S) : va_E := cTok E t (nI (T + 1)) (nI s.1) s.2.1
def pS (E : q_E) (f : q_H) (p bk T pn rc : Nat) (s : p_S) : q_H := fun q => if q = p then some (cPar p bk (nI s.2.2.1) (nI s.2.2.2.1)) else if q = p + 1 then some (cTS E (p + 1) T s) else if q = bk then some (cBook bk (nI pn) (nI rc) (nI s.2.2.2.2.1)) else f q
def PAR (E : q_E) (f : q_H) (p bk T pn rc : Nat) (s : p_S) : Prop := f p = some (cPar p bk (nI s.2.2.1) (nI s.2.2.2.1)) ∧ f (p + 1) = some (cTS E (p + 1) T s) ∧ f bk = some (cBook bk (nI pn) (nI rc) (nI s.2.2.2.2.1))
section PW
variable {E : q_E} {f : q_H} {p bk T pn rc q : Nat} {s s' : p_S} {x : Option va_E}
theorem pS_p : pS E f p bk T pn rc s p = some (cPar p bk (nI s.2.2.1) (nI s.2.2.2.1)) := if_pos rfl
theorem pS_t : pS E f p bk T pn rc s (p + 1) = some (cTS E (p + 1) T s) := by
  unfold pS
  rw [if_neg (by omega), if_pos rfl]
theorem pS_b (h : p + 5 ≤ bk) : pS E f p bk T pn rc s bk = some (cBook bk (nI pn) (nI rc) (nI s.2.2.2.2.1)) := by
  unfold pS
  rw [if_neg (by omega), if_neg (by omega), if_pos rfl]
theorem pS_out (h1 : q ≠ p) (h2 : q ≠ p + 1) (h3 : q ≠ bk) : pS E f p bk T pn rc s q = f q := by
  unfold pS
  rw [if_neg h1, if_neg h2, if_neg h3]
theorem PAR.eq (h : PAR E f p bk T pn rc s) : f = pS E f p bk T pn rc s := by
  funext q
  unfold pS
  repeat' split
  · next e => rw [e]; exact h.1
  · next e => rw [e]; exact h.2.1
  · next e => rw [e]; exact h.2.2
  · rfl
theorem pS_K (h : p + 5 ≤ bk) : PAR E (pS E f p bk T pn rc s) p bk T pn rc s := ⟨pS_p, pS_t, pS_b h⟩
theorem pS_iu (h1 : q ≠ p) (h2 : q ≠ p + 1) (h3 : q ≠ bk) : va_up (pS E f p bk T pn rc s) q x = pS E (va_up f q x) p bk T pn rc s := by
  funext z
  unfold pS va_up
  by_cases e : z = q
  · rw [if_pos e, if_neg (by omega), if_neg (by omega), if_neg (by omega), if_pos e]
  · rw [if_neg e, if_neg e]
theorem pS_sp (h1 : cTS E (p + 1) T s' = cTS E (p + 1) T s) (h2 : cBook bk (nI pn) (nI rc) (nI s'.2.2.2.2.1) = cBook bk (nI pn) (nI rc) (nI s.2.2.2.2.1)) : va_up (pS E f p bk T pn rc s) p (some (cPar p bk (nI s'.2.2.1) (nI s'.2.2.2.1))) = pS E f p bk T pn rc s' := by
  funext z
  simp only [pS, va_up, h1, h2]
  by_cases e : z = p <;> simp [e]
theorem pS_st (h1 : cPar p bk (nI s'.2.2.1) (nI s'.2.2.2.1) = cPar p bk (nI s.2.2.1) (nI s.2.2.2.1)) (h2 : cBook bk (nI pn) (nI rc) (nI s'.2.2.2.2.1) = cBook bk (nI pn) (nI rc) (nI s.2.2.2.2.1)) : va_up (pS E f p bk T pn rc s) (p + 1) (some (cTS E (p + 1) T s')) = pS E f p bk T pn rc s' := by
  funext z
  simp only [pS, va_up, h1, h2]
  by_cases e : z = p + 1 <;> simp [e]
theorem pS_sb (h : p + 5 ≤ bk) (h1 : cPar p bk (nI s'.2.2.1) (nI s'.2.2.2.1) = cPar p bk (nI s.2.2.1) (nI s.2.2.2.1)) (h2 : cTS E (p + 1) T s' = cTS E (p + 1) T s) : va_up (pS E f p bk T pn rc s) bk (some (cBook bk (nI pn) (nI rc) (nI s'.2.2.2.2.1))) = pS E f p bk T pn rc s' := by
  funext z
  simp only [pS, va_up, h1, h2]
  have hb1 : ¬ bk = p := by omega
  have hb2 : ¬ bk = p + 1 := by omega
  by_cases e : z = bk <;> simp [e, hb1, hb2]
theorem pS_pS {s2 : p_S} : pS E (pS E f p bk T pn rc s) p bk T pn rc s2 = pS E f p bk T pn rc s2 := by
  funext z
  simp only [pS]
  by_cases e : z = p
  · simp [e]
  · by_cases e1 : z = p + 1
    · simp [e1]
    · by_cases e2 : z = bk
      · simp [e2]
      · simp [e, e1, e2]
end PW
theorem p_ok.step {K : Nat → Nat} {T : Nat} {s : p_S} {r : Bool} (h : p_ok K T s) (hT : 39 ≤ K T) (hr : r = true → s.2.1 < 39) : p_ok K T (p_step K r s) ∧ (r = true → s.1 + 1 ≤ T) := by
  obtain ⟨h1, h2, h3, h4, h5⟩ := h
  have h6 : r = true → s.1 + 1 ≤ T := by
    intro e
    have h7 := hr e
    rcases h2 with h8 | h8
    · omega
    · rcases Nat.lt_or_ge s.1 T with h9 | h9
      · omega
      · have : s.1 = T := by omega
        rw [this] at h8
        omega
  refine ⟨⟨?_, ?_, h3, h4, ?_⟩, h6⟩
  · cases r
    · exact h1
    · exact h6 rfl
  · cases r
    · exact Or.inl rfl
    · exact Or.inr rfl
  · cases r
    · exact h5
    · show s.2.2.2.2.1 ≤ s.1 + 1
      omega
theorem p_ok.take {K : Nat → Nat} {T : Nat} {s : p_S} {w : Nat} (h : p_ok K T s) (hT : 39 ≤ K T) (hw : w < 39) : p_ok K T (p_take K w s) := (h.step hT (fun e => by have := of_decide_eq_true e; omega)).1
theorem p_ok.ci {K : Nat → Nat} {T : Nat} {s : p_S} {c : Bool} {e : Nat} (h : p_ok K T s) (he : e ≤ 5) : p_ok K T (p_ci c e s) := by
  obtain ⟨h1, h2, h3, h4, h5⟩ := h
  refine ⟨h1, h2, ?_, ?_, h5⟩
  · show (if c = true ∧ s.2.2.1 = 0 then e else s.2.2.1) ≤ 5
    split <;> omega
  · show (if c = true ∧ s.2.2.1 = 0 then e else s.2.2.1) ≠ 0 → (if c = true ∧ s.2.2.1 = 0 then s.1 else s.2.2.2.1) ≤ T
    split
    · exact fun _ => h1
    · exact h4
theorem p_ci_f {e : Nat} {s : p_S} : p_ci false e s = s := rfl
theorem p_ok.act {K : Nat → Nat} {T : Nat} {s : p_S} (h : p_ok K T s) (hT : 39 ≤ K T) (hr : s.2.1 < 39) : p_ok K T (p_step K true (p_cnt s)) := by
  have h0 := (h.step hT (r := true) (fun _ => hr)).2 rfl
  obtain ⟨h1, h2, h3, h4, h5⟩ := h
  refine ⟨h0, Or.inr rfl, ?_, ?_, Nat.succ_le_succ h5⟩
  · show (if decide (80 < s.2.2.2.2.1 + 1) = true ∧ s.2.2.1 = 0 then 4 else s.2.2.1) ≤ 5
    split <;> omega
  · show (if decide (80 < s.2.2.2.2.1 + 1) = true ∧ s.2.2.1 = 0 then 4 else s.2.2.1) ≠ 0 → (if decide (80 < s.2.2.2.2.1 + 1) = true ∧ s.2.2.1 = 0 then s.1 else s.2.2.2.1) ≤ T
    split
    · exact fun _ => h1
    · exact h4
theorem p_ok.new {K : Nat → Nat} {T : Nat} {s : p_S} (h : p_ok K T s) : p_ok K T (p_new s) := h
theorem p_ok.known {K : Nat → Nat} {T : Nat} {s : p_S} {W nm : Nat → Int64} {cnt : Nat} (h : p_ok K T s) (hT : 39 ≤ K T) : p_ok K T (p_known K W nm cnt s) := by
  exact ((h.ci (by decide)).step hT (fun e9 => by have := of_decide_eq_true e9; show s.2.1 < 39; omega)).1
theorem ixF_ok {nm : Nat → Int64} {w : Int64} : ∀ (m j : Nat), j + m < 2 ^ 30 → ixF nm w m j < 0 ∨ ∃ i, j ≤ i ∧ i < j + m ∧ ixF nm w m j = nI i
  | 0, _, _ => Or.inl (by show (-1 : Int32) < 0; decide)
  | m + 1, j, h => by
    unfold ixF
    split
    · exact Or.inr ⟨j, Nat.le_refl _, by omega, rfl⟩
    · rcases ixF_ok m (j + 1) (by omega) with h1 | ⟨i, h1, h2, h3⟩
      · exact Or.inl h1
      · exact Or.inr ⟨i, by omega, by omega, h3⟩
theorem ix_ok {nm : Nat → Int64} {w : Int64} {cnt : Nat} (hc : cnt ≤ 8) : ix nm cnt w < 0 ∨ ∃ i, i < cnt ∧ ix nm cnt w = nI i := by
  rcases ixF_ok (nm := nm) (w := w) cnt 0 (by omega) with h | ⟨i, -, h1, h2⟩
  · exact Or.inl h
  · exact Or.inr ⟨i, by omega, h2⟩

set_option maxHeartbeats 4000000 in
set_option maxRecDepth 100000 in
theorem kX2_indexOf (l : Launch) (E : q_E) (f : q_H) (n : Nat) (w : Int64) (a N cnt : Nat) (nm : Nat → Int64) (h0 : f a = some (aJ E N nm)) (hN : N ≤ 8) (hc : cnt ≤ N) : Met l yX2_indexOf wsX2_indexOf ({ frames := 0, cells := 0, slots := 0, locals := 0 }) (q_P E [.long w, .ref a, .int (nI cnt)] f n) (q_Qi E (fun r f1 n1 => ix nm cnt w = r ∧ f = f1 ∧ n = n1)) 0 0 (q_ge E) := by
  refine Met.ofW (cc := cX2_indexOf) (maxL := 5) (ret := (some .int)) (by decide) rfl ?_
  intro p e s m args below meth c s₁ B hml hv
  obtain ⟨rfl, hA, hW⟩ := hv
  have hx := B.exec
  have hb := B.bytes
  have hr := B.returns
  have hts := atoms_spec (ws := wsX2_indexOf) B.pre
  have hown : s.vm.findClass RX2 = some m.cls := findClass_of_methodNamed B.named
  have hlocks := B.notSynchronized
  have hS : va_S (q_ge E) s.heap s.heap [] := va_S.rf
  have hl := lv_entry ([.long w, .ref a, .int (nI cnt)]) (n := 5) (Nat.le_of_ble_eq_true rfl)
  rw [lg_entry_eq]
  generalize (lg_sl ([.long w, .ref a, .int (nI cnt)]) ++ List.replicate (5 - (lg_sl ([.long w, .ref a, .int (nI cnt)])).length) Slot.unset).toArray = ls at hl ⊢
  have hl : lv_has ls 5 [(0, .long w), (2, .ref a), (3, .int (nI cnt))] := hl
  refine lv_iconst (v := 0) hx hb dX2_indexOf_0 (by decide) ?_
  refine lv_istore (lv' := [(4, .int 0), (0, .long w), (2, .ref a), (3, .int (nI cnt))]) hx hb dX2_indexOf_1 hl (by decide) rfl (fun ls hl => ?_)
  have K3 : ∀ (fu : Nat) (j : Nat) (hj : j ≤ cnt) (hinv : ix nm cnt w = ixF nm w (cnt - j) j) (hm : cnt - j < fu) (H : Heap) (locs : List Loc) (ls : Array Slot), q_W E (f) n H → va_S (q_ge E) s.heap H locs → lv_has ls 5 [(0, .long w), (2, .ref a), (3, .int (nI cnt)), (4, .int (nI j))] → W p l e (headSpec wsX2_indexOf ({ frames := 0, cells := 0, slots := 0, locals := 0 })).room s m ([.long w, .ref a, .int (nI cnt)] : List Value).toArray below meth c H locs 0 0 (MQ below (q_Qi E (fun r f1 n1 => ix nm cnt w = r ∧ f = f1 ∧ n = n1)) ([.long w, .ref a, .int (nI cnt)] : List Value).toArray s 0 0 (q_ge E)) (F0 m 3 ls []) := by
    intro fu
    induction fu with
    | zero =>
      intro j hj hinv hm
      exact absurd hm (Nat.not_lt_zero _)
    | succ fu ih =>
      intro j hj hinv hm H locs ls hW hS hl
      refine lv_iload hx hb dX2_indexOf_3 (lv_at hl 3 rfl) ?_
      refine lv_iload_n hx hb dX2_indexOf_5 rfl (lv_at hl 2 rfl) ?_
      refine lv_icmp_ge (tgt := 34) hx hb dX2_indexOf_6 (by decide) (fun c_6 => ?_) (fun c_6 => ?_)
      · have ej : j = cnt := by rcases Nat.lt_or_ge j cnt with h9 | h9; exact absurd c_6 (nI_ge h9 (by omega)); omega
        refine lv_iconst (v := (-1)) hx hb dX2_indexOf_34 (by decide) ?_
        exact q_iret hx hb hr hlocks hW hS ⟨(by rw [hinv, ej, Nat.sub_self]; rfl), rfl, rfl⟩ (Nat.le_of_ble_eq_true rfl) (Nat.le_of_ble_eq_true rfl) dX2_indexOf_35
      · have hlt : j < cnt := by rcases Nat.lt_or_ge j cnt with h9 | h9; exact h9; exact absurd (nI_le h9 (by omega)) c_6
        refine lv_iload hx hb dX2_indexOf_9 (lv_at hl 3 rfl) ?_
        refine lv_aload_n hx hb dX2_indexOf_11 rfl (lv_at hl 1 rfl) ?_
        refine q_alen hx hb hA hW 1 rfl h0 (v := Int32.ofNat N) rfl dX2_indexOf_12 ?_
        refine lv_icmp_ge (tgt := 34) hx hb dX2_indexOf_13 (by decide) (fun c_13 => absurd c_13 (nI_ge (show j < N by omega) (by omega))) (fun c_13 => ?_)
        refine lv_aload_n hx hb dX2_indexOf_16 rfl (lv_at hl 1 rfl) ?_
        refine lv_iload hx hb dX2_indexOf_17 (lv_at hl 3 rfl) ?_
        refine q_lald hx hb hA hW h0 (vp_in_nI (show j < N by omega) (by omega)) dX2_indexOf_19 ?_
        rw [nI_clamp (by omega)]
        refine lv_lload_n hx hb dX2_indexOf_20 rfl (lv_at hl 0 rfl) ?_
        refine q_lcmp_ne (tgt := 28) hx hb dX2_indexOf_21 dX2_indexOf_22 (by decide) (fun c_21 => ?_) (fun c_21 => ?_)
        · refine lv_iinc (v := nI (j + 1)) (lv' := [(4, .int (nI (j + 1))), (0, .long w), (2, .ref a), (3, .int (nI cnt))]) hx hb dX2_indexOf_28 hl (k := 3) rfl (nI_1 j) (by decide) rfl (fun ls hl => ?_)
          refine lv_goto (tgt := 3) hx hb dX2_indexOf_31 (by decide) ?_
          exact ih (j + 1) hlt (hinv.trans (by rw [show cnt - j = (cnt - (j + 1)) + 1 by omega]; exact if_neg c_21)) (by omega) _ _ _ hW hS (lv_sub hl [1, 2, 3, 0] rfl)
        · refine lv_iload hx hb dX2_indexOf_25 (lv_at hl 3 rfl) ?_
          exact q_iret hx hb hr hlocks hW hS ⟨(by rw [hinv]; rw [show cnt - j = (cnt - (j + 1)) + 1 by omega]; exact if_pos c_21), rfl, rfl⟩ (Nat.le_of_ble_eq_true rfl) (Nat.le_of_ble_eq_true rfl) dX2_indexOf_27
  exact K3 _ 0 (Nat.zero_le _) rfl (Nat.lt_succ_self _) _ _ _ hW hS (lv_sub hl [1, 2, 3, 0] rfl)

set_option maxHeartbeats 4000000 in
set_option maxRecDepth 100000 in
theorem kX2_addPanT (l : Launch) (E : q_E) (f : q_H) (n : Nat) (b pn : Nat) (rc ac : Int32) (pN : Nat → Int64) (hd : Nat → Int32) (w : Int64) (y : Int32) (h0 : f b = some (cBook b (nI pn) rc ac)) (h1 : f (b + 1) = some (aJ E 8 pN)) (h2 : f (b + 2) = some (aI E 8 hd)) (hp : pn < 8) : Met l yX2_addPan wsX2_addPan ({ frames := 0, cells := 0, slots := 0, locals := 0 }) (q_P E [.ref b, .long w, .int y] f n) (q_Qv E (fun f1 n1 => va_up (va_up (va_up f (b + 1) (some (aJ E 8 (vp_updL pN pn w)))) (b + 2) (some (aI E 8 (upd hd pn y)))) b (some (cBook b (nI (pn + 1)) rc ac)) = f1 ∧ n = n1)) 0 0 (q_ge E) := by
  refine Met.ofW (cc := cX2_addPan) (maxL := 4) (ret := none) (by decide) rfl ?_
  intro p e s m args below meth c s₁ B hml hv
  obtain ⟨rfl, hA, hW⟩ := hv
  have hx := B.exec
  have hb := B.bytes
  have hr := B.returns
  have hts := atoms_spec (ws := wsX2_addPan) B.pre
  have hown : s.vm.findClass RX2 = some m.cls := findClass_of_methodNamed B.named
  have hlocks := B.notSynchronized
  have hS : va_S (q_ge E) s.heap s.heap [] := va_S.rf
  have iX2 : ∀ w ∈ wsX20, w ∈ wsX2_addPan := by decide +kernel
  have hl := lv_entry ([.ref b, .long w, .int y]) (n := 4) (Nat.le_of_ble_eq_true rfl)
  rw [lg_entry_eq]
  generalize (lg_sl ([.ref b, .long w, .int y]) ++ List.replicate (4 - (lg_sl ([.ref b, .long w, .int y])).length) Slot.unset).toArray = ls at hl ⊢
  have hl : lv_has ls 4 [(0, .ref b), (1, .long w), (3, .int y)] := hl
  refine lv_aload_n hx hb dX2_addPan_0 rfl (lv_at hl 0 rfl) ?_
  refine q_get hx hb hts hown hA hW iX2 h0 rfl 4 (by decide) (hts (.fieldLink RX2 26 "HighRecipes$Book" "panCount" "I") (by decide +kernel)) (fun _ h9 => h9) (v := .int (nI pn)) rfl dX2_addPan_1 ?_
  refine lv_if_lt (tgt := 61) hx hb dX2_addPan_4 (by decide) (fun c_4 => absurd c_4 (nI_pos (by omega))) (fun c_4 => ?_)
  refine lv_aload_n hx hb dX2_addPan_7 rfl (lv_at hl 0 rfl) ?_
  refine q_get hx hb hts hown hA hW iX2 h0 rfl 4 (by decide) (hts (.fieldLink RX2 26 "HighRecipes$Book" "panCount" "I") (by decide +kernel)) (fun _ h9 => h9) (v := .int (nI pn)) rfl dX2_addPan_8 ?_
  refine lv_aload_n hx hb dX2_addPan_11 rfl (lv_at hl 0 rfl) ?_
  refine q_get hx hb hts hown hA hW iX2 h0 rfl 0 (by decide) (hts (.fieldLink RX2 9 "HighRecipes$Book" "panNames" "[J") (by decide +kernel)) (fun _ h9 => h9) (v := .ref (b + 1)) rfl dX2_addPan_12 ?_
  refine q_alen hx hb hA hW 1 rfl h1 (v := Int32.ofNat 8) rfl dX2_addPan_15 ?_
  refine lv_icmp_ge (tgt := 61) hx hb dX2_addPan_16 (by decide) (fun c_16 => absurd c_16 (nI_ge hp (by decide))) (fun c_16 => ?_)
  refine lv_aload_n hx hb dX2_addPan_19 rfl (lv_at hl 0 rfl) ?_
  refine q_get hx hb hts hown hA hW iX2 h0 rfl 4 (by decide) (hts (.fieldLink RX2 26 "HighRecipes$Book" "panCount" "I") (by decide +kernel)) (fun _ h9 => h9) (v := .int (nI pn)) rfl dX2_addPan_20 ?_
  refine lv_aload_n hx hb dX2_addPan_23 rfl (lv_at hl 0 rfl) ?_
  refine q_get hx hb hts hown hA hW iX2 h0 rfl 1 (by decide) (hts (.fieldLink RX2 13 "HighRecipes$Book" "holds" "[I") (by decide +kernel)) (fun _ h9 => h9) (v := .ref (b + 2)) rfl dX2_addPan_24 ?_
  refine q_alen hx hb hA hW 0 rfl h2 (v := Int32.ofNat 8) rfl dX2_addPan_27 ?_
  refine lv_icmp_ge (tgt := 61) hx hb dX2_addPan_28 (by decide) (fun c_28 => absurd c_28 (nI_ge hp (by decide))) (fun c_28 => ?_)
  refine lv_aload_n hx hb dX2_addPan_31 rfl (lv_at hl 0 rfl) ?_
  refine q_get hx hb hts hown hA hW iX2 h0 rfl 0 (by decide) (hts (.fieldLink RX2 9 "HighRecipes$Book" "panNames" "[J") (by decide +kernel)) (fun _ h9 => h9) (v := .ref (b + 1)) rfl dX2_addPan_32 ?_
  refine lv_aload_n hx hb dX2_addPan_35 rfl (lv_at hl 0 rfl) ?_
  refine q_get hx hb hts hown hA hW iX2 h0 rfl 4 (by decide) (hts (.fieldLink RX2 26 "HighRecipes$Book" "panCount" "I") (by decide +kernel)) (fun _ h9 => h9) (v := .int (nI pn)) rfl dX2_addPan_36 ?_
  refine lv_lload_n hx hb dX2_addPan_39 rfl (lv_at hl 1 rfl) ?_
  refine q_last hx hb hA hW hS h1 (vp_in_nI hp (by decide)) dX2_addPan_40 (fun H locs hW hS => ?_)
  rw [show (nI pn).toNatClampNeg = pn from (nI_clamp (by omega))] at hW
  have hW : q_W E (va_up f (b + 1) (some (aJ E 8 (vp_updL pN pn w)))) n H := hW
  refine lv_aload_n hx hb dX2_addPan_41 rfl (lv_at hl 0 rfl) ?_
  refine q_get hx hb hts hown hA hW iX2 (q_ne (by omega) h0) rfl 1 (by decide) (hts (.fieldLink RX2 13 "HighRecipes$Book" "holds" "[I") (by decide +kernel)) (fun _ h9 => h9) (v := .ref (b + 2)) rfl dX2_addPan_42 ?_
  refine lv_aload_n hx hb dX2_addPan_45 rfl (lv_at hl 0 rfl) ?_
  refine q_get hx hb hts hown hA hW iX2 (q_ne (by omega) h0) rfl 4 (by decide) (hts (.fieldLink RX2 26 "HighRecipes$Book" "panCount" "I") (by decide +kernel)) (fun _ h9 => h9) (v := .int (nI pn)) rfl dX2_addPan_46 ?_
  refine lv_iload_n hx hb dX2_addPan_49 rfl (lv_at hl 2 rfl) ?_
  refine q_iast hx hb hA hW hS (q_ne (by omega) h2) (vp_in_nI hp (by decide)) dX2_addPan_50 (fun H locs hW hS => ?_)
  rw [show (nI pn).toNatClampNeg = pn from (nI_clamp (by omega))] at hW
  have hW : q_W E (va_up (va_up f (b + 1) (some (aJ E 8 (vp_updL pN pn w)))) (b + 2) (some (aI E 8 (upd hd pn y)))) n H := hW
  refine lv_aload_n hx hb dX2_addPan_51 rfl (lv_at hl 0 rfl) ?_
  refine lv_dup hx hb dX2_addPan_52 rfl ?_
  refine q_get hx hb hts hown hA hW iX2 (q_ne (by omega) (q_ne (by omega) h0)) rfl 4 (by decide) (hts (.fieldLink RX2 26 "HighRecipes$Book" "panCount" "I") (by decide +kernel)) (fun _ h9 => h9) (v := .int (nI pn)) rfl dX2_addPan_53 ?_
  refine lv_iconst (v := 1) hx hb dX2_addPan_56 (by decide) ?_
  refine lv_iadd hx hb dX2_addPan_57 ?_
  rw [nI_1]
  refine q_put hx hb hts hown hA hW hS iX2 tyX2 tyX2_ok nmX2 (q_ne (by omega) (q_ne (by omega) h0)) rfl 4 (by decide) (hts (.fieldLink RX2 26 "HighRecipes$Book" "panCount" "I") (by decide +kernel)) (fun _ h9 => h9) rfl rfl rfl (Nat.le_of_ble_eq_true rfl) dX2_addPan_58 (fun H locs hW hS => ?_)
  have hW : q_W E (va_up (va_up (va_up f (b + 1) (some (aJ E 8 (vp_updL pN pn w)))) (b + 2) (some (aI E 8 (upd hd pn y)))) b (some (cBook b (nI (pn + 1)) rc ac))) n H := hW
  exact q_vret hx hb hr hlocks hW hS ⟨rfl, rfl⟩ (Nat.le_of_ble_eq_true rfl) (Nat.le_of_ble_eq_true rfl) dX2_addPan_61

set_option maxHeartbeats 4000000 in
set_option maxRecDepth 100000 in
theorem kX2_addPanF (l : Launch) (E : q_E) (f : q_H) (n : Nat) (b : Nat) (rc ac : Int32) (pN : Nat → Int64) (w : Int64) (y : Int32) (h0 : f b = some (cBook b 8 rc ac)) (h1 : f (b + 1) = some (aJ E 8 pN)) : Met l yX2_addPan wsX2_addPan ({ frames := 0, cells := 0, slots := 0, locals := 0 }) (q_P E [.ref b, .long w, .int y] f n) (q_Qv E (fun f1 n1 => f = f1 ∧ n = n1)) 0 0 (q_ge E) := by
  refine Met.ofW (cc := cX2_addPan) (maxL := 4) (ret := none) (by decide) rfl ?_
  intro p e s m args below meth c s₁ B hml hv
  obtain ⟨rfl, hA, hW⟩ := hv
  have hx := B.exec
  have hb := B.bytes
  have hr := B.returns
  have hts := atoms_spec (ws := wsX2_addPan) B.pre
  have hown : s.vm.findClass RX2 = some m.cls := findClass_of_methodNamed B.named
  have hlocks := B.notSynchronized
  have hS : va_S (q_ge E) s.heap s.heap [] := va_S.rf
  have iX2 : ∀ w ∈ wsX20, w ∈ wsX2_addPan := by decide +kernel
  have hl := lv_entry ([.ref b, .long w, .int y]) (n := 4) (Nat.le_of_ble_eq_true rfl)
  rw [lg_entry_eq]
  generalize (lg_sl ([.ref b, .long w, .int y]) ++ List.replicate (4 - (lg_sl ([.ref b, .long w, .int y])).length) Slot.unset).toArray = ls at hl ⊢
  have hl : lv_has ls 4 [(0, .ref b), (1, .long w), (3, .int y)] := hl
  refine lv_aload_n hx hb dX2_addPan_0 rfl (lv_at hl 0 rfl) ?_
  refine q_get hx hb hts hown hA hW iX2 h0 rfl 4 (by decide) (hts (.fieldLink RX2 26 "HighRecipes$Book" "panCount" "I") (by decide +kernel)) (fun _ h9 => h9) (v := .int 8) rfl dX2_addPan_1 ?_
  refine lv_if_lt (tgt := 61) hx hb dX2_addPan_4 (by decide) (fun c_4 => absurd c_4 (by decide)) (fun c_4 => ?_)
  refine lv_aload_n hx hb dX2_addPan_7 rfl (lv_at hl 0 rfl) ?_
  refine q_get hx hb hts hown hA hW iX2 h0 rfl 4 (by decide) (hts (.fieldLink RX2 26 "HighRecipes$Book" "panCount" "I") (by decide +kernel)) (fun _ h9 => h9) (v := .int 8) rfl dX2_addPan_8 ?_
  refine lv_aload_n hx hb dX2_addPan_11 rfl (lv_at hl 0 rfl) ?_
  refine q_get hx hb hts hown hA hW iX2 h0 rfl 0 (by decide) (hts (.fieldLink RX2 9 "HighRecipes$Book" "panNames" "[J") (by decide +kernel)) (fun _ h9 => h9) (v := .ref (b + 1)) rfl dX2_addPan_12 ?_
  refine q_alen hx hb hA hW 1 rfl h1 (v := Int32.ofNat 8) rfl dX2_addPan_15 ?_
  refine lv_icmp_ge (tgt := 61) hx hb dX2_addPan_16 (by decide) (fun c_16 => ?_) (fun c_16 => absurd (by decide) c_16)
  exact q_vret hx hb hr hlocks hW hS ⟨rfl, rfl⟩ (Nat.le_of_ble_eq_true rfl) (Nat.le_of_ble_eq_true rfl) dX2_addPan_61

set_option maxHeartbeats 4000000 in
set_option maxRecDepth 100000 in
theorem kX2_addRecipeTN (l : Launch) (E : q_E) (f : q_H) (n : Nat) (b rn : Nat) (pc ac : Int32) (rN : Nat → Int64) (g : Nat → Option Nat) (w : Int64) (h0 : f b = some (cBook b pc (nI rn) ac)) (h1 : f (b + 3) = some (aJ E 6 rN)) (h2 : f (b + 4) = some (aQ E 3 6 g)) (hp : rn < 6) : Met l yX2_addRecipe wsX2_addRecipe ({ frames := 0, cells := 0, slots := 0, locals := 0 }) (q_P E [.ref b, .long w, .null] f n) (q_Qv E (fun f1 n1 => va_up (va_up (va_up f (b + 3) (some (aJ E 6 (vp_updL rN rn w)))) (b + 4) (some (aQ E 3 6 (va_up g rn none)))) b (some (cBook b pc (nI (rn + 1)) ac)) = f1 ∧ n = n1)) 0 0 (q_ge E) := by
  refine Met.ofW (cc := cX2_addRecipe) (maxL := 4) (ret := none) (by decide) rfl ?_
  intro p e s m args below meth c s₁ B hml hv
  obtain ⟨rfl, hA, hW⟩ := hv
  have hx := B.exec
  have hb := B.bytes
  have hr := B.returns
  have hts := atoms_spec (ws := wsX2_addRecipe) B.pre
  have hown : s.vm.findClass RX2 = some m.cls := findClass_of_methodNamed B.named
  have hlocks := B.notSynchronized
  have hS : va_S (q_ge E) s.heap s.heap [] := va_S.rf
  have iX2 : ∀ w ∈ wsX20, w ∈ wsX2_addRecipe := by decide +kernel
  have hl := lv_entry ([.ref b, .long w, .null]) (n := 4) (Nat.le_of_ble_eq_true rfl)
  rw [lg_entry_eq]
  generalize (lg_sl ([.ref b, .long w, .null]) ++ List.replicate (4 - (lg_sl ([.ref b, .long w, .null])).length) Slot.unset).toArray = ls at hl ⊢
  have hl : lv_has ls 4 [(0, .ref b), (1, .long w), (3, .null)] := hl
  refine lv_aload_n hx hb dX2_addRecipe_0 rfl (lv_at hl 0 rfl) ?_
  refine q_get hx hb hts hown hA hW iX2 h0 rfl 5 (by decide) (hts (.fieldLink RX2 30 "HighRecipes$Book" "recipeCount" "I") (by decide +kernel)) (fun _ h9 => h9) (v := .int (nI rn)) rfl dX2_addRecipe_1 ?_
  refine lv_if_lt (tgt := 61) hx hb dX2_addRecipe_4 (by decide) (fun c_4 => absurd c_4 (nI_pos (by omega))) (fun c_4 => ?_)
  refine lv_aload_n hx hb dX2_addRecipe_7 rfl (lv_at hl 0 rfl) ?_
  refine q_get hx hb hts hown hA hW iX2 h0 rfl 5 (by decide) (hts (.fieldLink RX2 30 "HighRecipes$Book" "recipeCount" "I") (by decide +kernel)) (fun _ h9 => h9) (v := .int (nI rn)) rfl dX2_addRecipe_8 ?_
  refine lv_aload_n hx hb dX2_addRecipe_11 rfl (lv_at hl 0 rfl) ?_
  refine q_get hx hb hts hown hA hW iX2 h0 rfl 2 (by decide) (hts (.fieldLink RX2 17 "HighRecipes$Book" "recipeNames" "[J") (by decide +kernel)) (fun _ h9 => h9) (v := .ref (b + 3)) rfl dX2_addRecipe_12 ?_
  refine q_alen hx hb hA hW 1 rfl h1 (v := Int32.ofNat 6) rfl dX2_addRecipe_15 ?_
  refine lv_icmp_ge (tgt := 61) hx hb dX2_addRecipe_16 (by decide) (fun c_16 => absurd c_16 (nI_ge hp (by decide))) (fun c_16 => ?_)
  refine lv_aload_n hx hb dX2_addRecipe_19 rfl (lv_at hl 0 rfl) ?_
  refine q_get hx hb hts hown hA hW iX2 h0 rfl 5 (by decide) (hts (.fieldLink RX2 30 "HighRecipes$Book" "recipeCount" "I") (by decide +kernel)) (fun _ h9 => h9) (v := .int (nI rn)) rfl dX2_addRecipe_20 ?_
  refine lv_aload_n hx hb dX2_addRecipe_23 rfl (lv_at hl 0 rfl) ?_
  refine q_get hx hb hts hown hA hW iX2 h0 rfl 3 (by decide) (hts (.fieldLink RX2 22 "HighRecipes$Book" "blocks" "[LHighRecipes$Act;") (by decide +kernel)) (fun _ h9 => h9) (v := .ref (b + 4)) rfl dX2_addRecipe_24 ?_
  refine q_alen hx hb hA hW 3 rfl h2 (v := Int32.ofNat 6) rfl dX2_addRecipe_27 ?_
  refine lv_icmp_ge (tgt := 61) hx hb dX2_addRecipe_28 (by decide) (fun c_28 => absurd c_28 (nI_ge hp (by decide))) (fun c_28 => ?_)
  refine lv_aload_n hx hb dX2_addRecipe_31 rfl (lv_at hl 0 rfl) ?_
  refine q_get hx hb hts hown hA hW iX2 h0 rfl 2 (by decide) (hts (.fieldLink RX2 17 "HighRecipes$Book" "recipeNames" "[J") (by decide +kernel)) (fun _ h9 => h9) (v := .ref (b + 3)) rfl dX2_addRecipe_32 ?_
  refine lv_aload_n hx hb dX2_addRecipe_35 rfl (lv_at hl 0 rfl) ?_
  refine q_get hx hb hts hown hA hW iX2 h0 rfl 5 (by decide) (hts (.fieldLink RX2 30 "HighRecipes$Book" "recipeCount" "I") (by decide +kernel)) (fun _ h9 => h9) (v := .int (nI rn)) rfl dX2_addRecipe_36 ?_
  refine lv_lload_n hx hb dX2_addRecipe_39 rfl (lv_at hl 1 rfl) ?_
  refine q_last hx hb hA hW hS h1 (vp_in_nI hp (by decide)) dX2_addRecipe_40 (fun H locs hW hS => ?_)
  rw [show (nI rn).toNatClampNeg = rn from (nI_clamp (by omega))] at hW
  have hW : q_W E (va_up f (b + 3) (some (aJ E 6 (vp_updL rN rn w)))) n H := hW
  refine lv_aload_n hx hb dX2_addRecipe_41 rfl (lv_at hl 0 rfl) ?_
  refine q_get hx hb hts hown hA hW iX2 (q_ne (by omega) h0) rfl 3 (by decide) (hts (.fieldLink RX2 22 "HighRecipes$Book" "blocks" "[LHighRecipes$Act;") (by decide +kernel)) (fun _ h9 => h9) (v := .ref (b + 4)) rfl dX2_addRecipe_42 ?_
  refine lv_aload_n hx hb dX2_addRecipe_45 rfl (lv_at hl 0 rfl) ?_
  refine q_get hx hb hts hown hA hW iX2 (q_ne (by omega) h0) rfl 5 (by decide) (hts (.fieldLink RX2 30 "HighRecipes$Book" "recipeCount" "I") (by decide +kernel)) (fun _ h9 => h9) (v := .int (nI rn)) rfl dX2_addRecipe_46 ?_
  refine lv_aload_nN hx hb dX2_addRecipe_49 rfl (lv_at hl 2 rfl) ?_
  refine q_aastN hx hb hA hW hS 3 rfl (q_ne (by omega) h2) (vp_in_nI hp (by decide)) dX2_addRecipe_50 (fun H locs hW hS => ?_)
  rw [show (nI rn).toNatClampNeg = rn from (nI_clamp (by omega))] at hW
  have hW : q_W E (va_up (va_up f (b + 3) (some (aJ E 6 (vp_updL rN rn w)))) (b + 4) (some (aQ E 3 6 (va_up g rn none)))) n H := hW
  refine lv_aload_n hx hb dX2_addRecipe_51 rfl (lv_at hl 0 rfl) ?_
  refine lv_dup hx hb dX2_addRecipe_52 rfl ?_
  refine q_get hx hb hts hown hA hW iX2 (q_ne (by omega) (q_ne (by omega) h0)) rfl 5 (by decide) (hts (.fieldLink RX2 30 "HighRecipes$Book" "recipeCount" "I") (by decide +kernel)) (fun _ h9 => h9) (v := .int (nI rn)) rfl dX2_addRecipe_53 ?_
  refine lv_iconst (v := 1) hx hb dX2_addRecipe_56 (by decide) ?_
  refine lv_iadd hx hb dX2_addRecipe_57 ?_
  rw [nI_1]
  refine q_put hx hb hts hown hA hW hS iX2 tyX2 tyX2_ok nmX2 (q_ne (by omega) (q_ne (by omega) h0)) rfl 5 (by decide) (hts (.fieldLink RX2 30 "HighRecipes$Book" "recipeCount" "I") (by decide +kernel)) (fun _ h9 => h9) rfl rfl rfl (Nat.le_of_ble_eq_true rfl) dX2_addRecipe_58 (fun H locs hW hS => ?_)
  have hW : q_W E (va_up (va_up (va_up f (b + 3) (some (aJ E 6 (vp_updL rN rn w)))) (b + 4) (some (aQ E 3 6 (va_up g rn none)))) b (some (cBook b pc (nI (rn + 1)) ac))) n H := hW
  exact q_vret hx hb hr hlocks hW hS ⟨rfl, rfl⟩ (Nat.le_of_ble_eq_true rfl) (Nat.le_of_ble_eq_true rfl) dX2_addRecipe_61

set_option maxHeartbeats 4000000 in
set_option maxRecDepth 100000 in
theorem kX2_addRecipeTS (l : Launch) (E : q_E) (f : q_H) (n : Nat) (b rn : Nat) (pc ac : Int32) (rN : Nat → Int64) (g : Nat → Option Nat) (w : Int64) (a kd : Nat) (x1 x2 x3 : Int32) (x4 x5 x6 x7 x8 : Option Nat) (h0 : f b = some (cBook b pc (nI rn) ac)) (h1 : f (b + 3) = some (aJ E 6 rN)) (h2 : f (b + 4) = some (aQ E 3 6 g)) (h3 : f a = some (cAct E kd x1 x2 x3 x4 x5 x6 x7 x8)) (hp : rn < 6) (ha : a ≠ b + 3) : Met l yX2_addRecipe wsX2_addRecipe ({ frames := 0, cells := 0, slots := 0, locals := 0 }) (q_P E [.ref b, .long w, .ref a] f n) (q_Qv E (fun f1 n1 => va_up (va_up (va_up f (b + 3) (some (aJ E 6 (vp_updL rN rn w)))) (b + 4) (some (aQ E 3 6 (va_up g rn (some a))))) b (some (cBook b pc (nI (rn + 1)) ac)) = f1 ∧ n = n1)) 0 0 (q_ge E) := by
  refine Met.ofW (cc := cX2_addRecipe) (maxL := 4) (ret := none) (by decide) rfl ?_
  intro p e s m args below meth c s₁ B hml hv
  obtain ⟨rfl, hA, hW⟩ := hv
  have hx := B.exec
  have hb := B.bytes
  have hr := B.returns
  have hts := atoms_spec (ws := wsX2_addRecipe) B.pre
  have hown : s.vm.findClass RX2 = some m.cls := findClass_of_methodNamed B.named
  have hlocks := B.notSynchronized
  have hS : va_S (q_ge E) s.heap s.heap [] := va_S.rf
  have iX2 : ∀ w ∈ wsX20, w ∈ wsX2_addRecipe := by decide +kernel
  have hl := lv_entry ([.ref b, .long w, .ref a]) (n := 4) (Nat.le_of_ble_eq_true rfl)
  rw [lg_entry_eq]
  generalize (lg_sl ([.ref b, .long w, .ref a]) ++ List.replicate (4 - (lg_sl ([.ref b, .long w, .ref a])).length) Slot.unset).toArray = ls at hl ⊢
  have hl : lv_has ls 4 [(0, .ref b), (1, .long w), (3, .ref a)] := hl
  refine lv_aload_n hx hb dX2_addRecipe_0 rfl (lv_at hl 0 rfl) ?_
  refine q_get hx hb hts hown hA hW iX2 h0 rfl 5 (by decide) (hts (.fieldLink RX2 30 "HighRecipes$Book" "recipeCount" "I") (by decide +kernel)) (fun _ h9 => h9) (v := .int (nI rn)) rfl dX2_addRecipe_1 ?_
  refine lv_if_lt (tgt := 61) hx hb dX2_addRecipe_4 (by decide) (fun c_4 => absurd c_4 (nI_pos (by omega))) (fun c_4 => ?_)
  refine lv_aload_n hx hb dX2_addRecipe_7 rfl (lv_at hl 0 rfl) ?_
  refine q_get hx hb hts hown hA hW iX2 h0 rfl 5 (by decide) (hts (.fieldLink RX2 30 "HighRecipes$Book" "recipeCount" "I") (by decide +kernel)) (fun _ h9 => h9) (v := .int (nI rn)) rfl dX2_addRecipe_8 ?_
  refine lv_aload_n hx hb dX2_addRecipe_11 rfl (lv_at hl 0 rfl) ?_
  refine q_get hx hb hts hown hA hW iX2 h0 rfl 2 (by decide) (hts (.fieldLink RX2 17 "HighRecipes$Book" "recipeNames" "[J") (by decide +kernel)) (fun _ h9 => h9) (v := .ref (b + 3)) rfl dX2_addRecipe_12 ?_
  refine q_alen hx hb hA hW 1 rfl h1 (v := Int32.ofNat 6) rfl dX2_addRecipe_15 ?_
  refine lv_icmp_ge (tgt := 61) hx hb dX2_addRecipe_16 (by decide) (fun c_16 => absurd c_16 (nI_ge hp (by decide))) (fun c_16 => ?_)
  refine lv_aload_n hx hb dX2_addRecipe_19 rfl (lv_at hl 0 rfl) ?_
  refine q_get hx hb hts hown hA hW iX2 h0 rfl 5 (by decide) (hts (.fieldLink RX2 30 "HighRecipes$Book" "recipeCount" "I") (by decide +kernel)) (fun _ h9 => h9) (v := .int (nI rn)) rfl dX2_addRecipe_20 ?_
  refine lv_aload_n hx hb dX2_addRecipe_23 rfl (lv_at hl 0 rfl) ?_
  refine q_get hx hb hts hown hA hW iX2 h0 rfl 3 (by decide) (hts (.fieldLink RX2 22 "HighRecipes$Book" "blocks" "[LHighRecipes$Act;") (by decide +kernel)) (fun _ h9 => h9) (v := .ref (b + 4)) rfl dX2_addRecipe_24 ?_
  refine q_alen hx hb hA hW 3 rfl h2 (v := Int32.ofNat 6) rfl dX2_addRecipe_27 ?_
  refine lv_icmp_ge (tgt := 61) hx hb dX2_addRecipe_28 (by decide) (fun c_28 => absurd c_28 (nI_ge hp (by decide))) (fun c_28 => ?_)
  refine lv_aload_n hx hb dX2_addRecipe_31 rfl (lv_at hl 0 rfl) ?_
  refine q_get hx hb hts hown hA hW iX2 h0 rfl 2 (by decide) (hts (.fieldLink RX2 17 "HighRecipes$Book" "recipeNames" "[J") (by decide +kernel)) (fun _ h9 => h9) (v := .ref (b + 3)) rfl dX2_addRecipe_32 ?_
  refine lv_aload_n hx hb dX2_addRecipe_35 rfl (lv_at hl 0 rfl) ?_
  refine q_get hx hb hts hown hA hW iX2 h0 rfl 5 (by decide) (hts (.fieldLink RX2 30 "HighRecipes$Book" "recipeCount" "I") (by decide +kernel)) (fun _ h9 => h9) (v := .int (nI rn)) rfl dX2_addRecipe_36 ?_
  refine lv_lload_n hx hb dX2_addRecipe_39 rfl (lv_at hl 1 rfl) ?_
  refine q_last hx hb hA hW hS h1 (vp_in_nI hp (by decide)) dX2_addRecipe_40 (fun H locs hW hS => ?_)
  rw [show (nI rn).toNatClampNeg = rn from (nI_clamp (by omega))] at hW
  have hW : q_W E (va_up f (b + 3) (some (aJ E 6 (vp_updL rN rn w)))) n H := hW
  refine lv_aload_n hx hb dX2_addRecipe_41 rfl (lv_at hl 0 rfl) ?_
  refine q_get hx hb hts hown hA hW iX2 (q_ne (by omega) h0) rfl 3 (by decide) (hts (.fieldLink RX2 22 "HighRecipes$Book" "blocks" "[LHighRecipes$Act;") (by decide +kernel)) (fun _ h9 => h9) (v := .ref (b + 4)) rfl dX2_addRecipe_42 ?_
  refine lv_aload_n hx hb dX2_addRecipe_45 rfl (lv_at hl 0 rfl) ?_
  refine q_get hx hb hts hown hA hW iX2 (q_ne (by omega) h0) rfl 5 (by decide) (hts (.fieldLink RX2 30 "HighRecipes$Book" "recipeCount" "I") (by decide +kernel)) (fun _ h9 => h9) (v := .int (nI rn)) rfl dX2_addRecipe_46 ?_
  refine lv_aload_n hx hb dX2_addRecipe_49 rfl (lv_at hl 2 rfl) ?_
  refine q_aast hx hb hA hW hS 3 rfl (q_ne (by omega) h2) (q_ne ha h3) rfl (vp_in_nI hp (by decide)) dX2_addRecipe_50 (fun H locs hW hS => ?_)
  rw [show (nI rn).toNatClampNeg = rn from (nI_clamp (by omega))] at hW
  have hW : q_W E (va_up (va_up f (b + 3) (some (aJ E 6 (vp_updL rN rn w)))) (b + 4) (some (aQ E 3 6 (va_up g rn (some a))))) n H := hW
  refine lv_aload_n hx hb dX2_addRecipe_51 rfl (lv_at hl 0 rfl) ?_
  refine lv_dup hx hb dX2_addRecipe_52 rfl ?_
  refine q_get hx hb hts hown hA hW iX2 (q_ne (by omega) (q_ne (by omega) h0)) rfl 5 (by decide) (hts (.fieldLink RX2 30 "HighRecipes$Book" "recipeCount" "I") (by decide +kernel)) (fun _ h9 => h9) (v := .int (nI rn)) rfl dX2_addRecipe_53 ?_
  refine lv_iconst (v := 1) hx hb dX2_addRecipe_56 (by decide) ?_
  refine lv_iadd hx hb dX2_addRecipe_57 ?_
  rw [nI_1]
  refine q_put hx hb hts hown hA hW hS iX2 tyX2 tyX2_ok nmX2 (q_ne (by omega) (q_ne (by omega) h0)) rfl 5 (by decide) (hts (.fieldLink RX2 30 "HighRecipes$Book" "recipeCount" "I") (by decide +kernel)) (fun _ h9 => h9) rfl rfl rfl (Nat.le_of_ble_eq_true rfl) dX2_addRecipe_58 (fun H locs hW hS => ?_)
  have hW : q_W E (va_up (va_up (va_up f (b + 3) (some (aJ E 6 (vp_updL rN rn w)))) (b + 4) (some (aQ E 3 6 (va_up g rn (some a))))) b (some (cBook b pc (nI (rn + 1)) ac))) n H := hW
  exact q_vret hx hb hr hlocks hW hS ⟨rfl, rfl⟩ (Nat.le_of_ble_eq_true rfl) (Nat.le_of_ble_eq_true rfl) dX2_addRecipe_61

set_option maxHeartbeats 4000000 in
set_option maxRecDepth 100000 in
theorem kX2_addRecipeFN (l : Launch) (E : q_E) (f : q_H) (n : Nat) (b : Nat) (pc ac : Int32) (rN : Nat → Int64) (w : Int64) (h0 : f b = some (cBook b pc 6 ac)) (h1 : f (b + 3) = some (aJ E 6 rN)) : Met l yX2_addRecipe wsX2_addRecipe ({ frames := 0, cells := 0, slots := 0, locals := 0 }) (q_P E [.ref b, .long w, .null] f n) (q_Qv E (fun f1 n1 => f = f1 ∧ n = n1)) 0 0 (q_ge E) := by
  refine Met.ofW (cc := cX2_addRecipe) (maxL := 4) (ret := none) (by decide) rfl ?_
  intro p e s m args below meth c s₁ B hml hv
  obtain ⟨rfl, hA, hW⟩ := hv
  have hx := B.exec
  have hb := B.bytes
  have hr := B.returns
  have hts := atoms_spec (ws := wsX2_addRecipe) B.pre
  have hown : s.vm.findClass RX2 = some m.cls := findClass_of_methodNamed B.named
  have hlocks := B.notSynchronized
  have hS : va_S (q_ge E) s.heap s.heap [] := va_S.rf
  have iX2 : ∀ w ∈ wsX20, w ∈ wsX2_addRecipe := by decide +kernel
  have hl := lv_entry ([.ref b, .long w, .null]) (n := 4) (Nat.le_of_ble_eq_true rfl)
  rw [lg_entry_eq]
  generalize (lg_sl ([.ref b, .long w, .null]) ++ List.replicate (4 - (lg_sl ([.ref b, .long w, .null])).length) Slot.unset).toArray = ls at hl ⊢
  have hl : lv_has ls 4 [(0, .ref b), (1, .long w), (3, .null)] := hl
  refine lv_aload_n hx hb dX2_addRecipe_0 rfl (lv_at hl 0 rfl) ?_
  refine q_get hx hb hts hown hA hW iX2 h0 rfl 5 (by decide) (hts (.fieldLink RX2 30 "HighRecipes$Book" "recipeCount" "I") (by decide +kernel)) (fun _ h9 => h9) (v := .int 6) rfl dX2_addRecipe_1 ?_
  refine lv_if_lt (tgt := 61) hx hb dX2_addRecipe_4 (by decide) (fun c_4 => absurd c_4 (by decide)) (fun c_4 => ?_)
  refine lv_aload_n hx hb dX2_addRecipe_7 rfl (lv_at hl 0 rfl) ?_
  refine q_get hx hb hts hown hA hW iX2 h0 rfl 5 (by decide) (hts (.fieldLink RX2 30 "HighRecipes$Book" "recipeCount" "I") (by decide +kernel)) (fun _ h9 => h9) (v := .int 6) rfl dX2_addRecipe_8 ?_
  refine lv_aload_n hx hb dX2_addRecipe_11 rfl (lv_at hl 0 rfl) ?_
  refine q_get hx hb hts hown hA hW iX2 h0 rfl 2 (by decide) (hts (.fieldLink RX2 17 "HighRecipes$Book" "recipeNames" "[J") (by decide +kernel)) (fun _ h9 => h9) (v := .ref (b + 3)) rfl dX2_addRecipe_12 ?_
  refine q_alen hx hb hA hW 1 rfl h1 (v := Int32.ofNat 6) rfl dX2_addRecipe_15 ?_
  refine lv_icmp_ge (tgt := 61) hx hb dX2_addRecipe_16 (by decide) (fun c_16 => ?_) (fun c_16 => absurd (by decide) c_16)
  exact q_vret hx hb hr hlocks hW hS ⟨rfl, rfl⟩ (Nat.le_of_ble_eq_true rfl) (Nat.le_of_ble_eq_true rfl) dX2_addRecipe_61

set_option maxHeartbeats 4000000 in
set_option maxRecDepth 100000 in
theorem kX2_addRecipeFS (l : Launch) (E : q_E) (f : q_H) (n : Nat) (b : Nat) (pc ac : Int32) (rN : Nat → Int64) (w : Int64) (a : Nat) (h0 : f b = some (cBook b pc 6 ac)) (h1 : f (b + 3) = some (aJ E 6 rN)) : Met l yX2_addRecipe wsX2_addRecipe ({ frames := 0, cells := 0, slots := 0, locals := 0 }) (q_P E [.ref b, .long w, .ref a] f n) (q_Qv E (fun f1 n1 => f = f1 ∧ n = n1)) 0 0 (q_ge E) := by
  refine Met.ofW (cc := cX2_addRecipe) (maxL := 4) (ret := none) (by decide) rfl ?_
  intro p e s m args below meth c s₁ B hml hv
  obtain ⟨rfl, hA, hW⟩ := hv
  have hx := B.exec
  have hb := B.bytes
  have hr := B.returns
  have hts := atoms_spec (ws := wsX2_addRecipe) B.pre
  have hown : s.vm.findClass RX2 = some m.cls := findClass_of_methodNamed B.named
  have hlocks := B.notSynchronized
  have hS : va_S (q_ge E) s.heap s.heap [] := va_S.rf
  have iX2 : ∀ w ∈ wsX20, w ∈ wsX2_addRecipe := by decide +kernel
  have hl := lv_entry ([.ref b, .long w, .ref a]) (n := 4) (Nat.le_of_ble_eq_true rfl)
  rw [lg_entry_eq]
  generalize (lg_sl ([.ref b, .long w, .ref a]) ++ List.replicate (4 - (lg_sl ([.ref b, .long w, .ref a])).length) Slot.unset).toArray = ls at hl ⊢
  have hl : lv_has ls 4 [(0, .ref b), (1, .long w), (3, .ref a)] := hl
  refine lv_aload_n hx hb dX2_addRecipe_0 rfl (lv_at hl 0 rfl) ?_
  refine q_get hx hb hts hown hA hW iX2 h0 rfl 5 (by decide) (hts (.fieldLink RX2 30 "HighRecipes$Book" "recipeCount" "I") (by decide +kernel)) (fun _ h9 => h9) (v := .int 6) rfl dX2_addRecipe_1 ?_
  refine lv_if_lt (tgt := 61) hx hb dX2_addRecipe_4 (by decide) (fun c_4 => absurd c_4 (by decide)) (fun c_4 => ?_)
  refine lv_aload_n hx hb dX2_addRecipe_7 rfl (lv_at hl 0 rfl) ?_
  refine q_get hx hb hts hown hA hW iX2 h0 rfl 5 (by decide) (hts (.fieldLink RX2 30 "HighRecipes$Book" "recipeCount" "I") (by decide +kernel)) (fun _ h9 => h9) (v := .int 6) rfl dX2_addRecipe_8 ?_
  refine lv_aload_n hx hb dX2_addRecipe_11 rfl (lv_at hl 0 rfl) ?_
  refine q_get hx hb hts hown hA hW iX2 h0 rfl 2 (by decide) (hts (.fieldLink RX2 17 "HighRecipes$Book" "recipeNames" "[J") (by decide +kernel)) (fun _ h9 => h9) (v := .ref (b + 3)) rfl dX2_addRecipe_12 ?_
  refine q_alen hx hb hA hW 1 rfl h1 (v := Int32.ofNat 6) rfl dX2_addRecipe_15 ?_
  refine lv_icmp_ge (tgt := 61) hx hb dX2_addRecipe_16 (by decide) (fun c_16 => ?_) (fun c_16 => absurd (by decide) c_16)
  exact q_vret hx hb hr hlocks hW hS ⟨rfl, rfl⟩ (Nat.le_of_ble_eq_true rfl) (Nat.le_of_ble_eq_true rfl) dX2_addRecipe_61

theorem kX10_step (l : Launch) (E : q_E) (f : q_H) (n : Nat) (t T : Nat) (u : p_S) (kk : Nat → Option Nat) (K : Nat → Nat) (r : Bool) (h0 : f t = some (cTS E t T u)) (h1 : f (t + 1) = some (aQ E 5 401 kk)) (hT : T ≤ 400) (hkk : ∀ j, j ≤ T → kk j = some (E.2.2.2 (K j))) (hi : r = true → u.1 + 1 ≤ T) : Met l yX10_step wsX10_step ({ frames := 0, cells := 0, slots := 0, locals := 0 }) (q_P E [.ref t, .int (b01 r)] f n) (q_Qv E (fun f1 n1 => va_up f t (some (cTS E t T (p_step K r u))) = f1 ∧ n = n1)) 0 0 (q_ge E) := by
  cases r
  · exact kX10_stepF l E f n t (nI (T + 1)) (nI u.1) u.2.1 h0
  · have h2 := hi rfl
    exact kX10_stepT l E f n t (T + 1) (nI u.1) u.2.1 (u.1 + 1) (K (u.1 + 1)) kk h0 h1 (nI_1 _) (by omega) (by omega) (hkk _ h2)

set_option maxHeartbeats 4000000 in
set_option maxRecDepth 100000 in
theorem kX10_take (l : Launch) (E : q_E) (f : q_H) (n : Nat) (t T : Nat) (u : p_S) (kk : Nat → Option Nat) (K : Nat → Nat) (w : Nat) (h0 : f t = some (cTS E t T u)) (h1 : f (t + 1) = some (aQ E 5 401 kk)) (hT : T ≤ 400) (hkk : ∀ j, j ≤ T → kk j = some (E.2.2.2 (K j))) (hKT : 39 ≤ K T) (hK41 : ∀ j, K j < 41) (hok : p_ok K T u) (hw : w < 39) : Met l yX10_take wsX10_take ({ frames := 1, cells := 0, slots := 0, locals := 22 }) (q_P E [.ref t, .ref (E.2.2.2 w)] f n) (q_Qv E (fun f1 n1 => va_up f t (some (cTS E t T (p_take K w u))) = f1 ∧ n = n1)) 0 0 (q_ge E) := by
  refine Met.ofW (cc := cX10_take) (maxL := 2) (ret := none) (by decide) rfl ?_
  intro p e s m args below meth c s₁ B hml hv
  obtain ⟨rfl, hA, hW⟩ := hv
  have hx := B.exec
  have hb := B.bytes
  have hr := B.returns
  have hts := atoms_spec (ws := wsX10_take) B.pre
  have hown : s.vm.findClass RX10 = some m.cls := findClass_of_methodNamed B.named
  have hlocks := B.notSynchronized
  have hS : va_S (q_ge E) s.heap s.heap [] := va_S.rf
  have iX10 : ∀ w ∈ wsX100, w ∈ wsX10_take := by decide +kernel
  have hl := lv_entry ([.ref t, .ref (E.2.2.2 w)]) (n := 2) (Nat.le_of_ble_eq_true rfl)
  rw [lg_entry_eq]
  generalize (lg_sl ([.ref t, .ref (E.2.2.2 w)]) ++ List.replicate (2 - (lg_sl ([.ref t, .ref (E.2.2.2 w)])).length) Slot.unset).toArray = ls at hl ⊢
  have hl : lv_has ls 2 [(0, .ref t), (1, .ref (E.2.2.2 w))] := hl
  refine lv_aload_n hx hb dX10_take_0 rfl (lv_at hl 0 rfl) ?_
  refine lv_aload_n hx hb dX10_take_1 rfl (lv_at hl 0 rfl) ?_
  refine q_get hx hb hts hown hA hW iX10 h0 rfl 5 (by decide) (hts (.fieldLink RX10 27 "HighRecipes$Tokens" "kind" "LHighRecipes$Kind;") (by decide +kernel)) (fun _ h9 => h9) (v := .ref (E.2.2.2 (u).2.1)) rfl dX10_take_2 ?_
  refine lv_aload_n hx hb dX10_take_5 rfl (lv_at hl 1 rfl) ?_
  refine lv_acmp_ne (rx := (some (E.2.2.2 (u).2.1))) (ry := (some (E.2.2.2 w))) (tgt := 13) hx hb dX10_take_6 (by decide) (fun c_6 => ?_) (fun c_6 => ?_)
  · have ek : ¬ u.2.1 = w := fun h9 => c_6 (by rw [h9])
    refine lv_iconst (v := 0) hx hb dX10_take_13 (by decide) ?_
    refine q_cv (va_runV (As := [.int 0]) (rest := []) ⟨hx, hb, hml, hown, hts⟩ (kX10_step l E f n t T u kk K false h0 h1 (by assumption) (by assumption) (fun h9 => by cases h9)) (cwV 1 hts gX10_take_X10_step rfl rfl rfl (by decide +kernel) ⟨(Nat.le_of_ble_eq_true rfl), (Nat.le_of_ble_eq_true rfl)⟩) (q_pV hA hW hS (ci := 10) rfl h0) rfl rfl hl.1 rfl (lv_room (Nat.le_of_ble_eq_true rfl)) dX10_take_14 ⟨Nat.le_of_ble_eq_true rfl, Nat.le_of_ble_eq_true rfl⟩) hS (fun f_14 n_14 H locs hp hW hS => ?_)
    obtain ⟨rfl, rfl⟩ := hp
    have hW : q_W E (va_up f t (some (cTS E t T (p_step K false u)))) n H := hW
    exact q_vret hx hb hr hlocks hW hS ⟨(by unfold p_take; first | rw [decide_eq_true ek] | rw [decide_eq_false ek]), rfl⟩ (Nat.le_of_ble_eq_true rfl) (Nat.le_of_ble_eq_true rfl) dX10_take_17
  · have ek : u.2.1 = w := q_kinj hA (by rcases hok.2.1 with h9 | h9 <;> rw [h9]; decide; exact hK41 _) (by omega) c_6
    refine lv_iconst (v := 1) hx hb dX10_take_9 (by decide) ?_
    refine lv_goto (tgt := 14) hx hb dX10_take_10 (by decide) ?_
    refine q_cv (va_runV (As := [.int 1]) (rest := []) ⟨hx, hb, hml, hown, hts⟩ (kX10_step l E f n t T u kk K true h0 h1 (by assumption) (by assumption) (hok.step hKT (r := true) (fun _ => by rw [ek]; exact hw)).2) (cwV 1 hts gX10_take_X10_step rfl rfl rfl (by decide +kernel) ⟨(Nat.le_of_ble_eq_true rfl), (Nat.le_of_ble_eq_true rfl)⟩) (q_pV hA hW hS (ci := 10) rfl h0) rfl rfl hl.1 rfl (lv_room (Nat.le_of_ble_eq_true rfl)) dX10_take_14 ⟨Nat.le_of_ble_eq_true rfl, Nat.le_of_ble_eq_true rfl⟩) hS (fun f_14 n_14 H locs hp hW hS => ?_)
    obtain ⟨rfl, rfl⟩ := hp
    have hW : q_W E (va_up f t (some (cTS E t T (p_step K true u)))) n H := hW
    exact q_vret hx hb hr hlocks hW hS ⟨(by unfold p_take; first | rw [decide_eq_true ek] | rw [decide_eq_false ek]), rfl⟩ (Nat.le_of_ble_eq_true rfl) (Nat.le_of_ble_eq_true rfl) dX10_take_17

