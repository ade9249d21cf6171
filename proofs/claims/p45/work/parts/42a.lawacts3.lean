/-! the law's acts: what they are, what they mean, how they are told; how many are in them -/
abbrev LT : Type := Nat × q_S × List Int32 × Nat
def lf (L : List LT) : Nat → Option Nat := fun i => (L[i]?).map Prod.fst
def bS : List LT → q_S
  | [] => k_nil
  | x :: L => k_cons x.2.1 (bS L)
def bV : List LT → List Int32
  | [] => []
  | x :: L => x.2.2.1 ++ bV L
def bC : List LT → Nat
  | [] => 0
  | x :: L => 1 + x.2.2.2 + bC L
def bT (L : List LT) : List Int32 := kt 5 ++ bV L ++ kt 29
def LB (P : Nat → Prop) (E : q_E) (f : q_H) (A : LT → Prop) (b : Nat) (L : List LT) : Prop := P b ∧ f b = some (aQ E 6 L.length (lf L)) ∧ ∀ x ∈ L, A x
/-- compares: their sign, both sides -/
abbrev CT : Type := Nat × (Nat × q_D × List Int32) × (Nat × q_D × List Int32)
def cC : List CT → q_V → q_V → Bool
  | [] => fun _ _ => true
  | x :: L => fun hd v => c_cmp (30 + x.1) (x.2.1.2.1 hd v) (x.2.2.2.1 hd v) && cC L hd v
def cV1 (x : CT) : List Int32 := x.2.1.2.2 ++ kt (47 + x.1) ++ x.2.2.2.2
def cVs : List CT → List Int32
  | [] => []
  | x :: L => kt 27 ++ cV1 x ++ cVs L
def cV : List CT → List Int32
  | [] => []
  | x :: L => kt 26 ++ cV1 x ++ cVs L
def CMPS (pn : Nat) (P : Nat → Prop) (E : q_E) (f : q_H) (sg on ot : Nat) (L : List CT) : Prop := ∃ gs go gt, P sg ∧ P on ∧ P ot ∧ f sg = some (aI E L.length gs) ∧ f on = some (aQ E 7 L.length go) ∧ f ot = some (aQ E 7 L.length gt) ∧
  ∀ j x, L[j]? = some x → gs j = nI x.1 ∧ x.1 < 3 ∧ go j = some x.2.1.1 ∧ gt j = some x.2.2.1 ∧ NODE pn P f 0 x.2.1.1 x.2.1.2.1 x.2.1.2.2 ∧ NODE pn P f 0 x.2.2.1 x.2.2.2.1 x.2.2.2.2
def LACT (E : q_E) (pn R : Nat) (RS : Nat → q_S) (P : Nat → Prop) (f : q_H) : Nat → LT → Prop
  | 0, _ => False
  | d + 1, x => P x.1 ∧ ∃ do_ wh va sg on ot b el, f x.1 = some (cLA do_ wh va (some sg) (some on) (some ot) (some b) el) ∧
      ((∃ t i y D W, t < 2 ∧ i < pn ∧ do_ = nI t ∧ wh = nI i ∧ va = some y ∧ el = none ∧ NODE pn P f 1 y D W ∧ LB P E f (fun _ => False) b [] ∧ x.2 = (k_pour pn i (nI t) D, kt 6 ++ W ++ kt (11 + 2 * t) ++ pT i ++ kt (12 + 2 * t), 0)) ∨
       (∃ i y D W, i < pn ∧ do_ = 2 ∧ wh = nI i ∧ va = some y ∧ el = none ∧ NODE pn P f 1 y D W ∧ LB P E f (fun _ => False) b [] ∧ x.2 = (k_heat pn i D, kt 15 ++ pT i ++ kt 16 ++ W ++ kt 12, 0)) ∨
       (∃ i y D W, i < pn ∧ do_ = 3 ∧ wh = nI i ∧ va = some y ∧ el = none ∧ NODE pn P f 1 y D W ∧ LB P E f (fun _ => False) b [] ∧ x.2 = (k_boil pn i D, kt 17 ++ pT i ++ kt 18 ++ W ++ kt 19, 0)) ∨
       (∃ i, i < pn ∧ do_ = 4 ∧ wh = nI i ∧ va = none ∧ el = none ∧ LB P E f (fun _ => False) b [] ∧ x.2 = (k_empty pn i, kt 20 ++ pT i ++ kt 12, 0)) ∨
       (∃ i y D W, i < pn ∧ do_ = 5 ∧ wh = nI i ∧ va = some y ∧ el = none ∧ NODE pn P f 1 y D W ∧ LB P E f (fun _ => False) b [] ∧ x.2 = (k_rest pn D, kt 21 ++ W ++ kt 22, 0)) ∨
       (∃ i y D W, i < pn ∧ do_ = 6 ∧ wh = nI i ∧ va = some y ∧ el = none ∧ NODE pn P f 1 y D W ∧ LB P E f (fun _ => False) b [] ∧ x.2 = (k_note D, kt 23 ++ W ++ kt 12, 0)) ∨
       (∃ r, r < R ∧ do_ = 7 ∧ wh = nI r ∧ va = none ∧ el = none ∧ LB P E f (fun _ => False) b [] ∧ x.2 = (RS r, kt 24 ++ [nI (97 + r)] ++ kt 12, 0)) ∨
       (∃ i y D W L, i < pn ∧ do_ = 8 ∧ wh = nI i ∧ va = some y ∧ el = none ∧ NODE pn P f 1 y D W ∧ LB P E f (LACT E pn R RS P f d) b L ∧ x.2 = (k_again D (bS L), kt 25 ++ W ++ bT L, bC L)) ∨
       (∃ i L C, i < pn ∧ do_ = 9 ∧ wh = nI i ∧ va = none ∧ 1 ≤ C.length ∧ C.length ≤ 2 ∧ CMPS pn P E f sg on ot C ∧ LB P E f (LACT E pn R RS P f d) b L ∧
          ((el = none ∧ x.2 = (k_if (cC C.reverse) (bS L) k_nil, cV C ++ bT L, bC L)) ∨
           (∃ b2 L2, el = some b2 ∧ LB P E f (LACT E pn R RS P f d) b2 L2 ∧ x.2 = (k_if (cC C.reverse) (bS L) (bS L2), cV C ++ bT L ++ kt 28 ++ bT L2, bC L + bC L2)))))
theorem LB.to {P P' : Nat → Prop} {E : q_E} {f g : q_H} {A A' : LT → Prop} {b : Nat} {L : List LT} (h : ∀ q, P q → P' q ∧ g q = f q) (hA : ∀ x, A x → A' x) (r : LB P E f A b L) : LB P' E g A' b L := ⟨(h b r.1).1, (h b r.1).2.trans r.2.1, fun x hx => hA x (r.2.2 x hx)⟩
theorem CMPS.to {pn : Nat} {P P' : Nat → Prop} {E : q_E} {f g : q_H} {sg on ot : Nat} {L : List CT} (h : ∀ q, P q → P' q ∧ g q = f q) (r : CMPS pn P E f sg on ot L) : CMPS pn P' E g sg on ot L := by
  obtain ⟨gs, go, gt, p1, p2, p3, e1, e2, e3, r⟩ := r
  refine ⟨gs, go, gt, (h _ p1).1, (h _ p2).1, (h _ p3).1, (h _ p1).2.trans e1, (h _ p2).2.trans e2, (h _ p3).2.trans e3, fun j x hx => ?_⟩
  obtain ⟨a1, a2, a3, a4, a5, a6⟩ := r j x hx
  exact ⟨a1, a2, a3, a4, a5.to h, a6.to h⟩
theorem LACT.to {E : q_E} {pn R R' : Nat} {RS RS' : Nat → q_S} {P P' : Nat → Prop} {f g : q_H} (h : ∀ q, P q → P' q ∧ g q = f q) (hR : R ≤ R') (hRS : ∀ r, r < R → RS' r = RS r) : ∀ (d : Nat) (x : LT), LACT E pn R RS P f d x → LACT E pn R' RS' P' g d x
  | 0, _, r => r.elim
  | d + 1, x, r => by
    obtain ⟨hp, do_, wh, va, sg, on, ot, b, el, e, hc⟩ := r
    have lb0 := fun (z : LB P E f (fun _ => False) b []) => LB.to (g := g) h (fun _ h => h) z
    have lbd := fun b L (z : LB P E f (LACT E pn R RS P f d) b L) => LB.to (g := g) (P' := P') h (LACT.to h hR hRS d) z
    refine ⟨(h _ hp).1, do_, wh, va, sg, on, ot, b, el, (h _ hp).2.trans e, ?_⟩
    rcases hc with ⟨t, i, y, D, W, a1, a2, a3, a4, a5, a6, a7, a8, a9⟩ | ⟨i, y, D, W, a2, a3, a4, a5, a6, a7, a8, a9⟩ | ⟨i, y, D, W, a2, a3, a4, a5, a6, a7, a8, a9⟩ | ⟨i, a2, a3, a4, a5, a6, a8, a9⟩ | ⟨i, y, D, W, a2, a3, a4, a5, a6, a7, a8, a9⟩ | ⟨i, y, D, W, a2, a3, a4, a5, a6, a7, a8, a9⟩ | ⟨i, a2, a3, a4, a5, a6, a8, a9⟩ | ⟨i, y, D, W, L, a2, a3, a4, a5, a6, a7, a8, a9⟩ | ⟨i, L, C, a2, a3, a4, a5, a6, a7, a8, a9, a10⟩
    · exact Or.inl ⟨t, i, y, D, W, a1, a2, a3, a4, a5, a6, a7.to h, lb0 a8, a9⟩
    · exact Or.inr (Or.inl ⟨i, y, D, W, a2, a3, a4, a5, a6, a7.to h, lb0 a8, a9⟩)
    · exact Or.inr (Or.inr (Or.inl ⟨i, y, D, W, a2, a3, a4, a5, a6, a7.to h, lb0 a8, a9⟩))
    · exact Or.inr (Or.inr (Or.inr (Or.inl ⟨i, a2, a3, a4, a5, a6, lb0 a8, a9⟩)))
    · exact Or.inr (Or.inr (Or.inr (Or.inr (Or.inl ⟨i, y, D, W, a2, a3, a4, a5, a6, a7.to h, lb0 a8, a9⟩))))
    · exact Or.inr (Or.inr (Or.inr (Or.inr (Or.inr (Or.inl ⟨i, y, D, W, a2, a3, a4, a5, a6, a7.to h, lb0 a8, a9⟩)))))
    · exact Or.inr (Or.inr (Or.inr (Or.inr (Or.inr (Or.inr (Or.inl ⟨i, Nat.lt_of_lt_of_le a2 hR, a3, a4, a5, a6, lb0 a8, by rw [hRS i a2]; exact a9⟩))))))
    · exact Or.inr (Or.inr (Or.inr (Or.inr (Or.inr (Or.inr (Or.inr (Or.inl ⟨i, y, D, W, L, a2, a3, a4, a5, a6, a7.to h, lbd _ _ a8, a9⟩)))))))
    · refine Or.inr (Or.inr (Or.inr (Or.inr (Or.inr (Or.inr (Or.inr (Or.inr ⟨i, L, C, a2, a3, a4, a5, a6, a7, a8.to h, lbd _ _ a9, ?_⟩)))))))
      rcases a10 with a10 | ⟨b2, L2, c1, c2, c3⟩
      · exact Or.inl a10
      · exact Or.inr ⟨b2, L2, c1, lbd _ _ c2, c3⟩
theorem LACT.cell {E : q_E} {pn R : Nat} {RS : Nat → q_S} {P : Nat → Prop} {f : q_H} : ∀ {d : Nat} {x : LT}, LACT E pn R RS P f d x → ∃ do_ wh va sg on ot b el, f x.1 = some (cLA do_ wh va (some sg) (some on) (some ot) (some b) el)
  | 0, _, r => r.elim
  | _ + 1, _, ⟨_, do_, wh, va, sg, on, ot, b, el, e, _⟩ => ⟨do_, wh, va, sg, on, ot, b, el, e⟩
theorem lf_put {L : List LT} {x : LT} : va_up (lf L) L.length (some x.1) = lf (L ++ [x]) := by
  funext j
  unfold lf
  by_cases h : j = L.length
  · subst h
    rw [va_up_self, List.getElem?_append_right (Nat.le_refl _), Nat.sub_self]
    rfl
  · rw [va_up_ne _ _ h]
    rcases Nat.lt_or_ge j L.length with h1 | h1
    · rw [List.getElem?_append_left h1]
    · rw [List.getElem?_eq_none h1, List.getElem?_eq_none (by rw [List.length_append]; show L.length + 1 ≤ j; omega)]
theorem bC_app {L : List LT} {x : LT} : bC (L ++ [x]) = bC L + 1 + x.2.2.2 := by
  induction L with
  | nil => show 1 + x.2.2.2 + 0 = 0 + 1 + x.2.2.2; omega
  | cons y L ih => show 1 + y.2.2.2 + bC (L ++ [x]) = 1 + y.2.2.2 + bC L + 1 + x.2.2.2; omega
theorem bC_len : ∀ (L : List LT), L.length ≤ bC L
  | [] => Nat.le_refl _
  | x :: L => by have := bC_len L; show L.length + 1 ≤ 1 + x.2.2.2 + bC L; omega

set_option maxHeartbeats 4000000 in
set_option maxRecDepth 100000 in
theorem kX13_init (l : Launch) (E : q_E) (f : q_H) (n : Nat) (a : Nat) (h0 : f a = some (cLA 0 0 none none none none none none)) : Met l yX13_init wsX13_init ({ frames := 1, cells := 4, slots := 0, locals := 20 }) (q_P E [.ref a] f n) (q_Qv E (fun f1 n1 => f1 a = some (cLA 0 0 none (some n) (some (n + 1)) (some (n + 2)) (some (n + 3)) none) ∧ f1 n = some (aI E 0 (fun _ => 0)) ∧ f1 (n + 1) = some (aQ E 7 0 (fun _ => none)) ∧ f1 (n + 2) = some (aQ E 7 0 (fun _ => none)) ∧ f1 (n + 3) = some (aQ E 6 0 (fun _ => none)) ∧ n1 = n + 4 ∧ ∀ z9, z9 ≠ a → z9 < n → f1 z9 = f z9)) 4 0 (q_ge E) := by
  refine Met.ofW (cc := cX13_init) (maxL := 1) (ret := none) (by decide) rfl ?_
  intro p0_ e0_ s0_ m0_ args0_ below0_ meth0_ c0_ s1_ B hml hv
  obtain ⟨rfl, hA, hW⟩ := hv
  have hx := B.exec
  have hb := B.bytes
  have hr := B.returns
  have hts := atoms_spec (ws := wsX13_init) B.pre
  have hown : s0_.vm.findClass RX13 = some m0_.cls := findClass_of_methodNamed B.named
  have hlocks := B.notSynchronized
  have hin : meth0_.name = "<init>" := (name_of_methodNamed B.named B.method).1
  have hS : va_S (q_ge E) s0_.heap s0_.heap [] := va_S.rf
  have iX13 : ∀ w ∈ wsX130, w ∈ wsX13_init := by decide +kernel
  have hl := lv_entry ([.ref a]) (n := 1) (Nat.le_of_ble_eq_true rfl)
  rw [lg_entry_eq]
  generalize (lg_sl ([.ref a]) ++ List.replicate (1 - (lg_sl ([.ref a])).length) Slot.unset).toArray = ls at hl ⊢
  have hl : lv_has ls 1 [(0, .ref a)] := hl
  have l_h0 := hW.lt h0
  refine lv_aload_n hx hb dX13_init_0 rfl (lv_at hl 0 rfl) ?_
  refine w_objInit hx hb hown (hts (.methodLink RX13 1 objectInit) (by decide +kernel)) (hts (.instanceMethod objectInit) (by decide +kernel)) (hts (.code objectInit ⟨#[0xb1]⟩ 1 none) (by decide +kernel)) rfl (hl.1.trans hml.symm) rfl dX13_init_1 (Nat.le_of_ble_eq_true rfl) (Nat.le_of_ble_eq_true rfl) ?_
  refine lv_aload_n hx hb dX13_init_4 rfl (lv_at hl 0 rfl) ?_
  refine lv_iconst (v := 0) hx hb dX13_init_5 (by rfl) ?_
  refine q_newa (atype := .int) hx hb hA hW hS (hts (.arrayClass .int) (by decide +kernel)) (ty := .int) rfl 0 rfl (fun C h9 => by cases h9) (N' := 0) (a0 := (0, .inl (fun _ => 0))) (fun _ => rfl) (by decide) (by decide) (Nat.le_of_ble_eq_true rfl) (Nat.le_of_ble_eq_true rfl) (Nat.le_of_ble_eq_true rfl) dX13_init_6 (fun H hW hS => ?_)
  have hW : q_W E (va_up f n (some (aI E 0 (fun _ => 0)))) (n + 1) H := hW
  refine q_put hx hb hts hown hA hW hS iX13 tyX13 tyX13_ok nmX13 (q_ne (by omega) h0) rfl 3 (by decide) (hts (.fieldLink RX13 7 "HighRecipesLaw$Act" "signs" "[I") (by decide +kernel)) (fun _ h9 => h9) rfl rfl rfl (Nat.le_of_ble_eq_true rfl) dX13_init_8 (fun H locs hW hS => ?_)
  have hW : q_W E (va_up (va_up f n (some (aI E 0 (fun _ => 0)))) a (some (cLA 0 0 none (some n) none none none none))) (n + 1) H := hW
  refine lv_aload_n hx hb dX13_init_11 rfl (lv_at hl 0 rfl) ?_
  refine lv_iconst (v := 0) hx hb dX13_init_12 (by rfl) ?_
  refine q_newq hx hb hown hA hW hS (hts (.classLink RX13 13 "HighRecipesLaw$Node") (by decide +kernel)) (hA.2.2.2.2.2.2.2.1 "HighRecipesLaw$Node" (by decide +kernel)) 7 rfl (N' := 0) (by decide) (by decide) (Nat.le_of_ble_eq_true rfl) (Nat.le_of_ble_eq_true rfl) (Nat.le_of_ble_eq_true rfl) dX13_init_13 (fun H hW hS => ?_)
  have hW : q_W E (va_up (va_up (va_up f n (some (aI E 0 (fun _ => 0)))) a (some (cLA 0 0 none (some n) none none none none))) (n + 1) (some (aQ E 7 0 (fun _ => none)))) (n + 1 + 1) H := hW
  refine q_put hx hb hts hown hA hW hS iX13 tyX13 tyX13_ok nmX13 (q_ne (by omega) q_eq) rfl 4 (by decide) (hts (.fieldLink RX13 15 "HighRecipesLaw$Act" "ones" "[LHighRecipesLaw$Node;") (by decide +kernel)) (fun _ h9 => h9) rfl rfl rfl (Nat.le_of_ble_eq_true rfl) dX13_init_16 (fun H locs hW hS => ?_)
  have hW : q_W E (va_up (va_up (va_up (va_up f n (some (aI E 0 (fun _ => 0)))) a (some (cLA 0 0 none (some n) none none none none))) (n + 1) (some (aQ E 7 0 (fun _ => none)))) a (some (cLA 0 0 none (some n) (some (n + 1)) none none none))) (n + 2) H := hW
  refine lv_aload_n hx hb dX13_init_19 rfl (lv_at hl 0 rfl) ?_
  refine lv_iconst (v := 0) hx hb dX13_init_20 (by rfl) ?_
  refine q_newq hx hb hown hA hW hS (hts (.classLink RX13 13 "HighRecipesLaw$Node") (by decide +kernel)) (hA.2.2.2.2.2.2.2.1 "HighRecipesLaw$Node" (by decide +kernel)) 7 rfl (N' := 0) (by decide) (by decide) (Nat.le_of_ble_eq_true rfl) (Nat.le_of_ble_eq_true rfl) (Nat.le_of_ble_eq_true rfl) dX13_init_21 (fun H hW hS => ?_)
  have hW : q_W E (va_up (va_up (va_up (va_up (va_up f n (some (aI E 0 (fun _ => 0)))) a (some (cLA 0 0 none (some n) none none none none))) (n + 1) (some (aQ E 7 0 (fun _ => none)))) a (some (cLA 0 0 none (some n) (some (n + 1)) none none none))) (n + 2) (some (aQ E 7 0 (fun _ => none)))) (n + 2 + 1) H := hW
  refine q_put hx hb hts hown hA hW hS iX13 tyX13 tyX13_ok nmX13 (q_ne (by omega) q_eq) rfl 5 (by decide) (hts (.fieldLink RX13 19 "HighRecipesLaw$Act" "others" "[LHighRecipesLaw$Node;") (by decide +kernel)) (fun _ h9 => h9) rfl rfl rfl (Nat.le_of_ble_eq_true rfl) dX13_init_24 (fun H locs hW hS => ?_)
  have hW : q_W E (va_up (va_up (va_up (va_up (va_up (va_up f n (some (aI E 0 (fun _ => 0)))) a (some (cLA 0 0 none (some n) none none none none))) (n + 1) (some (aQ E 7 0 (fun _ => none)))) a (some (cLA 0 0 none (some n) (some (n + 1)) none none none))) (n + 2) (some (aQ E 7 0 (fun _ => none)))) a (some (cLA 0 0 none (some n) (some (n + 1)) (some (n + 2)) none none))) (n + 3) H := hW
  refine lv_aload_n hx hb dX13_init_27 rfl (lv_at hl 0 rfl) ?_
  refine lv_iconst (v := 0) hx hb dX13_init_28 (by rfl) ?_
  refine q_newq hx hb hown hA hW hS (hts (.classLink RX13 8 "HighRecipesLaw$Act") (by decide +kernel)) (hA.2.2.2.2.2.2.2.1 "HighRecipesLaw$Act" (by decide +kernel)) 6 rfl (N' := 0) (by decide) (by decide) (Nat.le_of_ble_eq_true rfl) (Nat.le_of_ble_eq_true rfl) (Nat.le_of_ble_eq_true rfl) dX13_init_29 (fun H hW hS => ?_)
  have hW : q_W E (va_up (va_up (va_up (va_up (va_up (va_up (va_up f n (some (aI E 0 (fun _ => 0)))) a (some (cLA 0 0 none (some n) none none none none))) (n + 1) (some (aQ E 7 0 (fun _ => none)))) a (some (cLA 0 0 none (some n) (some (n + 1)) none none none))) (n + 2) (some (aQ E 7 0 (fun _ => none)))) a (some (cLA 0 0 none (some n) (some (n + 1)) (some (n + 2)) none none))) (n + 3) (some (aQ E 6 0 (fun _ => none)))) (n + 3 + 1) H := hW
  refine q_put hx hb hts hown hA hW hS iX13 tyX13 tyX13_ok nmX13 (q_ne (by omega) q_eq) rfl 6 (by decide) (hts (.fieldLink RX13 22 "HighRecipesLaw$Act" "block" "[LHighRecipesLaw$Act;") (by decide +kernel)) (fun _ h9 => h9) rfl rfl rfl (Nat.le_of_ble_eq_true rfl) dX13_init_32 (fun H locs hW hS => ?_)
  have hW : q_W E (va_up (va_up (va_up (va_up (va_up (va_up (va_up (va_up f n (some (aI E 0 (fun _ => 0)))) a (some (cLA 0 0 none (some n) none none none none))) (n + 1) (some (aQ E 7 0 (fun _ => none)))) a (some (cLA 0 0 none (some n) (some (n + 1)) none none none))) (n + 2) (some (aQ E 7 0 (fun _ => none)))) a (some (cLA 0 0 none (some n) (some (n + 1)) (some (n + 2)) none none))) (n + 3) (some (aQ E 6 0 (fun _ => none)))) a (some (cLA 0 0 none (some n) (some (n + 1)) (some (n + 2)) (some (n + 3)) none))) (n + 4) H := hW
  exact q_vret hx hb hr hlocks hW hS ⟨q_eq, (q_ne (by omega) (q_ne (by omega) (q_ne (by omega) (q_ne (by omega) (q_ne (by omega) (q_ne (by omega) (q_ne (by omega) q_eq))))))), (q_ne (by omega) (q_ne (by omega) (q_ne (by omega) (q_ne (by omega) (q_ne (by omega) q_eq))))), (q_ne (by omega) (q_ne (by omega) (q_ne (by omega) q_eq))), (q_ne (by omega) q_eq), rfl, (fun q g0 g1 => (q_ne (by omega) (q_ne (by omega) (q_ne (by omega) (q_ne (by omega) (q_ne (by omega) (q_ne (by omega) (q_ne (by omega) (q_ne (by omega) rfl)))))))))⟩ (Nat.le_of_ble_eq_true rfl) (Nat.le_of_ble_eq_true rfl) dX13_init_35

set_option maxHeartbeats 4000000 in
set_option maxRecDepth 100000 in
theorem kX13_drawn_3 (l : Launch) (E : q_E) (f : q_H) (n : Nat) (r la pn R q : Nat) (RS : Nat → q_S) (s : Int32) (g : Nat → Int32) (h0 : f r = some (cDice s)) (h1 : f la = some (aI E 1 g)) (hp1 : 1 ≤ pn) (hp2 : pn ≤ 8) (hR : R ≤ 6) (hq : q ≤ 100) (hg : g 0 = nI q) : Met l yX13_drawn wsX13_drawn ({ frames := 10, cells := 15, slots := 42, locals := 300 }) (q_P E [.ref r, .int (nI pn), .int (nI R), .int 3, .ref la] f n) (q_Qq E (fun r0 f1 n1 => ∃ (a : Nat) (S : q_S) (V : List Int32) (c : Nat) (s1 : Int32) (g1 : Nat → Int32), some a = r0 ∧ f1 r = some (cDice s1) ∧ f1 la = some (aI E 1 g1) ∧ c ≤ q ∧ g1 0 = nI (q - c) ∧ n ≤ n1 ∧ LACT E pn R RS (fun q => n ≤ q ∧ q < n1) f1 1 (a, S, V, c) ∧ ∀ z9, z9 ≠ r → z9 ≠ la → z9 < n → f1 z9 = f z9)) 15 42 (q_ge E) := by
  refine Met.ofW (cc := cX13_drawn) (maxL := 9) (ret := (some (.object "HighRecipesLaw$Act"))) (by decide) rfl ?_
  intro p0_ e0_ s0_ m0_ args0_ below0_ meth0_ c0_ s1_ B hml hv
  obtain ⟨rfl, hA, hW⟩ := hv
  have hx := B.exec
  have hb := B.bytes
  have hr := B.returns
  have hts := atoms_spec (ws := wsX13_drawn) B.pre
  have hown : s0_.vm.findClass RX13 = some m0_.cls := findClass_of_methodNamed B.named
  have hlocks := B.notSynchronized
  have hS : va_S (q_ge E) s0_.heap s0_.heap [] := va_S.rf
  have iX13 : ∀ w ∈ wsX130, w ∈ wsX13_drawn := by decide +kernel
  have hl := lv_entry ([.ref r, .int (nI pn), .int (nI R), .int 3, .ref la]) (n := 9) (Nat.le_of_ble_eq_true rfl)
  rw [lg_entry_eq]
  generalize (lg_sl ([.ref r, .int (nI pn), .int (nI R), .int 3, .ref la]) ++ List.replicate (9 - (lg_sl ([.ref r, .int (nI pn), .int (nI R), .int 3, .ref la])).length) Slot.unset).toArray = ls at hl ⊢
  have hl : lv_has ls 9 [(0, .ref r), (1, .int (nI pn)), (2, .int (nI R)), (3, .int 3), (4, .ref la)] := hl
  have l_h0 := hW.lt h0
  have l_h1 := hW.lt h1
  have hrl := ne_ab h0 h1
  refine q_new (ci := 13) hx hb hts hown hA hW hS iX13 tyX13 tyX13_ok (hts (.classLink RX13 8 RX13) (by decide +kernel)) (hts (.instantiable RX13 8) (by decide +kernel)) (hts (.initialized RX13) (by decide +kernel)) rfl (fs := [.int 0, .int 0, .null, .null, .null, .null, .null, .null]) (by decide) (by show _ ≤ 15; omega) (by show _ ≤ 42; omega) dX13_drawn_0 (fun H hW hS => ?_)
  have hW : q_W E (va_up f n (some (cLA 0 0 none none none none none none))) (n + 1) H := hW
  refine lv_dup hx hb dX13_drawn_3 rfl ?_
  refine q_cv (va_runI (As := []) (rest := [.ref n]) ⟨hx, hb, hml, hown, hts⟩ (kX13_init l E (va_up f n (some (cLA 0 0 none none none none none none))) (n + 1) n q_eq) (cwI 0 hts gX13_drawn_X13_init rfl rfl rfl (hts (.initialized RX13) (by decide +kernel)) (hts (.methodLink RX13 36 yX13_init) (by decide +kernel)) (hts (.instanceMethod yX13_init) (by decide +kernel)) rfl (by decide +kernel) ⟨(Nat.le_of_ble_eq_true rfl), (Nat.le_of_ble_eq_true rfl)⟩) (q_pS hA hW hS) rfl rfl hl.1 rfl (lv_room (Nat.le_of_ble_eq_true rfl)) dX13_drawn_4 ⟨(by show _ ≤ 15; omega), (by show _ ≤ 42; omega)⟩) hS (fun f_4 n_4 H locs hp hW hS => ?_)
  obtain ⟨e0_4, e1_4, e2_4, e3_4, e4_4, en_4, hfr_4⟩ := hp
  have l_e0_4 := hW.lt e0_4
  have l_e1_4 := hW.lt e1_4
  have l_e2_4 := hW.lt e2_4
  have l_e3_4 := hW.lt e3_4
  have l_e4_4 := hW.lt e4_4
  have hr_4 : f_4 r = some (cDice s) := (hfr_4 _ (by omega) (by omega)).trans (q_ne (by omega) h0)
  have hla_4 : f_4 la = some (aI E 1 g) := (hfr_4 _ (by omega) (by omega)).trans (q_ne (by omega) h1)
  refine lv_astore (lv' := [(5, .ref n), (0, .ref r), (1, .int (nI pn)), (2, .int (nI R)), (3, .int 3), (4, .ref la)]) hx hb dX13_drawn_7 hl (by decide) rfl (fun ls hl => ?_)
  refine lv_aload_n hx hb dX13_drawn_9 rfl (lv_at hl 1 rfl) ?_
  refine lv_iload_n hx hb dX13_drawn_10 rfl (lv_at hl 4 rfl) ?_
  refine lv_iconst (v := 3) hx hb dX13_drawn_11 (by decide) ?_
  refine lv_icmp_ge (tgt := 20) hx hb dX13_drawn_12 (by decide) (fun c_12 => ?_) (fun c_12 => absurd c_12 (by decide))
  refine lv_bipush (v := 12) hx hb dX13_drawn_20 (by decide) ?_
  refine q_ci (va_runV (As := [.int 12]) (rest := []) ⟨hx, hb, hml, hown, hts⟩ (kX14_next l E f_4 n_4 r 12 s hr_4 (by decide) (by decide)) (cwV 1 hts gX13_drawn_X14_next rfl rfl rfl (by decide +kernel) ⟨(Nat.le_of_ble_eq_true rfl), (Nat.le_of_ble_eq_true rfl)⟩) (q_pV hA hW hS (ci := 14) rfl hr_4) rfl rfl hl.1 rfl (lv_room (Nat.le_of_ble_eq_true rfl)) dX13_drawn_22 ⟨(by show _ ≤ 15; omega), (by show _ ≤ 42; omega)⟩) hS (fun r_22 f_22 n_22 H locs hp hW hS => ?_)
  obtain ⟨j_22, s1_22, rfl, e0_22, ej_22, en_22, hfr_22⟩ := hp
  have l_e0_22 := hW.lt e0_22
  have hla_22 : f_22 la = some (aI E 1 g) := (hfr_22 _ (by omega)).trans hla_4
  have hn_22 : f_22 n = some (cLA 0 0 none (some (n + 1)) (some ((n + 1) + 1)) (some ((n + 1) + 2)) (some ((n + 1) + 3)) none) := (hfr_22 _ (by omega)).trans e0_4
  have hn___1_22 : f_22 (n + 1) = some (aI E 0 (fun _ => 0)) := (hfr_22 _ (by omega)).trans e1_4
  have hn___2_22 : f_22 (n + 2) = some (aQ E 7 0 (fun _ => none)) := (hfr_22 _ (by omega)).trans e2_4
  have hn___3_22 : f_22 (n + 3) = some (aQ E 7 0 (fun _ => none)) := (hfr_22 _ (by omega)).trans e3_4
  have hn___4_22 : f_22 (n + 4) = some (aQ E 6 0 (fun _ => none)) := (hfr_22 _ (by omega)).trans e4_4
  refine lv_istore (lv' := [(6, .int (nI j_22)), (5, .ref n), (0, .ref r), (1, .int (nI pn)), (2, .int (nI R)), (3, .int 3), (4, .ref la)]) hx hb dX13_drawn_25 hl (by decide) rfl (fun ls hl => ?_)
  refine lv_aload hx hb dX13_drawn_27 (lv_at hl 1 rfl) ?_
  refine lv_iload hx hb dX13_drawn_29 (lv_at hl 0 rfl) ?_
  refine lv_iconst (v := 3) hx hb dX13_drawn_31 (by decide) ?_
  refine lv_icmp_ge (tgt := 39) hx hb dX13_drawn_32 (by decide) (fun c_32 => ?_) (fun c_32 => ?_)
  · have g32 : 3 ≤ j_22 := q_leN (a := 3) (b := j_22) (by decide) c_32 (by omega)
    refine lv_iload hx hb dX13_drawn_39 (lv_at hl 0 rfl) ?_
    refine lv_iconst (v := 5) hx hb dX13_drawn_41 (by decide) ?_
    refine lv_icmp_ge (tgt := 49) hx hb dX13_drawn_42 (by decide) (fun c_42 => ?_) (fun c_42 => ?_)
    · have g42 : 5 ≤ j_22 := q_leN (a := 5) (b := j_22) (by decide) c_42 (by omega)
      refine lv_iload hx hb dX13_drawn_49 (lv_at hl 0 rfl) ?_
      refine lv_bipush (v := 7) hx hb dX13_drawn_51 (by decide) ?_
      refine lv_icmp_ge (tgt := 60) hx hb dX13_drawn_53 (by decide) (fun c_53 => ?_) (fun c_53 => ?_)
      · have g53 : 7 ≤ j_22 := q_leN (a := 7) (b := j_22) (by decide) c_53 (by omega)
        refine lv_iload hx hb dX13_drawn_60 (lv_at hl 0 rfl) ?_
        refine lv_bipush (v := 9) hx hb dX13_drawn_62 (by decide) ?_
        refine lv_icmp_ge (tgt := 71) hx hb dX13_drawn_64 (by decide) (fun c_64 => ?_) (fun c_64 => ?_)
        · have g64 : 9 ≤ j_22 := q_leN (a := 9) (b := j_22) (by decide) c_64 (by omega)
          refine lv_iload hx hb dX13_drawn_71 (lv_at hl 0 rfl) ?_
          refine lv_bipush (v := 12) hx hb dX13_drawn_73 (by decide) ?_
          refine lv_icmp_ge (tgt := 85) hx hb dX13_drawn_75 (by decide) (fun c_75 => False.elim ((fun h9 => nI_ge (b := 12) ej_22 (by decide) h9) c_75)) (fun c_75 => ?_)
          refine lv_iload hx hb dX13_drawn_78 (lv_at hl 0 rfl) ?_
          refine lv_iconst (v := 5) hx hb dX13_drawn_80 (by decide) ?_
          refine lv_isub hx hb dX13_drawn_81 ?_
          rcases (show j_22 = 9 ∨ j_22 = 10 ∨ j_22 = 11 by omega) with hjv | hjv | hjv
          · rw [show nI j_22 - 5 = 4 from by rw [hjv]; decide]
            refine lv_goto (tgt := 109) hx hb dX13_drawn_82 (by decide) ?_
            refine q_put hx hb hts hown hA hW hS iX13 tyX13 tyX13_ok nmX13 hn_22 rfl 0 (by decide) (hts (.fieldLink RX13 37 "HighRecipesLaw$Act" "does" "I") (by decide +kernel)) (fun _ h9 => h9) rfl rfl rfl (Nat.le_of_ble_eq_true rfl) dX13_drawn_109 (fun H locs hW hS => ?_)
            have hW : q_W E (va_up f_22 n (some (cLA 4 0 none (some (n + 1)) (some ((n + 1) + 1)) (some ((n + 1) + 2)) (some ((n + 1) + 3)) none))) n_22 H := hW
            refine lv_aload hx hb dX13_drawn_112 (lv_at hl 1 rfl) ?_
            refine lv_aload hx hb dX13_drawn_114 (lv_at hl 1 rfl) ?_
            refine q_get hx hb hts hown hA hW iX13 q_eq rfl 0 (by decide) (hts (.fieldLink RX13 37 "HighRecipesLaw$Act" "does" "I") (by decide +kernel)) (fun _ h9 => h9) (v := .int 4) rfl dX13_drawn_116 ?_
            refine lv_bipush (v := 7) hx hb dX13_drawn_119 (by decide) ?_
            refine lv_icmp_ne (tgt := 132) hx hb dX13_drawn_121 (by decide) (fun c_121 => ?_) (fun c_121 => absurd c_121 (by decide))
            refine lv_aload_n hx hb dX13_drawn_132 rfl (lv_at hl 2 rfl) ?_
            refine lv_iload_n hx hb dX13_drawn_133 rfl (lv_at hl 3 rfl) ?_
            refine q_ci (va_runV (As := [.int (nI pn)]) (rest := [.ref n]) ⟨hx, hb, hml, hown, hts⟩ (kX14_next l E (va_up f_22 n (some (cLA 4 0 none (some (n + 1)) (some ((n + 1) + 1)) (some ((n + 1) + 2)) (some ((n + 1) + 3)) none))) n_22 r pn s1_22 (q_ne (by omega) e0_22) (by omega) (by omega)) (cwV 1 hts gX13_drawn_X14_next rfl rfl rfl (by decide +kernel) ⟨(Nat.le_of_ble_eq_true rfl), (Nat.le_of_ble_eq_true rfl)⟩) (q_pV hA hW hS (ci := 14) rfl (q_ne (by omega) e0_22)) rfl rfl hl.1 rfl (lv_room (Nat.le_of_ble_eq_true rfl)) dX13_drawn_134 ⟨(by show _ ≤ 15; omega), (by show _ ≤ 42; omega)⟩) hS (fun r_134 f_134 n_134 H locs hp hW hS => ?_)
            obtain ⟨j_134, s1_134, rfl, e0_134, ej_134, en_134, hfr_134⟩ := hp
            have l_e0_134 := hW.lt e0_134
            have hla_134 : f_134 la = some (aI E 1 g) := (hfr_134 _ (by omega)).trans (q_ne (by omega) hla_22)
            have hn_134 : f_134 n = some (cLA 4 0 none (some (n + 1)) (some ((n + 1) + 1)) (some ((n + 1) + 2)) (some ((n + 1) + 3)) none) := (hfr_134 _ (by omega)).trans q_eq
            have hn___1_134 : f_134 (n + 1) = some (aI E 0 (fun _ => 0)) := (hfr_134 _ (by omega)).trans (q_ne (by omega) hn___1_22)
            have hn___2_134 : f_134 (n + 2) = some (aQ E 7 0 (fun _ => none)) := (hfr_134 _ (by omega)).trans (q_ne (by omega) hn___2_22)
            have hn___3_134 : f_134 (n + 3) = some (aQ E 7 0 (fun _ => none)) := (hfr_134 _ (by omega)).trans (q_ne (by omega) hn___3_22)
            have hn___4_134 : f_134 (n + 4) = some (aQ E 6 0 (fun _ => none)) := (hfr_134 _ (by omega)).trans (q_ne (by omega) hn___4_22)
            refine q_put hx hb hts hown hA hW hS iX13 tyX13 tyX13_ok nmX13 hn_134 rfl 1 (by decide) (hts (.fieldLink RX13 41 "HighRecipesLaw$Act" "whom" "I") (by decide +kernel)) (fun _ h9 => h9) rfl rfl rfl (Nat.le_of_ble_eq_true rfl) dX13_drawn_137 (fun H locs hW hS => ?_)
            have hW : q_W E (va_up f_134 n (some (cLA 4 (nI j_134) none (some (n + 1)) (some ((n + 1) + 1)) (some ((n + 1) + 2)) (some ((n + 1) + 3)) none))) n_134 H := hW
            refine lv_aload hx hb dX13_drawn_140 (lv_at hl 1 rfl) ?_
            refine q_get hx hb hts hown hA hW iX13 q_eq rfl 0 (by decide) (hts (.fieldLink RX13 37 "HighRecipesLaw$Act" "does" "I") (by decide +kernel)) (fun _ h9 => h9) (v := .int 4) rfl dX13_drawn_142 ?_
            refine lv_iconst (v := 2) hx hb dX13_drawn_145 (by decide) ?_
            refine lv_icmp_lt (tgt := 168) hx hb dX13_drawn_146 (by decide) (fun c_146 => absurd c_146 (by decide)) (fun c_146 => ?_)
            refine lv_aload hx hb dX13_drawn_149 (lv_at hl 1 rfl) ?_
            refine q_get hx hb hts hown hA hW iX13 q_eq rfl 0 (by decide) (hts (.fieldLink RX13 37 "HighRecipesLaw$Act" "does" "I") (by decide +kernel)) (fun _ h9 => h9) (v := .int 4) rfl dX13_drawn_151 ?_
            refine lv_iconst (v := 5) hx hb dX13_drawn_154 (by decide) ?_
            refine lv_icmp_eq (tgt := 168) hx hb dX13_drawn_155 (by decide) (fun c_155 => absurd c_155 (by decide)) (fun c_155 => ?_)
            refine lv_aload hx hb dX13_drawn_158 (lv_at hl 1 rfl) ?_
            refine q_get hx hb hts hown hA hW iX13 q_eq rfl 0 (by decide) (hts (.fieldLink RX13 37 "HighRecipesLaw$Act" "does" "I") (by decide +kernel)) (fun _ h9 => h9) (v := .int 4) rfl dX13_drawn_160 ?_
            refine lv_bipush (v := 6) hx hb dX13_drawn_163 (by decide) ?_
            refine lv_icmp_ne (tgt := 184) hx hb dX13_drawn_165 (by decide) (fun c_165 => ?_) (fun c_165 => absurd c_165 (by decide))
            refine lv_aload hx hb dX13_drawn_184 (lv_at hl 1 rfl) ?_
            refine q_get hx hb hts hown hA hW iX13 q_eq rfl 0 (by decide) (hts (.fieldLink RX13 37 "HighRecipesLaw$Act" "does" "I") (by decide +kernel)) (fun _ h9 => h9) (v := .int 4) rfl dX13_drawn_186 ?_
            refine lv_iconst (v := 2) hx hb dX13_drawn_189 (by decide) ?_
            refine lv_icmp_ne (tgt := 210) hx hb dX13_drawn_190 (by decide) (fun c_190 => ?_) (fun c_190 => absurd c_190 (by decide))
            refine lv_aload hx hb dX13_drawn_210 (lv_at hl 1 rfl) ?_
            refine q_get hx hb hts hown hA hW iX13 q_eq rfl 0 (by decide) (hts (.fieldLink RX13 37 "HighRecipesLaw$Act" "does" "I") (by decide +kernel)) (fun _ h9 => h9) (v := .int 4) rfl dX13_drawn_212 ?_
            refine lv_iconst (v := 3) hx hb dX13_drawn_215 (by decide) ?_
            refine lv_icmp_ne (tgt := 235) hx hb dX13_drawn_216 (by decide) (fun c_216 => ?_) (fun c_216 => absurd c_216 (by decide))
            refine lv_aload hx hb dX13_drawn_235 (lv_at hl 1 rfl) ?_
            refine q_get hx hb hts hown hA hW iX13 q_eq rfl 0 (by decide) (hts (.fieldLink RX13 37 "HighRecipesLaw$Act" "does" "I") (by decide +kernel)) (fun _ h9 => h9) (v := .int 4) rfl dX13_drawn_237 ?_
            refine lv_bipush (v := 8) hx hb dX13_drawn_240 (by decide) ?_
            refine lv_icmp_ne (tgt := 283) hx hb dX13_drawn_242 (by decide) (fun c_242 => ?_) (fun c_242 => absurd c_242 (by decide))
            refine lv_aload hx hb dX13_drawn_283 (lv_at hl 1 rfl) ?_
            refine q_get hx hb hts hown hA hW iX13 q_eq rfl 0 (by decide) (hts (.fieldLink RX13 37 "HighRecipesLaw$Act" "does" "I") (by decide +kernel)) (fun _ h9 => h9) (v := .int 4) rfl dX13_drawn_285 ?_
            refine lv_bipush (v := 9) hx hb dX13_drawn_288 (by decide) ?_
            refine lv_icmp_ne (tgt := 392) hx hb dX13_drawn_290 (by decide) (fun c_290 => ?_) (fun c_290 => absurd c_290 (by decide))
            refine lv_aload hx hb dX13_drawn_392 (lv_at hl 1 rfl) ?_
            refine q_get hx hb hts hown hA hW iX13 q_eq rfl 0 (by decide) (hts (.fieldLink RX13 37 "HighRecipesLaw$Act" "does" "I") (by decide +kernel)) (fun _ h9 => h9) (v := .int 4) rfl dX13_drawn_394 ?_
            refine lv_bipush (v := 7) hx hb dX13_drawn_397 (by decide) ?_
            refine lv_icmp_le (tgt := 418) hx hb dX13_drawn_399 (by decide) (fun c_399 => ?_) (fun c_399 => absurd c_399 (by decide))
            refine lv_aload hx hb dX13_drawn_418 (lv_at hl 1 rfl) ?_
            refine q_get hx hb hts hown hA hW iX13 q_eq rfl 0 (by decide) (hts (.fieldLink RX13 37 "HighRecipesLaw$Act" "does" "I") (by decide +kernel)) (fun _ h9 => h9) (v := .int 4) rfl dX13_drawn_420 ?_
            refine lv_bipush (v := 9) hx hb dX13_drawn_423 (by decide) ?_
            refine lv_icmp_ne (tgt := 452) hx hb dX13_drawn_425 (by decide) (fun c_425 => ?_) (fun c_425 => absurd c_425 (by decide))
            refine lv_aload hx hb dX13_drawn_452 (lv_at hl 1 rfl) ?_
            exact q_aret (v := some n) hx hb hr (Or.inl ⟨_, rfl⟩) hlocks hW hS ⟨n, (k_empty pn j_134), (kt 20 ++ pT j_134 ++ kt 12), 0, s1_134, g, rfl, (q_ne (by omega) e0_134), (q_ne (by omega) hla_134), (Nat.zero_le _), hg, (by omega), (⟨⟨by omega, by omega⟩, _, _, _, _, _, _, _, _, q_eq, Or.inr (Or.inr (Or.inr (Or.inl ⟨j_134, ej_134, rfl, rfl, rfl, rfl, ⟨⟨by omega, by omega⟩, (show _ = some (aQ E 6 0 (lf [])) from (q_ne (by omega) hn___4_134)), fun x hx => absurd hx List.not_mem_nil⟩, rfl⟩)))⟩), (fun q g0 g1 g2 => (q_ne (by omega) ((hfr_134 _ (by omega)).trans (q_ne (by omega) ((hfr_22 _ (by omega)).trans ((hfr_4 _ (by omega) (by omega)).trans (q_ne (by omega) rfl)))))))⟩ (by show _ ≤ 15; omega) (by show _ ≤ 42; omega) dX13_drawn_454
          · rw [show nI j_22 - 5 = 5 from by rw [hjv]; decide]
            refine lv_goto (tgt := 109) hx hb dX13_drawn_82 (by decide) ?_
            refine q_put hx hb hts hown hA hW hS iX13 tyX13 tyX13_ok nmX13 hn_22 rfl 0 (by decide) (hts (.fieldLink RX13 37 "HighRecipesLaw$Act" "does" "I") (by decide +kernel)) (fun _ h9 => h9) rfl rfl rfl (Nat.le_of_ble_eq_true rfl) dX13_drawn_109 (fun H locs hW hS => ?_)
            have hW : q_W E (va_up f_22 n (some (cLA 5 0 none (some (n + 1)) (some ((n + 1) + 1)) (some ((n + 1) + 2)) (some ((n + 1) + 3)) none))) n_22 H := hW
            refine lv_aload hx hb dX13_drawn_112 (lv_at hl 1 rfl) ?_
            refine lv_aload hx hb dX13_drawn_114 (lv_at hl 1 rfl) ?_
            refine q_get hx hb hts hown hA hW iX13 q_eq rfl 0 (by decide) (hts (.fieldLink RX13 37 "HighRecipesLaw$Act" "does" "I") (by decide +kernel)) (fun _ h9 => h9) (v := .int 5) rfl dX13_drawn_116 ?_
            refine lv_bipush (v := 7) hx hb dX13_drawn_119 (by decide) ?_
            refine lv_icmp_ne (tgt := 132) hx hb dX13_drawn_121 (by decide) (fun c_121 => ?_) (fun c_121 => absurd c_121 (by decide))
            refine lv_aload_n hx hb dX13_drawn_132 rfl (lv_at hl 2 rfl) ?_
            refine lv_iload_n hx hb dX13_drawn_133 rfl (lv_at hl 3 rfl) ?_
            refine q_ci (va_runV (As := [.int (nI pn)]) (rest := [.ref n]) ⟨hx, hb, hml, hown, hts⟩ (kX14_next l E (va_up f_22 n (some (cLA 5 0 none (some (n + 1)) (some ((n + 1) + 1)) (some ((n + 1) + 2)) (some ((n + 1) + 3)) none))) n_22 r pn s1_22 (q_ne (by omega) e0_22) (by omega) (by omega)) (cwV 1 hts gX13_drawn_X14_next rfl rfl rfl (by decide +kernel) ⟨(Nat.le_of_ble_eq_true rfl), (Nat.le_of_ble_eq_true rfl)⟩) (q_pV hA hW hS (ci := 14) rfl (q_ne (by omega) e0_22)) rfl rfl hl.1 rfl (lv_room (Nat.le_of_ble_eq_true rfl)) dX13_drawn_134 ⟨(by show _ ≤ 15; omega), (by show _ ≤ 42; omega)⟩) hS (fun r_134 f_134 n_134 H locs hp hW hS => ?_)
            obtain ⟨j_134, s1_134, rfl, e0_134, ej_134, en_134, hfr_134⟩ := hp
            have l_e0_134 := hW.lt e0_134
            have hla_134 : f_134 la = some (aI E 1 g) := (hfr_134 _ (by omega)).trans (q_ne (by omega) hla_22)
            have hn_134 : f_134 n = some (cLA 5 0 none (some (n + 1)) (some ((n + 1) + 1)) (some ((n + 1) + 2)) (some ((n + 1) + 3)) none) := (hfr_134 _ (by omega)).trans q_eq
            have hn___1_134 : f_134 (n + 1) = some (aI E 0 (fun _ => 0)) := (hfr_134 _ (by omega)).trans (q_ne (by omega) hn___1_22)
            have hn___2_134 : f_134 (n + 2) = some (aQ E 7 0 (fun _ => none)) := (hfr_134 _ (by omega)).trans (q_ne (by omega) hn___2_22)
            have hn___3_134 : f_134 (n + 3) = some (aQ E 7 0 (fun _ => none)) := (hfr_134 _ (by omega)).trans (q_ne (by omega) hn___3_22)
            have hn___4_134 : f_134 (n + 4) = some (aQ E 6 0 (fun _ => none)) := (hfr_134 _ (by omega)).trans (q_ne (by omega) hn___4_22)
            refine q_put hx hb hts hown hA hW hS iX13 tyX13 tyX13_ok nmX13 hn_134 rfl 1 (by decide) (hts (.fieldLink RX13 41 "HighRecipesLaw$Act" "whom" "I") (by decide +kernel)) (fun _ h9 => h9) rfl rfl rfl (Nat.le_of_ble_eq_true rfl) dX13_drawn_137 (fun H locs hW hS => ?_)
            have hW : q_W E (va_up f_134 n (some (cLA 5 (nI j_134) none (some (n + 1)) (some ((n + 1) + 1)) (some ((n + 1) + 2)) (some ((n + 1) + 3)) none))) n_134 H := hW
            refine lv_aload hx hb dX13_drawn_140 (lv_at hl 1 rfl) ?_
            refine q_get hx hb hts hown hA hW iX13 q_eq rfl 0 (by decide) (hts (.fieldLink RX13 37 "HighRecipesLaw$Act" "does" "I") (by decide +kernel)) (fun _ h9 => h9) (v := .int 5) rfl dX13_drawn_142 ?_
            refine lv_iconst (v := 2) hx hb dX13_drawn_145 (by decide) ?_
            refine lv_icmp_lt (tgt := 168) hx hb dX13_drawn_146 (by decide) (fun c_146 => absurd c_146 (by decide)) (fun c_146 => ?_)
            refine lv_aload hx hb dX13_drawn_149 (lv_at hl 1 rfl) ?_
            refine q_get hx hb hts hown hA hW iX13 q_eq rfl 0 (by decide) (hts (.fieldLink RX13 37 "HighRecipesLaw$Act" "does" "I") (by decide +kernel)) (fun _ h9 => h9) (v := .int 5) rfl dX13_drawn_151 ?_
            refine lv_iconst (v := 5) hx hb dX13_drawn_154 (by decide) ?_
            refine lv_icmp_eq (tgt := 168) hx hb dX13_drawn_155 (by decide) (fun c_155 => ?_) (fun c_155 => absurd c_155 (by decide))
            refine lv_aload hx hb dX13_drawn_168 (lv_at hl 1 rfl) ?_
            refine lv_aload_n hx hb dX13_drawn_170 rfl (lv_at hl 2 rfl) ?_
            refine lv_iload_n hx hb dX13_drawn_171 rfl (lv_at hl 3 rfl) ?_
            refine lv_iconst (v := 1) hx hb dX13_drawn_172 (by decide) ?_
            refine lv_bipush (v := 40) hx hb dX13_drawn_173 (by decide) ?_
            refine q_cq (va_runS (As := [.ref r, .int (nI pn), .int 1, .int 40]) (rest := [.ref n]) ⟨hx, hb, hml, hown, hts⟩ (kX16_drawn_1 l E (va_up f_134 n (some (cLA 5 (nI j_134) none (some (n + 1)) (some ((n + 1) + 1)) (some ((n + 1) + 2)) (some ((n + 1) + 3)) none))) n_134 r pn 40 s1_134 (q_ne (by omega) e0_134) hp1 hp2 (by decide) (by decide)) (va_cwS 4 hts gX13_drawn_X16_drawn rfl rfl rfl (by decide +kernel) ⟨(Nat.le_of_ble_eq_true rfl), (Nat.le_of_ble_eq_true rfl)⟩) (q_pS hA hW hS) rfl rfl hl.1 rfl (lv_room (Nat.le_of_ble_eq_true rfl)) dX13_drawn_175 ⟨(by show _ ≤ 15; omega), (by show _ ≤ 42; omega)⟩) hS (fun r_175 f_175 n_175 H locs hp hW hS => ?_)
            obtain ⟨a_175, s1_175, D_175, V_175, rfl, e0_175, en_175, eN_175, hfr_175⟩ := hp
            have l_e0_175 := hW.lt e0_175
            have hla_175 : f_175 la = some (aI E 1 g) := (hfr_175 _ (by omega) (by omega)).trans (q_ne (by omega) hla_134)
            have hn_175 : f_175 n = some (cLA 5 (nI j_134) none (some (n + 1)) (some ((n + 1) + 1)) (some ((n + 1) + 2)) (some ((n + 1) + 3)) none) := (hfr_175 _ (by omega) (by omega)).trans q_eq
            have hn___1_175 : f_175 (n + 1) = some (aI E 0 (fun _ => 0)) := (hfr_175 _ (by omega) (by omega)).trans (q_ne (by omega) hn___1_134)
            have hn___2_175 : f_175 (n + 2) = some (aQ E 7 0 (fun _ => none)) := (hfr_175 _ (by omega) (by omega)).trans (q_ne (by omega) hn___2_134)
            have hn___3_175 : f_175 (n + 3) = some (aQ E 7 0 (fun _ => none)) := (hfr_175 _ (by omega) (by omega)).trans (q_ne (by omega) hn___3_134)
            have hn___4_175 : f_175 (n + 4) = some (aQ E 6 0 (fun _ => none)) := (hfr_175 _ (by omega) (by omega)).trans (q_ne (by omega) hn___4_134)
            refine q_put hx hb hts hown hA hW hS iX13 tyX13 tyX13_ok nmX13 hn_175 rfl 2 (by decide) (hts (.fieldLink RX13 47 "HighRecipesLaw$Act" "value" "LHighRecipesLaw$Node;") (by decide +kernel)) (fun _ h9 => h9) rfl rfl rfl (Nat.le_of_ble_eq_true rfl) dX13_drawn_178 (fun H locs hW hS => ?_)
            have hW : q_W E (va_up f_175 n (some (cLA 5 (nI j_134) (some a_175) (some (n + 1)) (some ((n + 1) + 1)) (some ((n + 1) + 2)) (some ((n + 1) + 3)) none))) n_175 H := hW
            refine lv_goto (tgt := 283) hx hb dX13_drawn_181 (by decide) ?_
            refine lv_aload hx hb dX13_drawn_283 (lv_at hl 1 rfl) ?_
            refine q_get hx hb hts hown hA hW iX13 q_eq rfl 0 (by decide) (hts (.fieldLink RX13 37 "HighRecipesLaw$Act" "does" "I") (by decide +kernel)) (fun _ h9 => h9) (v := .int 5) rfl dX13_drawn_285 ?_
            refine lv_bipush (v := 9) hx hb dX13_drawn_288 (by decide) ?_
            refine lv_icmp_ne (tgt := 392) hx hb dX13_drawn_290 (by decide) (fun c_290 => ?_) (fun c_290 => absurd c_290 (by decide))
            refine lv_aload hx hb dX13_drawn_392 (lv_at hl 1 rfl) ?_
            refine q_get hx hb hts hown hA hW iX13 q_eq rfl 0 (by decide) (hts (.fieldLink RX13 37 "HighRecipesLaw$Act" "does" "I") (by decide +kernel)) (fun _ h9 => h9) (v := .int 5) rfl dX13_drawn_394 ?_
            refine lv_bipush (v := 7) hx hb dX13_drawn_397 (by decide) ?_
            refine lv_icmp_le (tgt := 418) hx hb dX13_drawn_399 (by decide) (fun c_399 => ?_) (fun c_399 => absurd c_399 (by decide))
            refine lv_aload hx hb dX13_drawn_418 (lv_at hl 1 rfl) ?_
            refine q_get hx hb hts hown hA hW iX13 q_eq rfl 0 (by decide) (hts (.fieldLink RX13 37 "HighRecipesLaw$Act" "does" "I") (by decide +kernel)) (fun _ h9 => h9) (v := .int 5) rfl dX13_drawn_420 ?_
            refine lv_bipush (v := 9) hx hb dX13_drawn_423 (by decide) ?_
            refine lv_icmp_ne (tgt := 452) hx hb dX13_drawn_425 (by decide) (fun c_425 => ?_) (fun c_425 => absurd c_425 (by decide))
            refine lv_aload hx hb dX13_drawn_452 (lv_at hl 1 rfl) ?_
            have H175 : ∀ q : Nat, (n_134 ≤ q ∧ q < n_175) → (n ≤ q ∧ q < n_175) ∧ (va_up f_175 n (some (cLA 5 (nI j_134) (some a_175) (some (n + 1)) (some ((n + 1) + 1)) (some ((n + 1) + 2)) (some ((n + 1) + 3)) none))) q = f_175 q := fun q hq => ⟨⟨by omega, by omega⟩, (q_ne (by omega) rfl)⟩
            exact q_aret (v := some n) hx hb hr (Or.inl ⟨_, rfl⟩) hlocks hW hS ⟨n, (k_rest pn D_175), (kt 21 ++ V_175 ++ kt 22), 0, s1_175, g, rfl, (q_ne (by omega) e0_175), (q_ne (by omega) hla_175), (Nat.zero_le _), hg, (by omega), (⟨⟨by omega, by omega⟩, _, _, _, _, _, _, _, _, q_eq, Or.inr (Or.inr (Or.inr (Or.inr (Or.inl ⟨j_134, _, D_175, V_175, ej_134, rfl, rfl, rfl, rfl, (NODE.to H175 eN_175), ⟨⟨by omega, by omega⟩, (show _ = some (aQ E 6 0 (lf [])) from (q_ne (by omega) hn___4_175)), fun x hx => absurd hx List.not_mem_nil⟩, rfl⟩))))⟩), (fun q g0 g1 g2 => (q_ne (by omega) ((hfr_175 _ (by omega) (by omega)).trans (q_ne (by omega) ((hfr_134 _ (by omega)).trans (q_ne (by omega) ((hfr_22 _ (by omega)).trans ((hfr_4 _ (by omega) (by omega)).trans (q_ne (by omega) rfl)))))))))⟩ (by show _ ≤ 15; omega) (by show _ ≤ 42; omega) dX13_drawn_454
          · rw [show nI j_22 - 5 = 6 from by rw [hjv]; decide]
            refine lv_goto (tgt := 109) hx hb dX13_drawn_82 (by decide) ?_
            refine q_put hx hb hts hown hA hW hS iX13 tyX13 tyX13_ok nmX13 hn_22 rfl 0 (by decide) (hts (.fieldLink RX13 37 "HighRecipesLaw$Act" "does" "I") (by decide +kernel)) (fun _ h9 => h9) rfl rfl rfl (Nat.le_of_ble_eq_true rfl) dX13_drawn_109 (fun H locs hW hS => ?_)
            have hW : q_W E (va_up f_22 n (some (cLA 6 0 none (some (n + 1)) (some ((n + 1) + 1)) (some ((n + 1) + 2)) (some ((n + 1) + 3)) none))) n_22 H := hW
            refine lv_aload hx hb dX13_drawn_112 (lv_at hl 1 rfl) ?_
            refine lv_aload hx hb dX13_drawn_114 (lv_at hl 1 rfl) ?_
            refine q_get hx hb hts hown hA hW iX13 q_eq rfl 0 (by decide) (hts (.fieldLink RX13 37 "HighRecipesLaw$Act" "does" "I") (by decide +kernel)) (fun _ h9 => h9) (v := .int 6) rfl dX13_drawn_116 ?_
            refine lv_bipush (v := 7) hx hb dX13_drawn_119 (by decide) ?_
            refine lv_icmp_ne (tgt := 132) hx hb dX13_drawn_121 (by decide) (fun c_121 => ?_) (fun c_121 => absurd c_121 (by decide))
            refine lv_aload_n hx hb dX13_drawn_132 rfl (lv_at hl 2 rfl) ?_
            refine lv_iload_n hx hb dX13_drawn_133 rfl (lv_at hl 3 rfl) ?_
            refine q_ci (va_runV (As := [.int (nI pn)]) (rest := [.ref n]) ⟨hx, hb, hml, hown, hts⟩ (kX14_next l E (va_up f_22 n (some (cLA 6 0 none (some (n + 1)) (some ((n + 1) + 1)) (some ((n + 1) + 2)) (some ((n + 1) + 3)) none))) n_22 r pn s1_22 (q_ne (by omega) e0_22) (by omega) (by omega)) (cwV 1 hts gX13_drawn_X14_next rfl rfl rfl (by decide +kernel) ⟨(Nat.le_of_ble_eq_true rfl), (Nat.le_of_ble_eq_true rfl)⟩) (q_pV hA hW hS (ci := 14) rfl (q_ne (by omega) e0_22)) rfl rfl hl.1 rfl (lv_room (Nat.le_of_ble_eq_true rfl)) dX13_drawn_134 ⟨(by show _ ≤ 15; omega), (by show _ ≤ 42; omega)⟩) hS (fun r_134 f_134 n_134 H locs hp hW hS => ?_)
            obtain ⟨j_134, s1_134, rfl, e0_134, ej_134, en_134, hfr_134⟩ := hp
            have l_e0_134 := hW.lt e0_134
            have hla_134 : f_134 la = some (aI E 1 g) := (hfr_134 _ (by omega)).trans (q_ne (by omega) hla_22)
            have hn_134 : f_134 n = some (cLA 6 0 none (some (n + 1)) (some ((n + 1) + 1)) (some ((n + 1) + 2)) (some ((n + 1) + 3)) none) := (hfr_134 _ (by omega)).trans q_eq
            have hn___1_134 : f_134 (n + 1) = some (aI E 0 (fun _ => 0)) := (hfr_134 _ (by omega)).trans (q_ne (by omega) hn___1_22)
            have hn___2_134 : f_134 (n + 2) = some (aQ E 7 0 (fun _ => none)) := (hfr_134 _ (by omega)).trans (q_ne (by omega) hn___2_22)
            have hn___3_134 : f_134 (n + 3) = some (aQ E 7 0 (fun _ => none)) := (hfr_134 _ (by omega)).trans (q_ne (by omega) hn___3_22)
            have hn___4_134 : f_134 (n + 4) = some (aQ E 6 0 (fun _ => none)) := (hfr_134 _ (by omega)).trans (q_ne (by omega) hn___4_22)
            refine q_put hx hb hts hown hA hW hS iX13 tyX13 tyX13_ok nmX13 hn_134 rfl 1 (by decide) (hts (.fieldLink RX13 41 "HighRecipesLaw$Act" "whom" "I") (by decide +kernel)) (fun _ h9 => h9) rfl rfl rfl (Nat.le_of_ble_eq_true rfl) dX13_drawn_137 (fun H locs hW hS => ?_)
            have hW : q_W E (va_up f_134 n (some (cLA 6 (nI j_134) none (some (n + 1)) (some ((n + 1) + 1)) (some ((n + 1) + 2)) (some ((n + 1) + 3)) none))) n_134 H := hW
            refine lv_aload hx hb dX13_drawn_140 (lv_at hl 1 rfl) ?_
            refine q_get hx hb hts hown hA hW iX13 q_eq rfl 0 (by decide) (hts (.fieldLink RX13 37 "HighRecipesLaw$Act" "does" "I") (by decide +kernel)) (fun _ h9 => h9) (v := .int 6) rfl dX13_drawn_142 ?_
            refine lv_iconst (v := 2) hx hb dX13_drawn_145 (by decide) ?_
            refine lv_icmp_lt (tgt := 168) hx hb dX13_drawn_146 (by decide) (fun c_146 => absurd c_146 (by decide)) (fun c_146 => ?_)
            refine lv_aload hx hb dX13_drawn_149 (lv_at hl 1 rfl) ?_
            refine q_get hx hb hts hown hA hW iX13 q_eq rfl 0 (by decide) (hts (.fieldLink RX13 37 "HighRecipesLaw$Act" "does" "I") (by decide +kernel)) (fun _ h9 => h9) (v := .int 6) rfl dX13_drawn_151 ?_
            refine lv_iconst (v := 5) hx hb dX13_drawn_154 (by decide) ?_
            refine lv_icmp_eq (tgt := 168) hx hb dX13_drawn_155 (by decide) (fun c_155 => absurd c_155 (by decide)) (fun c_155 => ?_)
            refine lv_aload hx hb dX13_drawn_158 (lv_at hl 1 rfl) ?_
            refine q_get hx hb hts hown hA hW iX13 q_eq rfl 0 (by decide) (hts (.fieldLink RX13 37 "HighRecipesLaw$Act" "does" "I") (by decide +kernel)) (fun _ h9 => h9) (v := .int 6) rfl dX13_drawn_160 ?_
            refine lv_bipush (v := 6) hx hb dX13_drawn_163 (by decide) ?_
            refine lv_icmp_ne (tgt := 184) hx hb dX13_drawn_165 (by decide) (fun c_165 => absurd c_165 (by decide)) (fun c_165 => ?_)
            refine lv_aload hx hb dX13_drawn_168 (lv_at hl 1 rfl) ?_
            refine lv_aload_n hx hb dX13_drawn_170 rfl (lv_at hl 2 rfl) ?_
            refine lv_iload_n hx hb dX13_drawn_171 rfl (lv_at hl 3 rfl) ?_
            refine lv_iconst (v := 1) hx hb dX13_drawn_172 (by decide) ?_
            refine lv_bipush (v := 40) hx hb dX13_drawn_173 (by decide) ?_
            refine q_cq (va_runS (As := [.ref r, .int (nI pn), .int 1, .int 40]) (rest := [.ref n]) ⟨hx, hb, hml, hown, hts⟩ (kX16_drawn_1 l E (va_up f_134 n (some (cLA 6 (nI j_134) none (some (n + 1)) (some ((n + 1) + 1)) (some ((n + 1) + 2)) (some ((n + 1) + 3)) none))) n_134 r pn 40 s1_134 (q_ne (by omega) e0_134) hp1 hp2 (by decide) (by decide)) (va_cwS 4 hts gX13_drawn_X16_drawn rfl rfl rfl (by decide +kernel) ⟨(Nat.le_of_ble_eq_true rfl), (Nat.le_of_ble_eq_true rfl)⟩) (q_pS hA hW hS) rfl rfl hl.1 rfl (lv_room (Nat.le_of_ble_eq_true rfl)) dX13_drawn_175 ⟨(by show _ ≤ 15; omega), (by show _ ≤ 42; omega)⟩) hS (fun r_175 f_175 n_175 H locs hp hW hS => ?_)
            obtain ⟨a_175, s1_175, D_175, V_175, rfl, e0_175, en_175, eN_175, hfr_175⟩ := hp
            have l_e0_175 := hW.lt e0_175
            have hla_175 : f_175 la = some (aI E 1 g) := (hfr_175 _ (by omega) (by omega)).trans (q_ne (by omega) hla_134)
            have hn_175 : f_175 n = some (cLA 6 (nI j_134) none (some (n + 1)) (some ((n + 1) + 1)) (some ((n + 1) + 2)) (some ((n + 1) + 3)) none) := (hfr_175 _ (by omega) (by omega)).trans q_eq
            have hn___1_175 : f_175 (n + 1) = some (aI E 0 (fun _ => 0)) := (hfr_175 _ (by omega) (by omega)).trans (q_ne (by omega) hn___1_134)
            have hn___2_175 : f_175 (n + 2) = some (aQ E 7 0 (fun _ => none)) := (hfr_175 _ (by omega) (by omega)).trans (q_ne (by omega) hn___2_134)
            have hn___3_175 : f_175 (n + 3) = some (aQ E 7 0 (fun _ => none)) := (hfr_175 _ (by omega) (by omega)).trans (q_ne (by omega) hn___3_134)
            have hn___4_175 : f_175 (n + 4) = some (aQ E 6 0 (fun _ => none)) := (hfr_175 _ (by omega) (by omega)).trans (q_ne (by omega) hn___4_134)
            refine q_put hx hb hts hown hA hW hS iX13 tyX13 tyX13_ok nmX13 hn_175 rfl 2 (by decide) (hts (.fieldLink RX13 47 "HighRecipesLaw$Act" "value" "LHighRecipesLaw$Node;") (by decide +kernel)) (fun _ h9 => h9) rfl rfl rfl (Nat.le_of_ble_eq_true rfl) dX13_drawn_178 (fun H locs hW hS => ?_)
            have hW : q_W E (va_up f_175 n (some (cLA 6 (nI j_134) (some a_175) (some (n + 1)) (some ((n + 1) + 1)) (some ((n + 1) + 2)) (some ((n + 1) + 3)) none))) n_175 H := hW
            refine lv_goto (tgt := 283) hx hb dX13_drawn_181 (by decide) ?_
            refine lv_aload hx hb dX13_drawn_283 (lv_at hl 1 rfl) ?_
            refine q_get hx hb hts hown hA hW iX13 q_eq rfl 0 (by decide) (hts (.fieldLink RX13 37 "HighRecipesLaw$Act" "does" "I") (by decide +kernel)) (fun _ h9 => h9) (v := .int 6) rfl dX13_drawn_285 ?_
            refine lv_bipush (v := 9) hx hb dX13_drawn_288 (by decide) ?_
            refine lv_icmp_ne (tgt := 392) hx hb dX13_drawn_290 (by decide) (fun c_290 => ?_) (fun c_290 => absurd c_290 (by decide))
            refine lv_aload hx hb dX13_drawn_392 (lv_at hl 1 rfl) ?_
            refine q_get hx hb hts hown hA hW iX13 q_eq rfl 0 (by decide) (hts (.fieldLink RX13 37 "HighRecipesLaw$Act" "does" "I") (by decide +kernel)) (fun _ h9 => h9) (v := .int 6) rfl dX13_drawn_394 ?_
            refine lv_bipush (v := 7) hx hb dX13_drawn_397 (by decide) ?_
            refine lv_icmp_le (tgt := 418) hx hb dX13_drawn_399 (by decide) (fun c_399 => ?_) (fun c_399 => absurd c_399 (by decide))
            refine lv_aload hx hb dX13_drawn_418 (lv_at hl 1 rfl) ?_
            refine q_get hx hb hts hown hA hW iX13 q_eq rfl 0 (by decide) (hts (.fieldLink RX13 37 "HighRecipesLaw$Act" "does" "I") (by decide +kernel)) (fun _ h9 => h9) (v := .int 6) rfl dX13_drawn_420 ?_
            refine lv_bipush (v := 9) hx hb dX13_drawn_423 (by decide) ?_
            refine lv_icmp_ne (tgt := 452) hx hb dX13_drawn_425 (by decide) (fun c_425 => ?_) (fun c_425 => absurd c_425 (by decide))
            refine lv_aload hx hb dX13_drawn_452 (lv_at hl 1 rfl) ?_
            have H175 : ∀ q : Nat, (n_134 ≤ q ∧ q < n_175) → (n ≤ q ∧ q < n_175) ∧ (va_up f_175 n (some (cLA 6 (nI j_134) (some a_175) (some (n + 1)) (some ((n + 1) + 1)) (some ((n + 1) + 2)) (some ((n + 1) + 3)) none))) q = f_175 q := fun q hq => ⟨⟨by omega, by omega⟩, (q_ne (by omega) rfl)⟩
            exact q_aret (v := some n) hx hb hr (Or.inl ⟨_, rfl⟩) hlocks hW hS ⟨n, (k_note D_175), (kt 23 ++ V_175 ++ kt 12), 0, s1_175, g, rfl, (q_ne (by omega) e0_175), (q_ne (by omega) hla_175), (Nat.zero_le _), hg, (by omega), (⟨⟨by omega, by omega⟩, _, _, _, _, _, _, _, _, q_eq, Or.inr (Or.inr (Or.inr (Or.inr (Or.inr (Or.inl ⟨j_134, _, D_175, V_175, ej_134, rfl, rfl, rfl, rfl, (NODE.to H175 eN_175), ⟨⟨by omega, by omega⟩, (show _ = some (aQ E 6 0 (lf [])) from (q_ne (by omega) hn___4_175)), fun x hx => absurd hx List.not_mem_nil⟩, rfl⟩)))))⟩), (fun q g0 g1 g2 => (q_ne (by omega) ((hfr_175 _ (by omega) (by omega)).trans (q_ne (by omega) ((hfr_134 _ (by omega)).trans (q_ne (by omega) ((hfr_22 _ (by omega)).trans ((hfr_4 _ (by omega) (by omega)).trans (q_ne (by omega) rfl)))))))))⟩ (by show _ ≤ 15; omega) (by show _ ≤ 42; omega) dX13_drawn_454
        · have g64 : j_22 < 9 := q_gtn (a := 9) (b := j_22) (by decide) c_64 (by omega)
          refine lv_iconst (v := 3) hx hb dX13_drawn_67 (by decide) ?_
          refine lv_goto (tgt := 109) hx hb dX13_drawn_68 (by decide) ?_
          refine q_put hx hb hts hown hA hW hS iX13 tyX13 tyX13_ok nmX13 hn_22 rfl 0 (by decide) (hts (.fieldLink RX13 37 "HighRecipesLaw$Act" "does" "I") (by decide +kernel)) (fun _ h9 => h9) rfl rfl rfl (Nat.le_of_ble_eq_true rfl) dX13_drawn_109 (fun H locs hW hS => ?_)
          have hW : q_W E (va_up f_22 n (some (cLA 3 0 none (some (n + 1)) (some ((n + 1) + 1)) (some ((n + 1) + 2)) (some ((n + 1) + 3)) none))) n_22 H := hW
          refine lv_aload hx hb dX13_drawn_112 (lv_at hl 1 rfl) ?_
          refine lv_aload hx hb dX13_drawn_114 (lv_at hl 1 rfl) ?_
          refine q_get hx hb hts hown hA hW iX13 q_eq rfl 0 (by decide) (hts (.fieldLink RX13 37 "HighRecipesLaw$Act" "does" "I") (by decide +kernel)) (fun _ h9 => h9) (v := .int 3) rfl dX13_drawn_116 ?_
          refine lv_bipush (v := 7) hx hb dX13_drawn_119 (by decide) ?_
          refine lv_icmp_ne (tgt := 132) hx hb dX13_drawn_121 (by decide) (fun c_121 => ?_) (fun c_121 => absurd c_121 (by decide))
          refine lv_aload_n hx hb dX13_drawn_132 rfl (lv_at hl 2 rfl) ?_
          refine lv_iload_n hx hb dX13_drawn_133 rfl (lv_at hl 3 rfl) ?_
          refine q_ci (va_runV (As := [.int (nI pn)]) (rest := [.ref n]) ⟨hx, hb, hml, hown, hts⟩ (kX14_next l E (va_up f_22 n (some (cLA 3 0 none (some (n + 1)) (some ((n + 1) + 1)) (some ((n + 1) + 2)) (some ((n + 1) + 3)) none))) n_22 r pn s1_22 (q_ne (by omega) e0_22) (by omega) (by omega)) (cwV 1 hts gX13_drawn_X14_next rfl rfl rfl (by decide +kernel) ⟨(Nat.le_of_ble_eq_true rfl), (Nat.le_of_ble_eq_true rfl)⟩) (q_pV hA hW hS (ci := 14) rfl (q_ne (by omega) e0_22)) rfl rfl hl.1 rfl (lv_room (Nat.le_of_ble_eq_true rfl)) dX13_drawn_134 ⟨(by show _ ≤ 15; omega), (by show _ ≤ 42; omega)⟩) hS (fun r_134 f_134 n_134 H locs hp hW hS => ?_)
          obtain ⟨j_134, s1_134, rfl, e0_134, ej_134, en_134, hfr_134⟩ := hp
          have l_e0_134 := hW.lt e0_134
          have hla_134 : f_134 la = some (aI E 1 g) := (hfr_134 _ (by omega)).trans (q_ne (by omega) hla_22)
          have hn_134 : f_134 n = some (cLA 3 0 none (some (n + 1)) (some ((n + 1) + 1)) (some ((n + 1) + 2)) (some ((n + 1) + 3)) none) := (hfr_134 _ (by omega)).trans q_eq
          have hn___1_134 : f_134 (n + 1) = some (aI E 0 (fun _ => 0)) := (hfr_134 _ (by omega)).trans (q_ne (by omega) hn___1_22)
          have hn___2_134 : f_134 (n + 2) = some (aQ E 7 0 (fun _ => none)) := (hfr_134 _ (by omega)).trans (q_ne (by omega) hn___2_22)
          have hn___3_134 : f_134 (n + 3) = some (aQ E 7 0 (fun _ => none)) := (hfr_134 _ (by omega)).trans (q_ne (by omega) hn___3_22)
          have hn___4_134 : f_134 (n + 4) = some (aQ E 6 0 (fun _ => none)) := (hfr_134 _ (by omega)).trans (q_ne (by omega) hn___4_22)
          refine q_put hx hb hts hown hA hW hS iX13 tyX13 tyX13_ok nmX13 hn_134 rfl 1 (by decide) (hts (.fieldLink RX13 41 "HighRecipesLaw$Act" "whom" "I") (by decide +kernel)) (fun _ h9 => h9) rfl rfl rfl (Nat.le_of_ble_eq_true rfl) dX13_drawn_137 (fun H locs hW hS => ?_)
          have hW : q_W E (va_up f_134 n (some (cLA 3 (nI j_134) none (some (n + 1)) (some ((n + 1) + 1)) (some ((n + 1) + 2)) (some ((n + 1) + 3)) none))) n_134 H := hW
          refine lv_aload hx hb dX13_drawn_140 (lv_at hl 1 rfl) ?_
          refine q_get hx hb hts hown hA hW iX13 q_eq rfl 0 (by decide) (hts (.fieldLink RX13 37 "HighRecipesLaw$Act" "does" "I") (by decide +kernel)) (fun _ h9 => h9) (v := .int 3) rfl dX13_drawn_142 ?_
          refine lv_iconst (v := 2) hx hb dX13_drawn_145 (by decide) ?_
          refine lv_icmp_lt (tgt := 168) hx hb dX13_drawn_146 (by decide) (fun c_146 => absurd c_146 (by decide)) (fun c_146 => ?_)
          refine lv_aload hx hb dX13_drawn_149 (lv_at hl 1 rfl) ?_
          refine q_get hx hb hts hown hA hW iX13 q_eq rfl 0 (by decide) (hts (.fieldLink RX13 37 "HighRecipesLaw$Act" "does" "I") (by decide +kernel)) (fun _ h9 => h9) (v := .int 3) rfl dX13_drawn_151 ?_
          refine lv_iconst (v := 5) hx hb dX13_drawn_154 (by decide) ?_
          refine lv_icmp_eq (tgt := 168) hx hb dX13_drawn_155 (by decide) (fun c_155 => absurd c_155 (by decide)) (fun c_155 => ?_)
          refine lv_aload hx hb dX13_drawn_158 (lv_at hl 1 rfl) ?_
          refine q_get hx hb hts hown hA hW iX13 q_eq rfl 0 (by decide) (hts (.fieldLink RX13 37 "HighRecipesLaw$Act" "does" "I") (by decide +kernel)) (fun _ h9 => h9) (v := .int 3) rfl dX13_drawn_160 ?_
          refine lv_bipush (v := 6) hx hb dX13_drawn_163 (by decide) ?_
          refine lv_icmp_ne (tgt := 184) hx hb dX13_drawn_165 (by decide) (fun c_165 => ?_) (fun c_165 => absurd c_165 (by decide))
          refine lv_aload hx hb dX13_drawn_184 (lv_at hl 1 rfl) ?_
          refine q_get hx hb hts hown hA hW iX13 q_eq rfl 0 (by decide) (hts (.fieldLink RX13 37 "HighRecipesLaw$Act" "does" "I") (by decide +kernel)) (fun _ h9 => h9) (v := .int 3) rfl dX13_drawn_186 ?_
          refine lv_iconst (v := 2) hx hb dX13_drawn_189 (by decide) ?_
          refine lv_icmp_ne (tgt := 210) hx hb dX13_drawn_190 (by decide) (fun c_190 => ?_) (fun c_190 => absurd c_190 (by decide))
          refine lv_aload hx hb dX13_drawn_210 (lv_at hl 1 rfl) ?_
          refine q_get hx hb hts hown hA hW iX13 q_eq rfl 0 (by decide) (hts (.fieldLink RX13 37 "HighRecipesLaw$Act" "does" "I") (by decide +kernel)) (fun _ h9 => h9) (v := .int 3) rfl dX13_drawn_212 ?_
          refine lv_iconst (v := 3) hx hb dX13_drawn_215 (by decide) ?_
          refine lv_icmp_ne (tgt := 235) hx hb dX13_drawn_216 (by decide) (fun c_216 => absurd c_216 (by decide)) (fun c_216 => ?_)
          refine lv_aload hx hb dX13_drawn_219 (lv_at hl 1 rfl) ?_
          refine lv_aload_n hx hb dX13_drawn_221 rfl (lv_at hl 2 rfl) ?_
          refine lv_iload_n hx hb dX13_drawn_222 rfl (lv_at hl 3 rfl) ?_
          refine lv_iconst (v := 1) hx hb dX13_drawn_223 (by decide) ?_
          refine lv_bipush (v := 60) hx hb dX13_drawn_224 (by decide) ?_
          refine q_cq (va_runS (As := [.ref r, .int (nI pn), .int 1, .int 60]) (rest := [.ref n]) ⟨hx, hb, hml, hown, hts⟩ (kX16_drawn_1 l E (va_up f_134 n (some (cLA 3 (nI j_134) none (some (n + 1)) (some ((n + 1) + 1)) (some ((n + 1) + 2)) (some ((n + 1) + 3)) none))) n_134 r pn 60 s1_134 (q_ne (by omega) e0_134) hp1 hp2 (by decide) (by decide)) (va_cwS 4 hts gX13_drawn_X16_drawn rfl rfl rfl (by decide +kernel) ⟨(Nat.le_of_ble_eq_true rfl), (Nat.le_of_ble_eq_true rfl)⟩) (q_pS hA hW hS) rfl rfl hl.1 rfl (lv_room (Nat.le_of_ble_eq_true rfl)) dX13_drawn_226 ⟨(by show _ ≤ 15; omega), (by show _ ≤ 42; omega)⟩) hS (fun r_226 f_226 n_226 H locs hp hW hS => ?_)
          obtain ⟨a_226, s1_226, D_226, V_226, rfl, e0_226, en_226, eN_226, hfr_226⟩ := hp
          have l_e0_226 := hW.lt e0_226
          have hla_226 : f_226 la = some (aI E 1 g) := (hfr_226 _ (by omega) (by omega)).trans (q_ne (by omega) hla_134)
          have hn_226 : f_226 n = some (cLA 3 (nI j_134) none (some (n + 1)) (some ((n + 1) + 1)) (some ((n + 1) + 2)) (some ((n + 1) + 3)) none) := (hfr_226 _ (by omega) (by omega)).trans q_eq
          have hn___1_226 : f_226 (n + 1) = some (aI E 0 (fun _ => 0)) := (hfr_226 _ (by omega) (by omega)).trans (q_ne (by omega) hn___1_134)
          have hn___2_226 : f_226 (n + 2) = some (aQ E 7 0 (fun _ => none)) := (hfr_226 _ (by omega) (by omega)).trans (q_ne (by omega) hn___2_134)
          have hn___3_226 : f_226 (n + 3) = some (aQ E 7 0 (fun _ => none)) := (hfr_226 _ (by omega) (by omega)).trans (q_ne (by omega) hn___3_134)
          have hn___4_226 : f_226 (n + 4) = some (aQ E 6 0 (fun _ => none)) := (hfr_226 _ (by omega) (by omega)).trans (q_ne (by omega) hn___4_134)
          refine q_put hx hb hts hown hA hW hS iX13 tyX13 tyX13_ok nmX13 hn_226 rfl 2 (by decide) (hts (.fieldLink RX13 47 "HighRecipesLaw$Act" "value" "LHighRecipesLaw$Node;") (by decide +kernel)) (fun _ h9 => h9) rfl rfl rfl (Nat.le_of_ble_eq_true rfl) dX13_drawn_229 (fun H locs hW hS => ?_)
          have hW : q_W E (va_up f_226 n (some (cLA 3 (nI j_134) (some a_226) (some (n + 1)) (some ((n + 1) + 1)) (some ((n + 1) + 2)) (some ((n + 1) + 3)) none))) n_226 H := hW
          refine lv_goto (tgt := 283) hx hb dX13_drawn_232 (by decide) ?_
          refine lv_aload hx hb dX13_drawn_283 (lv_at hl 1 rfl) ?_
          refine q_get hx hb hts hown hA hW iX13 q_eq rfl 0 (by decide) (hts (.fieldLink RX13 37 "HighRecipesLaw$Act" "does" "I") (by decide +kernel)) (fun _ h9 => h9) (v := .int 3) rfl dX13_drawn_285 ?_
          refine lv_bipush (v := 9) hx hb dX13_drawn_288 (by decide) ?_
          refine lv_icmp_ne (tgt := 392) hx hb dX13_drawn_290 (by decide) (fun c_290 => ?_) (fun c_290 => absurd c_290 (by decide))
          refine lv_aload hx hb dX13_drawn_392 (lv_at hl 1 rfl) ?_
          refine q_get hx hb hts hown hA hW iX13 q_eq rfl 0 (by decide) (hts (.fieldLink RX13 37 "HighRecipesLaw$Act" "does" "I") (by decide +kernel)) (fun _ h9 => h9) (v := .int 3) rfl dX13_drawn_394 ?_
          refine lv_bipush (v := 7) hx hb dX13_drawn_397 (by decide) ?_
          refine lv_icmp_le (tgt := 418) hx hb dX13_drawn_399 (by decide) (fun c_399 => ?_) (fun c_399 => absurd c_399 (by decide))
          refine lv_aload hx hb dX13_drawn_418 (lv_at hl 1 rfl) ?_
          refine q_get hx hb hts hown hA hW iX13 q_eq rfl 0 (by decide) (hts (.fieldLink RX13 37 "HighRecipesLaw$Act" "does" "I") (by decide +kernel)) (fun _ h9 => h9) (v := .int 3) rfl dX13_drawn_420 ?_
          refine lv_bipush (v := 9) hx hb dX13_drawn_423 (by decide) ?_
          refine lv_icmp_ne (tgt := 452) hx hb dX13_drawn_425 (by decide) (fun c_425 => ?_) (fun c_425 => absurd c_425 (by decide))
          refine lv_aload hx hb dX13_drawn_452 (lv_at hl 1 rfl) ?_
          have H226 : ∀ q : Nat, (n_134 ≤ q ∧ q < n_226) → (n ≤ q ∧ q < n_226) ∧ (va_up f_226 n (some (cLA 3 (nI j_134) (some a_226) (some (n + 1)) (some ((n + 1) + 1)) (some ((n + 1) + 2)) (some ((n + 1) + 3)) none))) q = f_226 q := fun q hq => ⟨⟨by omega, by omega⟩, (q_ne (by omega) rfl)⟩
          exact q_aret (v := some n) hx hb hr (Or.inl ⟨_, rfl⟩) hlocks hW hS ⟨n, (k_boil pn j_134 D_226), (kt 17 ++ pT j_134 ++ kt 18 ++ V_226 ++ kt 19), 0, s1_226, g, rfl, (q_ne (by omega) e0_226), (q_ne (by omega) hla_226), (Nat.zero_le _), hg, (by omega), (⟨⟨by omega, by omega⟩, _, _, _, _, _, _, _, _, q_eq, Or.inr (Or.inr (Or.inl ⟨j_134, _, D_226, V_226, ej_134, rfl, rfl, rfl, rfl, (NODE.to H226 eN_226), ⟨⟨by omega, by omega⟩, (show _ = some (aQ E 6 0 (lf [])) from (q_ne (by omega) hn___4_226)), fun x hx => absurd hx List.not_mem_nil⟩, rfl⟩))⟩), (fun q g0 g1 g2 => (q_ne (by omega) ((hfr_226 _ (by omega) (by omega)).trans (q_ne (by omega) ((hfr_134 _ (by omega)).trans (q_ne (by omega) ((hfr_22 _ (by omega)).trans ((hfr_4 _ (by omega) (by omega)).trans (q_ne (by omega) rfl)))))))))⟩ (by show _ ≤ 15; omega) (by show _ ≤ 42; omega) dX13_drawn_454
      · have g53 : j_22 < 7 := q_gtn (a := 7) (b := j_22) (by decide) c_53 (by omega)
        refine lv_iconst (v := 2) hx hb dX13_drawn_56 (by decide) ?_
        refine lv_goto (tgt := 109) hx hb dX13_drawn_57 (by decide) ?_
        refine q_put hx hb hts hown hA hW hS iX13 tyX13 tyX13_ok nmX13 hn_22 rfl 0 (by decide) (hts (.fieldLink RX13 37 "HighRecipesLaw$Act" "does" "I") (by decide +kernel)) (fun _ h9 => h9) rfl rfl rfl (Nat.le_of_ble_eq_true rfl) dX13_drawn_109 (fun H locs hW hS => ?_)
        have hW : q_W E (va_up f_22 n (some (cLA 2 0 none (some (n + 1)) (some ((n + 1) + 1)) (some ((n + 1) + 2)) (some ((n + 1) + 3)) none))) n_22 H := hW
        refine lv_aload hx hb dX13_drawn_112 (lv_at hl 1 rfl) ?_
        refine lv_aload hx hb dX13_drawn_114 (lv_at hl 1 rfl) ?_
        refine q_get hx hb hts hown hA hW iX13 q_eq rfl 0 (by decide) (hts (.fieldLink RX13 37 "HighRecipesLaw$Act" "does" "I") (by decide +kernel)) (fun _ h9 => h9) (v := .int 2) rfl dX13_drawn_116 ?_
        refine lv_bipush (v := 7) hx hb dX13_drawn_119 (by decide) ?_
        refine lv_icmp_ne (tgt := 132) hx hb dX13_drawn_121 (by decide) (fun c_121 => ?_) (fun c_121 => absurd c_121 (by decide))
        refine lv_aload_n hx hb dX13_drawn_132 rfl (lv_at hl 2 rfl) ?_
        refine lv_iload_n hx hb dX13_drawn_133 rfl (lv_at hl 3 rfl) ?_
        refine q_ci (va_runV (As := [.int (nI pn)]) (rest := [.ref n]) ⟨hx, hb, hml, hown, hts⟩ (kX14_next l E (va_up f_22 n (some (cLA 2 0 none (some (n + 1)) (some ((n + 1) + 1)) (some ((n + 1) + 2)) (some ((n + 1) + 3)) none))) n_22 r pn s1_22 (q_ne (by omega) e0_22) (by omega) (by omega)) (cwV 1 hts gX13_drawn_X14_next rfl rfl rfl (by decide +kernel) ⟨(Nat.le_of_ble_eq_true rfl), (Nat.le_of_ble_eq_true rfl)⟩) (q_pV hA hW hS (ci := 14) rfl (q_ne (by omega) e0_22)) rfl rfl hl.1 rfl (lv_room (Nat.le_of_ble_eq_true rfl)) dX13_drawn_134 ⟨(by show _ ≤ 15; omega), (by show _ ≤ 42; omega)⟩) hS (fun r_134 f_134 n_134 H locs hp hW hS => ?_)
        obtain ⟨j_134, s1_134, rfl, e0_134, ej_134, en_134, hfr_134⟩ := hp
        have l_e0_134 := hW.lt e0_134
        have hla_134 : f_134 la = some (aI E 1 g) := (hfr_134 _ (by omega)).trans (q_ne (by omega) hla_22)
        have hn_134 : f_134 n = some (cLA 2 0 none (some (n + 1)) (some ((n + 1) + 1)) (some ((n + 1) + 2)) (some ((n + 1) + 3)) none) := (hfr_134 _ (by omega)).trans q_eq
        have hn___1_134 : f_134 (n + 1) = some (aI E 0 (fun _ => 0)) := (hfr_134 _ (by omega)).trans (q_ne (by omega) hn___1_22)
        have hn___2_134 : f_134 (n + 2) = some (aQ E 7 0 (fun _ => none)) := (hfr_134 _ (by omega)).trans (q_ne (by omega) hn___2_22)
        have hn___3_134 : f_134 (n + 3) = some (aQ E 7 0 (fun _ => none)) := (hfr_134 _ (by omega)).trans (q_ne (by omega) hn___3_22)
        have hn___4_134 : f_134 (n + 4) = some (aQ E 6 0 (fun _ => none)) := (hfr_134 _ (by omega)).trans (q_ne (by omega) hn___4_22)
        refine q_put hx hb hts hown hA hW hS iX13 tyX13 tyX13_ok nmX13 hn_134 rfl 1 (by decide) (hts (.fieldLink RX13 41 "HighRecipesLaw$Act" "whom" "I") (by decide +kernel)) (fun _ h9 => h9) rfl rfl rfl (Nat.le_of_ble_eq_true rfl) dX13_drawn_137 (fun H locs hW hS => ?_)
        have hW : q_W E (va_up f_134 n (some (cLA 2 (nI j_134) none (some (n + 1)) (some ((n + 1) + 1)) (some ((n + 1) + 2)) (some ((n + 1) + 3)) none))) n_134 H := hW
        refine lv_aload hx hb dX13_drawn_140 (lv_at hl 1 rfl) ?_
        refine q_get hx hb hts hown hA hW iX13 q_eq rfl 0 (by decide) (hts (.fieldLink RX13 37 "HighRecipesLaw$Act" "does" "I") (by decide +kernel)) (fun _ h9 => h9) (v := .int 2) rfl dX13_drawn_142 ?_
        refine lv_iconst (v := 2) hx hb dX13_drawn_145 (by decide) ?_
        refine lv_icmp_lt (tgt := 168) hx hb dX13_drawn_146 (by decide) (fun c_146 => absurd c_146 (by decide)) (fun c_146 => ?_)
        refine lv_aload hx hb dX13_drawn_149 (lv_at hl 1 rfl) ?_
        refine q_get hx hb hts hown hA hW iX13 q_eq rfl 0 (by decide) (hts (.fieldLink RX13 37 "HighRecipesLaw$Act" "does" "I") (by decide +kernel)) (fun _ h9 => h9) (v := .int 2) rfl dX13_drawn_151 ?_
        refine lv_iconst (v := 5) hx hb dX13_drawn_154 (by decide) ?_
        refine lv_icmp_eq (tgt := 168) hx hb dX13_drawn_155 (by decide) (fun c_155 => absurd c_155 (by decide)) (fun c_155 => ?_)
        refine lv_aload hx hb dX13_drawn_158 (lv_at hl 1 rfl) ?_
        refine q_get hx hb hts hown hA hW iX13 q_eq rfl 0 (by decide) (hts (.fieldLink RX13 37 "HighRecipesLaw$Act" "does" "I") (by decide +kernel)) (fun _ h9 => h9) (v := .int 2) rfl dX13_drawn_160 ?_
        refine lv_bipush (v := 6) hx hb dX13_drawn_163 (by decide) ?_
        refine lv_icmp_ne (tgt := 184) hx hb dX13_drawn_165 (by decide) (fun c_165 => ?_) (fun c_165 => absurd c_165 (by decide))
        refine lv_aload hx hb dX13_drawn_184 (lv_at hl 1 rfl) ?_
        refine q_get hx hb hts hown hA hW iX13 q_eq rfl 0 (by decide) (hts (.fieldLink RX13 37 "HighRecipesLaw$Act" "does" "I") (by decide +kernel)) (fun _ h9 => h9) (v := .int 2) rfl dX13_drawn_186 ?_
        refine lv_iconst (v := 2) hx hb dX13_drawn_189 (by decide) ?_
        refine lv_icmp_ne (tgt := 210) hx hb dX13_drawn_190 (by decide) (fun c_190 => absurd c_190 (by decide)) (fun c_190 => ?_)
        refine lv_aload hx hb dX13_drawn_193 (lv_at hl 1 rfl) ?_
        refine lv_aload_n hx hb dX13_drawn_195 rfl (lv_at hl 2 rfl) ?_
        refine lv_iload_n hx hb dX13_drawn_196 rfl (lv_at hl 3 rfl) ?_
        refine lv_iconst (v := 1) hx hb dX13_drawn_197 (by decide) ?_
        refine lv_sipush (v := 130) hx hb dX13_drawn_198 (by decide) ?_
        refine q_cq (va_runS (As := [.ref r, .int (nI pn), .int 1, .int 130]) (rest := [.ref n]) ⟨hx, hb, hml, hown, hts⟩ (kX16_drawn_1 l E (va_up f_134 n (some (cLA 2 (nI j_134) none (some (n + 1)) (some ((n + 1) + 1)) (some ((n + 1) + 2)) (some ((n + 1) + 3)) none))) n_134 r pn 130 s1_134 (q_ne (by omega) e0_134) hp1 hp2 (by decide) (by decide)) (va_cwS 4 hts gX13_drawn_X16_drawn rfl rfl rfl (by decide +kernel) ⟨(Nat.le_of_ble_eq_true rfl), (Nat.le_of_ble_eq_true rfl)⟩) (q_pS hA hW hS) rfl rfl hl.1 rfl (lv_room (Nat.le_of_ble_eq_true rfl)) dX13_drawn_201 ⟨(by show _ ≤ 15; omega), (by show _ ≤ 42; omega)⟩) hS (fun r_201 f_201 n_201 H locs hp hW hS => ?_)
        obtain ⟨a_201, s1_201, D_201, V_201, rfl, e0_201, en_201, eN_201, hfr_201⟩ := hp
        have l_e0_201 := hW.lt e0_201
        have hla_201 : f_201 la = some (aI E 1 g) := (hfr_201 _ (by omega) (by omega)).trans (q_ne (by omega) hla_134)
        have hn_201 : f_201 n = some (cLA 2 (nI j_134) none (some (n + 1)) (some ((n + 1) + 1)) (some ((n + 1) + 2)) (some ((n + 1) + 3)) none) := (hfr_201 _ (by omega) (by omega)).trans q_eq
        have hn___1_201 : f_201 (n + 1) = some (aI E 0 (fun _ => 0)) := (hfr_201 _ (by omega) (by omega)).trans (q_ne (by omega) hn___1_134)
        have hn___2_201 : f_201 (n + 2) = some (aQ E 7 0 (fun _ => none)) := (hfr_201 _ (by omega) (by omega)).trans (q_ne (by omega) hn___2_134)
        have hn___3_201 : f_201 (n + 3) = some (aQ E 7 0 (fun _ => none)) := (hfr_201 _ (by omega) (by omega)).trans (q_ne (by omega) hn___3_134)
        have hn___4_201 : f_201 (n + 4) = some (aQ E 6 0 (fun _ => none)) := (hfr_201 _ (by omega) (by omega)).trans (q_ne (by omega) hn___4_134)
        refine q_put hx hb hts hown hA hW hS iX13 tyX13 tyX13_ok nmX13 hn_201 rfl 2 (by decide) (hts (.fieldLink RX13 47 "HighRecipesLaw$Act" "value" "LHighRecipesLaw$Node;") (by decide +kernel)) (fun _ h9 => h9) rfl rfl rfl (Nat.le_of_ble_eq_true rfl) dX13_drawn_204 (fun H locs hW hS => ?_)
        have hW : q_W E (va_up f_201 n (some (cLA 2 (nI j_134) (some a_201) (some (n + 1)) (some ((n + 1) + 1)) (some ((n + 1) + 2)) (some ((n + 1) + 3)) none))) n_201 H := hW
        refine lv_goto (tgt := 283) hx hb dX13_drawn_207 (by decide) ?_
        refine lv_aload hx hb dX13_drawn_283 (lv_at hl 1 rfl) ?_
        refine q_get hx hb hts hown hA hW iX13 q_eq rfl 0 (by decide) (hts (.fieldLink RX13 37 "HighRecipesLaw$Act" "does" "I") (by decide +kernel)) (fun _ h9 => h9) (v := .int 2) rfl dX13_drawn_285 ?_
        refine lv_bipush (v := 9) hx hb dX13_drawn_288 (by decide) ?_
        refine lv_icmp_ne (tgt := 392) hx hb dX13_drawn_290 (by decide) (fun c_290 => ?_) (fun c_290 => absurd c_290 (by decide))
        refine lv_aload hx hb dX13_drawn_392 (lv_at hl 1 rfl) ?_
        refine q_get hx hb hts hown hA hW iX13 q_eq rfl 0 (by decide) (hts (.fieldLink RX13 37 "HighRecipesLaw$Act" "does" "I") (by decide +kernel)) (fun _ h9 => h9) (v := .int 2) rfl dX13_drawn_394 ?_
        refine lv_bipush (v := 7) hx hb dX13_drawn_397 (by decide) ?_
        refine lv_icmp_le (tgt := 418) hx hb dX13_drawn_399 (by decide) (fun c_399 => ?_) (fun c_399 => absurd c_399 (by decide))
        refine lv_aload hx hb dX13_drawn_418 (lv_at hl 1 rfl) ?_
        refine q_get hx hb hts hown hA hW iX13 q_eq rfl 0 (by decide) (hts (.fieldLink RX13 37 "HighRecipesLaw$Act" "does" "I") (by decide +kernel)) (fun _ h9 => h9) (v := .int 2) rfl dX13_drawn_420 ?_
        refine lv_bipush (v := 9) hx hb dX13_drawn_423 (by decide) ?_
        refine lv_icmp_ne (tgt := 452) hx hb dX13_drawn_425 (by decide) (fun c_425 => ?_) (fun c_425 => absurd c_425 (by decide))
        refine lv_aload hx hb dX13_drawn_452 (lv_at hl 1 rfl) ?_
        have H201 : ∀ q : Nat, (n_134 ≤ q ∧ q < n_201) → (n ≤ q ∧ q < n_201) ∧ (va_up f_201 n (some (cLA 2 (nI j_134) (some a_201) (some (n + 1)) (some ((n + 1) + 1)) (some ((n + 1) + 2)) (some ((n + 1) + 3)) none))) q = f_201 q := fun q hq => ⟨⟨by omega, by omega⟩, (q_ne (by omega) rfl)⟩
        exact q_aret (v := some n) hx hb hr (Or.inl ⟨_, rfl⟩) hlocks hW hS ⟨n, (k_heat pn j_134 D_201), (kt 15 ++ pT j_134 ++ kt 16 ++ V_201 ++ kt 12), 0, s1_201, g, rfl, (q_ne (by omega) e0_201), (q_ne (by omega) hla_201), (Nat.zero_le _), hg, (by omega), (⟨⟨by omega, by omega⟩, _, _, _, _, _, _, _, _, q_eq, Or.inr (Or.inl ⟨j_134, _, D_201, V_201, ej_134, rfl, rfl, rfl, rfl, (NODE.to H201 eN_201), ⟨⟨by omega, by omega⟩, (show _ = some (aQ E 6 0 (lf [])) from (q_ne (by omega) hn___4_201)), fun x hx => absurd hx List.not_mem_nil⟩, rfl⟩)⟩), (fun q g0 g1 g2 => (q_ne (by omega) ((hfr_201 _ (by omega) (by omega)).trans (q_ne (by omega) ((hfr_134 _ (by omega)).trans (q_ne (by omega) ((hfr_22 _ (by omega)).trans ((hfr_4 _ (by omega) (by omega)).trans (q_ne (by omega) rfl)))))))))⟩ (by show _ ≤ 15; omega) (by show _ ≤ 42; omega) dX13_drawn_454
    · have g42 : j_22 < 5 := q_gtn (a := 5) (b := j_22) (by decide) c_42 (by omega)
      refine lv_iconst (v := 1) hx hb dX13_drawn_45 (by decide) ?_
      refine lv_goto (tgt := 109) hx hb dX13_drawn_46 (by decide) ?_
      refine q_put hx hb hts hown hA hW hS iX13 tyX13 tyX13_ok nmX13 hn_22 rfl 0 (by decide) (hts (.fieldLink RX13 37 "HighRecipesLaw$Act" "does" "I") (by decide +kernel)) (fun _ h9 => h9) rfl rfl rfl (Nat.le_of_ble_eq_true rfl) dX13_drawn_109 (fun H locs hW hS => ?_)
      have hW : q_W E (va_up f_22 n (some (cLA 1 0 none (some (n + 1)) (some ((n + 1) + 1)) (some ((n + 1) + 2)) (some ((n + 1) + 3)) none))) n_22 H := hW
      refine lv_aload hx hb dX13_drawn_112 (lv_at hl 1 rfl) ?_
      refine lv_aload hx hb dX13_drawn_114 (lv_at hl 1 rfl) ?_
      refine q_get hx hb hts hown hA hW iX13 q_eq rfl 0 (by decide) (hts (.fieldLink RX13 37 "HighRecipesLaw$Act" "does" "I") (by decide +kernel)) (fun _ h9 => h9) (v := .int 1) rfl dX13_drawn_116 ?_
      refine lv_bipush (v := 7) hx hb dX13_drawn_119 (by decide) ?_
      refine lv_icmp_ne (tgt := 132) hx hb dX13_drawn_121 (by decide) (fun c_121 => ?_) (fun c_121 => absurd c_121 (by decide))
      refine lv_aload_n hx hb dX13_drawn_132 rfl (lv_at hl 2 rfl) ?_
      refine lv_iload_n hx hb dX13_drawn_133 rfl (lv_at hl 3 rfl) ?_
      refine q_ci (va_runV (As := [.int (nI pn)]) (rest := [.ref n]) ⟨hx, hb, hml, hown, hts⟩ (kX14_next l E (va_up f_22 n (some (cLA 1 0 none (some (n + 1)) (some ((n + 1) + 1)) (some ((n + 1) + 2)) (some ((n + 1) + 3)) none))) n_22 r pn s1_22 (q_ne (by omega) e0_22) (by omega) (by omega)) (cwV 1 hts gX13_drawn_X14_next rfl rfl rfl (by decide +kernel) ⟨(Nat.le_of_ble_eq_true rfl), (Nat.le_of_ble_eq_true rfl)⟩) (q_pV hA hW hS (ci := 14) rfl (q_ne (by omega) e0_22)) rfl rfl hl.1 rfl (lv_room (Nat.le_of_ble_eq_true rfl)) dX13_drawn_134 ⟨(by show _ ≤ 15; omega), (by show _ ≤ 42; omega)⟩) hS (fun r_134 f_134 n_134 H locs hp hW hS => ?_)
      obtain ⟨j_134, s1_134, rfl, e0_134, ej_134, en_134, hfr_134⟩ := hp
      have l_e0_134 := hW.lt e0_134
      have hla_134 : f_134 la = some (aI E 1 g) := (hfr_134 _ (by omega)).trans (q_ne (by omega) hla_22)
      have hn_134 : f_134 n = some (cLA 1 0 none (some (n + 1)) (some ((n + 1) + 1)) (some ((n + 1) + 2)) (some ((n + 1) + 3)) none) := (hfr_134 _ (by omega)).trans q_eq
      have hn___1_134 : f_134 (n + 1) = some (aI E 0 (fun _ => 0)) := (hfr_134 _ (by omega)).trans (q_ne (by omega) hn___1_22)
      have hn___2_134 : f_134 (n + 2) = some (aQ E 7 0 (fun _ => none)) := (hfr_134 _ (by omega)).trans (q_ne (by omega) hn___2_22)
      have hn___3_134 : f_134 (n + 3) = some (aQ E 7 0 (fun _ => none)) := (hfr_134 _ (by omega)).trans (q_ne (by omega) hn___3_22)
      have hn___4_134 : f_134 (n + 4) = some (aQ E 6 0 (fun _ => none)) := (hfr_134 _ (by omega)).trans (q_ne (by omega) hn___4_22)
      refine q_put hx hb hts hown hA hW hS iX13 tyX13 tyX13_ok nmX13 hn_134 rfl 1 (by decide) (hts (.fieldLink RX13 41 "HighRecipesLaw$Act" "whom" "I") (by decide +kernel)) (fun _ h9 => h9) rfl rfl rfl (Nat.le_of_ble_eq_true rfl) dX13_drawn_137 (fun H locs hW hS => ?_)
      have hW : q_W E (va_up f_134 n (some (cLA 1 (nI j_134) none (some (n + 1)) (some ((n + 1) + 1)) (some ((n + 1) + 2)) (some ((n + 1) + 3)) none))) n_134 H := hW
      refine lv_aload hx hb dX13_drawn_140 (lv_at hl 1 rfl) ?_
      refine q_get hx hb hts hown hA hW iX13 q_eq rfl 0 (by decide) (hts (.fieldLink RX13 37 "HighRecipesLaw$Act" "does" "I") (by decide +kernel)) (fun _ h9 => h9) (v := .int 1) rfl dX13_drawn_142 ?_
      refine lv_iconst (v := 2) hx hb dX13_drawn_145 (by decide) ?_
      refine lv_icmp_lt (tgt := 168) hx hb dX13_drawn_146 (by decide) (fun c_146 => ?_) (fun c_146 => absurd c_146 (by decide))
      refine lv_aload hx hb dX13_drawn_168 (lv_at hl 1 rfl) ?_
      refine lv_aload_n hx hb dX13_drawn_170 rfl (lv_at hl 2 rfl) ?_
      refine lv_iload_n hx hb dX13_drawn_171 rfl (lv_at hl 3 rfl) ?_
      refine lv_iconst (v := 1) hx hb dX13_drawn_172 (by decide) ?_
      refine lv_bipush (v := 40) hx hb dX13_drawn_173 (by decide) ?_
      refine q_cq (va_runS (As := [.ref r, .int (nI pn), .int 1, .int 40]) (rest := [.ref n]) ⟨hx, hb, hml, hown, hts⟩ (kX16_drawn_1 l E (va_up f_134 n (some (cLA 1 (nI j_134) none (some (n + 1)) (some ((n + 1) + 1)) (some ((n + 1) + 2)) (some ((n + 1) + 3)) none))) n_134 r pn 40 s1_134 (q_ne (by omega) e0_134) hp1 hp2 (by decide) (by decide)) (va_cwS 4 hts gX13_drawn_X16_drawn rfl rfl rfl (by decide +kernel) ⟨(Nat.le_of_ble_eq_true rfl), (Nat.le_of_ble_eq_true rfl)⟩) (q_pS hA hW hS) rfl rfl hl.1 rfl (lv_room (Nat.le_of_ble_eq_true rfl)) dX13_drawn_175 ⟨(by show _ ≤ 15; omega), (by show _ ≤ 42; omega)⟩) hS (fun r_175 f_175 n_175 H locs hp hW hS => ?_)
      obtain ⟨a_175, s1_175, D_175, V_175, rfl, e0_175, en_175, eN_175, hfr_175⟩ := hp
      have l_e0_175 := hW.lt e0_175
      have hla_175 : f_175 la = some (aI E 1 g) := (hfr_175 _ (by omega) (by omega)).trans (q_ne (by omega) hla_134)
      have hn_175 : f_175 n = some (cLA 1 (nI j_134) none (some (n + 1)) (some ((n + 1) + 1)) (some ((n + 1) + 2)) (some ((n + 1) + 3)) none) := (hfr_175 _ (by omega) (by omega)).trans q_eq
      have hn___1_175 : f_175 (n + 1) = some (aI E 0 (fun _ => 0)) := (hfr_175 _ (by omega) (by omega)).trans (q_ne (by omega) hn___1_134)
      have hn___2_175 : f_175 (n + 2) = some (aQ E 7 0 (fun _ => none)) := (hfr_175 _ (by omega) (by omega)).trans (q_ne (by omega) hn___2_134)
      have hn___3_175 : f_175 (n + 3) = some (aQ E 7 0 (fun _ => none)) := (hfr_175 _ (by omega) (by omega)).trans (q_ne (by omega) hn___3_134)
      have hn___4_175 : f_175 (n + 4) = some (aQ E 6 0 (fun _ => none)) := (hfr_175 _ (by omega) (by omega)).trans (q_ne (by omega) hn___4_134)
      refine q_put hx hb hts hown hA hW hS iX13 tyX13 tyX13_ok nmX13 hn_175 rfl 2 (by decide) (hts (.fieldLink RX13 47 "HighRecipesLaw$Act" "value" "LHighRecipesLaw$Node;") (by decide +kernel)) (fun _ h9 => h9) rfl rfl rfl (Nat.le_of_ble_eq_true rfl) dX13_drawn_178 (fun H locs hW hS => ?_)
      have hW : q_W E (va_up f_175 n (some (cLA 1 (nI j_134) (some a_175) (some (n + 1)) (some ((n + 1) + 1)) (some ((n + 1) + 2)) (some ((n + 1) + 3)) none))) n_175 H := hW
      refine lv_goto (tgt := 283) hx hb dX13_drawn_181 (by decide) ?_
      refine lv_aload hx hb dX13_drawn_283 (lv_at hl 1 rfl) ?_
      refine q_get hx hb hts hown hA hW iX13 q_eq rfl 0 (by decide) (hts (.fieldLink RX13 37 "HighRecipesLaw$Act" "does" "I") (by decide +kernel)) (fun _ h9 => h9) (v := .int 1) rfl dX13_drawn_285 ?_
      refine lv_bipush (v := 9) hx hb dX13_drawn_288 (by decide) ?_
      refine lv_icmp_ne (tgt := 392) hx hb dX13_drawn_290 (by decide) (fun c_290 => ?_) (fun c_290 => absurd c_290 (by decide))
      refine lv_aload hx hb dX13_drawn_392 (lv_at hl 1 rfl) ?_
      refine q_get hx hb hts hown hA hW iX13 q_eq rfl 0 (by decide) (hts (.fieldLink RX13 37 "HighRecipesLaw$Act" "does" "I") (by decide +kernel)) (fun _ h9 => h9) (v := .int 1) rfl dX13_drawn_394 ?_
      refine lv_bipush (v := 7) hx hb dX13_drawn_397 (by decide) ?_
      refine lv_icmp_le (tgt := 418) hx hb dX13_drawn_399 (by decide) (fun c_399 => ?_) (fun c_399 => absurd c_399 (by decide))
      refine lv_aload hx hb dX13_drawn_418 (lv_at hl 1 rfl) ?_
      refine q_get hx hb hts hown hA hW iX13 q_eq rfl 0 (by decide) (hts (.fieldLink RX13 37 "HighRecipesLaw$Act" "does" "I") (by decide +kernel)) (fun _ h9 => h9) (v := .int 1) rfl dX13_drawn_420 ?_
      refine lv_bipush (v := 9) hx hb dX13_drawn_423 (by decide) ?_
      refine lv_icmp_ne (tgt := 452) hx hb dX13_drawn_425 (by decide) (fun c_425 => ?_) (fun c_425 => absurd c_425 (by decide))
      refine lv_aload hx hb dX13_drawn_452 (lv_at hl 1 rfl) ?_
      have H175 : ∀ q : Nat, (n_134 ≤ q ∧ q < n_175) → (n ≤ q ∧ q < n_175) ∧ (va_up f_175 n (some (cLA 1 (nI j_134) (some a_175) (some (n + 1)) (some ((n + 1) + 1)) (some ((n + 1) + 2)) (some ((n + 1) + 3)) none))) q = f_175 q := fun q hq => ⟨⟨by omega, by omega⟩, (q_ne (by omega) rfl)⟩
      exact q_aret (v := some n) hx hb hr (Or.inl ⟨_, rfl⟩) hlocks hW hS ⟨n, (k_pour pn j_134 (nI 1) D_175), (kt 6 ++ V_175 ++ kt (11 + 2 * 1) ++ pT j_134 ++ kt (12 + 2 * 1)), 0, s1_175, g, rfl, (q_ne (by omega) e0_175), (q_ne (by omega) hla_175), (Nat.zero_le _), hg, (by omega), (⟨⟨by omega, by omega⟩, _, _, _, _, _, _, _, _, q_eq, Or.inl ⟨1, j_134, _, D_175, V_175, by decide, ej_134, rfl, rfl, rfl, rfl, (NODE.to H175 eN_175), ⟨⟨by omega, by omega⟩, (show _ = some (aQ E 6 0 (lf [])) from (q_ne (by omega) hn___4_175)), fun x hx => absurd hx List.not_mem_nil⟩, rfl⟩⟩), (fun q g0 g1 g2 => (q_ne (by omega) ((hfr_175 _ (by omega) (by omega)).trans (q_ne (by omega) ((hfr_134 _ (by omega)).trans (q_ne (by omega) ((hfr_22 _ (by omega)).trans ((hfr_4 _ (by omega) (by omega)).trans (q_ne (by omega) rfl)))))))))⟩ (by show _ ≤ 15; omega) (by show _ ≤ 42; omega) dX13_drawn_454
  · have g32 : j_22 < 3 := q_gtn (a := 3) (b := j_22) (by decide) c_32 (by omega)
    refine lv_iconst (v := 0) hx hb dX13_drawn_35 (by decide) ?_
    refine lv_goto (tgt := 109) hx hb dX13_drawn_36 (by decide) ?_
    refine q_put hx hb hts hown hA hW hS iX13 tyX13 tyX13_ok nmX13 hn_22 rfl 0 (by decide) (hts (.fieldLink RX13 37 "HighRecipesLaw$Act" "does" "I") (by decide +kernel)) (fun _ h9 => h9) rfl rfl rfl (Nat.le_of_ble_eq_true rfl) dX13_drawn_109 (fun H locs hW hS => ?_)
    have hW : q_W E (va_up f_22 n (some (cLA 0 0 none (some (n + 1)) (some ((n + 1) + 1)) (some ((n + 1) + 2)) (some ((n + 1) + 3)) none))) n_22 H := hW
    refine lv_aload hx hb dX13_drawn_112 (lv_at hl 1 rfl) ?_
    refine lv_aload hx hb dX13_drawn_114 (lv_at hl 1 rfl) ?_
    refine q_get hx hb hts hown hA hW iX13 q_eq rfl 0 (by decide) (hts (.fieldLink RX13 37 "HighRecipesLaw$Act" "does" "I") (by decide +kernel)) (fun _ h9 => h9) (v := .int 0) rfl dX13_drawn_116 ?_
    refine lv_bipush (v := 7) hx hb dX13_drawn_119 (by decide) ?_
    refine lv_icmp_ne (tgt := 132) hx hb dX13_drawn_121 (by decide) (fun c_121 => ?_) (fun c_121 => absurd c_121 (by decide))
    refine lv_aload_n hx hb dX13_drawn_132 rfl (lv_at hl 2 rfl) ?_
    refine lv_iload_n hx hb dX13_drawn_133 rfl (lv_at hl 3 rfl) ?_
    refine q_ci (va_runV (As := [.int (nI pn)]) (rest := [.ref n]) ⟨hx, hb, hml, hown, hts⟩ (kX14_next l E (va_up f_22 n (some (cLA 0 0 none (some (n + 1)) (some ((n + 1) + 1)) (some ((n + 1) + 2)) (some ((n + 1) + 3)) none))) n_22 r pn s1_22 (q_ne (by omega) e0_22) (by omega) (by omega)) (cwV 1 hts gX13_drawn_X14_next rfl rfl rfl (by decide +kernel) ⟨(Nat.le_of_ble_eq_true rfl), (Nat.le_of_ble_eq_true rfl)⟩) (q_pV hA hW hS (ci := 14) rfl (q_ne (by omega) e0_22)) rfl rfl hl.1 rfl (lv_room (Nat.le_of_ble_eq_true rfl)) dX13_drawn_134 ⟨(by show _ ≤ 15; omega), (by show _ ≤ 42; omega)⟩) hS (fun r_134 f_134 n_134 H locs hp hW hS => ?_)
    obtain ⟨j_134, s1_134, rfl, e0_134, ej_134, en_134, hfr_134⟩ := hp
    have l_e0_134 := hW.lt e0_134
    have hla_134 : f_134 la = some (aI E 1 g) := (hfr_134 _ (by omega)).trans (q_ne (by omega) hla_22)
    have hn_134 : f_134 n = some (cLA 0 0 none (some (n + 1)) (some ((n + 1) + 1)) (some ((n + 1) + 2)) (some ((n + 1) + 3)) none) := (hfr_134 _ (by omega)).trans q_eq
    have hn___1_134 : f_134 (n + 1) = some (aI E 0 (fun _ => 0)) := (hfr_134 _ (by omega)).trans (q_ne (by omega) hn___1_22)
    have hn___2_134 : f_134 (n + 2) = some (aQ E 7 0 (fun _ => none)) := (hfr_134 _ (by omega)).trans (q_ne (by omega) hn___2_22)
    have hn___3_134 : f_134 (n + 3) = some (aQ E 7 0 (fun _ => none)) := (hfr_134 _ (by omega)).trans (q_ne (by omega) hn___3_22)
    have hn___4_134 : f_134 (n + 4) = some (aQ E 6 0 (fun _ => none)) := (hfr_134 _ (by omega)).trans (q_ne (by omega) hn___4_22)
    refine q_put hx hb hts hown hA hW hS iX13 tyX13 tyX13_ok nmX13 hn_134 rfl 1 (by decide) (hts (.fieldLink RX13 41 "HighRecipesLaw$Act" "whom" "I") (by decide +kernel)) (fun _ h9 => h9) rfl rfl rfl (Nat.le_of_ble_eq_true rfl) dX13_drawn_137 (fun H locs hW hS => ?_)
    have hW : q_W E (va_up f_134 n (some (cLA 0 (nI j_134) none (some (n + 1)) (some ((n + 1) + 1)) (some ((n + 1) + 2)) (some ((n + 1) + 3)) none))) n_134 H := hW
    refine lv_aload hx hb dX13_drawn_140 (lv_at hl 1 rfl) ?_
    refine q_get hx hb hts hown hA hW iX13 q_eq rfl 0 (by decide) (hts (.fieldLink RX13 37 "HighRecipesLaw$Act" "does" "I") (by decide +kernel)) (fun _ h9 => h9) (v := .int 0) rfl dX13_drawn_142 ?_
    refine lv_iconst (v := 2) hx hb dX13_drawn_145 (by decide) ?_
    refine lv_icmp_lt (tgt := 168) hx hb dX13_drawn_146 (by decide) (fun c_146 => ?_) (fun c_146 => absurd c_146 (by decide))
    refine lv_aload hx hb dX13_drawn_168 (lv_at hl 1 rfl) ?_
    refine lv_aload_n hx hb dX13_drawn_170 rfl (lv_at hl 2 rfl) ?_
    refine lv_iload_n hx hb dX13_drawn_171 rfl (lv_at hl 3 rfl) ?_
    refine lv_iconst (v := 1) hx hb dX13_drawn_172 (by decide) ?_
    refine lv_bipush (v := 40) hx hb dX13_drawn_173 (by decide) ?_
    refine q_cq (va_runS (As := [.ref r, .int (nI pn), .int 1, .int 40]) (rest := [.ref n]) ⟨hx, hb, hml, hown, hts⟩ (kX16_drawn_1 l E (va_up f_134 n (some (cLA 0 (nI j_134) none (some (n + 1)) (some ((n + 1) + 1)) (some ((n + 1) + 2)) (some ((n + 1) + 3)) none))) n_134 r pn 40 s1_134 (q_ne (by omega) e0_134) hp1 hp2 (by decide) (by decide)) (va_cwS 4 hts gX13_drawn_X16_drawn rfl rfl rfl (by decide +kernel) ⟨(Nat.le_of_ble_eq_true rfl), (Nat.le_of_ble_eq_true rfl)⟩) (q_pS hA hW hS) rfl rfl hl.1 rfl (lv_room (Nat.le_of_ble_eq_true rfl)) dX13_drawn_175 ⟨(by show _ ≤ 15; omega), (by show _ ≤ 42; omega)⟩) hS (fun r_175 f_175 n_175 H locs hp hW hS => ?_)
    obtain ⟨a_175, s1_175, D_175, V_175, rfl, e0_175, en_175, eN_175, hfr_175⟩ := hp
    have l_e0_175 := hW.lt e0_175
    have hla_175 : f_175 la = some (aI E 1 g) := (hfr_175 _ (by omega) (by omega)).trans (q_ne (by omega) hla_134)
    have hn_175 : f_175 n = some (cLA 0 (nI j_134) none (some (n + 1)) (some ((n + 1) + 1)) (some ((n + 1) + 2)) (some ((n + 1) + 3)) none) := (hfr_175 _ (by omega) (by omega)).trans q_eq
    have hn___1_175 : f_175 (n + 1) = some (aI E 0 (fun _ => 0)) := (hfr_175 _ (by omega) (by omega)).trans (q_ne (by omega) hn___1_134)
    have hn___2_175 : f_175 (n + 2) = some (aQ E 7 0 (fun _ => none)) := (hfr_175 _ (by omega) (by omega)).trans (q_ne (by omega) hn___2_134)
    have hn___3_175 : f_175 (n + 3) = some (aQ E 7 0 (fun _ => none)) := (hfr_175 _ (by omega) (by omega)).trans (q_ne (by omega) hn___3_134)
    have hn___4_175 : f_175 (n + 4) = some (aQ E 6 0 (fun _ => none)) := (hfr_175 _ (by omega) (by omega)).trans (q_ne (by omega) hn___4_134)
    refine q_put hx hb hts hown hA hW hS iX13 tyX13 tyX13_ok nmX13 hn_175 rfl 2 (by decide) (hts (.fieldLink RX13 47 "HighRecipesLaw$Act" "value" "LHighRecipesLaw$Node;") (by decide +kernel)) (fun _ h9 => h9) rfl rfl rfl (Nat.le_of_ble_eq_true rfl) dX13_drawn_178 (fun H locs hW hS => ?_)
    have hW : q_W E (va_up f_175 n (some (cLA 0 (nI j_134) (some a_175) (some (n + 1)) (some ((n + 1) + 1)) (some ((n + 1) + 2)) (some ((n + 1) + 3)) none))) n_175 H := hW
    refine lv_goto (tgt := 283) hx hb dX13_drawn_181 (by decide) ?_
    refine lv_aload hx hb dX13_drawn_283 (lv_at hl 1 rfl) ?_
    refine q_get hx hb hts hown hA hW iX13 q_eq rfl 0 (by decide) (hts (.fieldLink RX13 37 "HighRecipesLaw$Act" "does" "I") (by decide +kernel)) (fun _ h9 => h9) (v := .int 0) rfl dX13_drawn_285 ?_
    refine lv_bipush (v := 9) hx hb dX13_drawn_288 (by decide) ?_
    refine lv_icmp_ne (tgt := 392) hx hb dX13_drawn_290 (by decide) (fun c_290 => ?_) (fun c_290 => absurd c_290 (by decide))
    refine lv_aload hx hb dX13_drawn_392 (lv_at hl 1 rfl) ?_
    refine q_get hx hb hts hown hA hW iX13 q_eq rfl 0 (by decide) (hts (.fieldLink RX13 37 "HighRecipesLaw$Act" "does" "I") (by decide +kernel)) (fun _ h9 => h9) (v := .int 0) rfl dX13_drawn_394 ?_
    refine lv_bipush (v := 7) hx hb dX13_drawn_397 (by decide) ?_
    refine lv_icmp_le (tgt := 418) hx hb dX13_drawn_399 (by decide) (fun c_399 => ?_) (fun c_399 => absurd c_399 (by decide))
    refine lv_aload hx hb dX13_drawn_418 (lv_at hl 1 rfl) ?_
    refine q_get hx hb hts hown hA hW iX13 q_eq rfl 0 (by decide) (hts (.fieldLink RX13 37 "HighRecipesLaw$Act" "does" "I") (by decide +kernel)) (fun _ h9 => h9) (v := .int 0) rfl dX13_drawn_420 ?_
    refine lv_bipush (v := 9) hx hb dX13_drawn_423 (by decide) ?_
    refine lv_icmp_ne (tgt := 452) hx hb dX13_drawn_425 (by decide) (fun c_425 => ?_) (fun c_425 => absurd c_425 (by decide))
    refine lv_aload hx hb dX13_drawn_452 (lv_at hl 1 rfl) ?_
    have H175 : ∀ q : Nat, (n_134 ≤ q ∧ q < n_175) → (n ≤ q ∧ q < n_175) ∧ (va_up f_175 n (some (cLA 0 (nI j_134) (some a_175) (some (n + 1)) (some ((n + 1) + 1)) (some ((n + 1) + 2)) (some ((n + 1) + 3)) none))) q = f_175 q := fun q hq => ⟨⟨by omega, by omega⟩, (q_ne (by omega) rfl)⟩
    exact q_aret (v := some n) hx hb hr (Or.inl ⟨_, rfl⟩) hlocks hW hS ⟨n, (k_pour pn j_134 (nI 0) D_175), (kt 6 ++ V_175 ++ kt (11 + 2 * 0) ++ pT j_134 ++ kt (12 + 2 * 0)), 0, s1_175, g, rfl, (q_ne (by omega) e0_175), (q_ne (by omega) hla_175), (Nat.zero_le _), hg, (by omega), (⟨⟨by omega, by omega⟩, _, _, _, _, _, _, _, _, q_eq, Or.inl ⟨0, j_134, _, D_175, V_175, by decide, ej_134, rfl, rfl, rfl, rfl, (NODE.to H175 eN_175), ⟨⟨by omega, by omega⟩, (show _ = some (aQ E 6 0 (lf [])) from (q_ne (by omega) hn___4_175)), fun x hx => absurd hx List.not_mem_nil⟩, rfl⟩⟩), (fun q g0 g1 g2 => (q_ne (by omega) ((hfr_175 _ (by omega) (by omega)).trans (q_ne (by omega) ((hfr_134 _ (by omega)).trans (q_ne (by omega) ((hfr_22 _ (by omega)).trans ((hfr_4 _ (by omega) (by omega)).trans (q_ne (by omega) rfl)))))))))⟩ (by show _ ≤ 15; omega) (by show _ ≤ 42; omega) dX13_drawn_454

set_option maxHeartbeats 4000000 in
set_option maxRecDepth 100000 in
theorem kX13_some_3 (l : Launch) (E : q_E) (f : q_H) (n : Nat) (r la pn R q : Nat) (RS : Nat → q_S) (s : Int32) (g : Nat → Int32) (h0 : f r = some (cDice s)) (h1 : f la = some (aI E 1 g)) (hp1 : 1 ≤ pn) (hp2 : pn ≤ 8) (hR : R ≤ 6) (hq : q ≤ 100) (hg : g 0 = nI q) : Met l yX13_some wsX13_some ({ frames := 12, cells := 31, slots := 86, locals := 360 }) (q_P E [.ref r, .int (nI pn), .int (nI R), .int 3, .ref la] f n) (q_Qq E (fun r0 f1 n1 => ∃ (b : Nat) (L : List LT) (s1 : Int32) (g1 : Nat → Int32), some b = r0 ∧ f1 r = some (cDice s1) ∧ f1 la = some (aI E 1 g1) ∧ bC L ≤ q ∧ g1 0 = nI (q - bC L) ∧ n ≤ n1 ∧ LB (fun q => n ≤ q ∧ q < n1) E f1 (LACT E pn R RS (fun q => n ≤ q ∧ q < n1) f1 1) b L ∧ ∀ z9, z9 ≠ r → z9 ≠ la → z9 < n → f1 z9 = f z9)) 31 86 (q_ge E) := by
  refine Met.ofW (cc := cX13_some) (maxL := 8) (ret := (some (.array (.object "HighRecipesLaw$Act")))) (by decide) rfl ?_
  intro p0_ e0_ s0_ m0_ args0_ below0_ meth0_ c0_ s1_ B hml hv
  obtain ⟨rfl, hA, hW⟩ := hv
  have hx := B.exec
  have hb := B.bytes
  have hr := B.returns
  have hts := atoms_spec (ws := wsX13_some) B.pre
  have hown : s0_.vm.findClass RX13 = some m0_.cls := findClass_of_methodNamed B.named
  have hlocks := B.notSynchronized
  have hS : va_S (q_ge E) s0_.heap s0_.heap [] := va_S.rf
  have hl := lv_entry ([.ref r, .int (nI pn), .int (nI R), .int 3, .ref la]) (n := 8) (Nat.le_of_ble_eq_true rfl)
  rw [lg_entry_eq]
  generalize (lg_sl ([.ref r, .int (nI pn), .int (nI R), .int 3, .ref la]) ++ List.replicate (8 - (lg_sl ([.ref r, .int (nI pn), .int (nI R), .int 3, .ref la])).length) Slot.unset).toArray = ls at hl ⊢
  have hl : lv_has ls 8 [(0, .ref r), (1, .int (nI pn)), (2, .int (nI R)), (3, .int 3), (4, .ref la)] := hl
  have l_h0 := hW.lt h0
  have l_h1 := hW.lt h1
  have hrl := ne_ab h0 h1
  refine lv_aload_n hx hb dX13_some_0 rfl (lv_at hl 0 rfl) ?_
  refine lv_iload_n hx hb dX13_some_1 rfl (lv_at hl 3 rfl) ?_
  refine lv_if_ne (tgt := 9) hx hb dX13_some_2 (by decide) (fun c_2 => ?_) (fun c_2 => absurd c_2 (by decide))
  refine lv_iconst (v := 3) hx hb dX13_some_9 (by decide) ?_
  refine q_ci (va_runV (As := [.int 3]) (rest := []) ⟨hx, hb, hml, hown, hts⟩ (kX14_next l E f n r 3 s h0 (by decide) (by decide)) (cwV 1 hts gX13_some_X14_next rfl rfl rfl (by decide +kernel) ⟨(Nat.le_of_ble_eq_true rfl), (Nat.le_of_ble_eq_true rfl)⟩) (q_pV hA hW hS (ci := 14) rfl h0) rfl rfl hl.1 rfl (lv_room (Nat.le_of_ble_eq_true rfl)) dX13_some_10 ⟨(by show _ ≤ 31; omega), (by show _ ≤ 86; omega)⟩) hS (fun r_10 f_10 n_10 H locs hp hW hS => ?_)
  obtain ⟨j_10, s1_10, rfl, e0_10, ej_10, en_10, hfr_10⟩ := hp
  have l_e0_10 := hW.lt e0_10
  have hla_10 : f_10 la = some (aI E 1 g) := (hfr_10 _ (by omega)).trans h1
  refine lv_istore (lv' := [(5, .int (nI j_10)), (0, .ref r), (1, .int (nI pn)), (2, .int (nI R)), (3, .int 3), (4, .ref la)]) hx hb dX13_some_13 hl (by decide) rfl (fun ls hl => ?_)
  refine lv_iload hx hb dX13_some_15 (lv_at hl 0 rfl) ?_
  refine lv_aload hx hb dX13_some_17 (lv_at hl 5 rfl) ?_
  refine lv_iconst (v := 0) hx hb dX13_some_19 (by decide) ?_
  refine q_iald hx hb hA hW hla_10 (vp_in_nI (by decide) (by decide)) dX13_some_20 ?_
  rw [show g (0 : Int32).toNatClampNeg = nI q from hg]
  refine lv_icmp_ge (tgt := 29) hx hb dX13_some_21 (by decide) (fun c_21 => ?_) (fun c_21 => ?_)
  · have h21 : q ≤ j_10 := q_leN (by omega) c_21
    refine lv_aload hx hb dX13_some_29 (lv_at hl 5 rfl) ?_
    refine lv_iconst (v := 0) hx hb dX13_some_31 (by decide) ?_
    refine q_iald hx hb hA hW hla_10 (vp_in_nI (by decide) (by decide)) dX13_some_32 ?_
    rw [show g (0 : Int32).toNatClampNeg = nI q from hg]
    obtain ⟨m, hm, hm1, hm2⟩ : ∃ m, m ≤ q ∧ m < 3 ∧ nI q = nI m := ⟨_, by omega, by omega, rfl⟩
    rw [hm2]
    refine q_newq hx hb hown hA hW hS (hts (.classLink RX13 8 "HighRecipesLaw$Act") (by decide +kernel)) (hA.2.2.2.2.2.2.2.1 "HighRecipesLaw$Act" (by decide +kernel)) 6 rfl (N' := m) (nI_pos (by omega)) (nI_clamp (by omega)) (by show m * 4 ≤ 536870912; omega) (by show _ ≤ 31; omega) (by show _ ≤ 86; omega) dX13_some_33 (fun H hW hS => ?_)
    have hW : q_W E (va_up f_10 n_10 (some (aQ E 6 m (fun _ => none)))) (n_10 + 1) H := hW
    refine lv_astore (lv' := [(6, .ref n_10), (5, .int (nI j_10)), (0, .ref r), (1, .int (nI pn)), (2, .int (nI R)), (3, .int 3), (4, .ref la)]) hx hb dX13_some_36 hl (by decide) rfl (fun ls hl => ?_)
    refine lv_aload hx hb dX13_some_38 (lv_at hl 6 rfl) ?_
    refine lv_iconst (v := 0) hx hb dX13_some_40 (by decide) ?_
    refine lv_dup2_11 hx hb dX13_some_41 rfl rfl ?_
    refine q_iald hx hb hA hW (q_ne (by omega) hla_10) (vp_in_nI (by decide) (by decide)) dX13_some_42 ?_
    rw [show g (0 : Int32).toNatClampNeg = nI q from hg]
    refine lv_aload hx hb dX13_some_43 (lv_at hl 0 rfl) ?_
    refine q_alen hx hb hA hW 6 rfl q_eq (v := nI m) rfl dX13_some_45 ?_
    refine lv_isub hx hb dX13_some_46 ?_
    rw [show nI q - nI m = nI (q - m) from pk_sub hm]
    refine q_iast hx hb hA hW hS (q_ne (by omega) hla_10) (vp_in_nI (by decide) (by decide)) dX13_some_47 (fun H locs hW hS => ?_)
    rw [show (0 : Int32).toNatClampNeg = 0 from (by decide)] at hW
    have hW : q_W E (va_up (va_up f_10 n_10 (some (aQ E 6 m (fun _ => none)))) la (some (aI E 1 (upd g 0 (nI (q - m)))))) (n_10 + 1) H := hW
    refine lv_iconst (v := 0) hx hb dX13_some_48 (by decide) ?_
    refine lv_istore (lv' := [(7, .int 0), (6, .ref n_10), (5, .int (nI j_10)), (0, .ref r), (1, .int (nI pn)), (2, .int (nI R)), (3, .int 3), (4, .ref la)]) hx hb dX13_some_49 hl (by decide) rfl (fun ls hl => ?_)
    have K51 : ∀ (fu : Nat) (F : q_H) (N : Nat) (L : List LT) (s9 : Int32) (g9 : Nat → Int32) (b9 : Nat) (hd : F r = some (cDice s9)) (hla : F la = some (aI E 1 g9)) (hb9 : F b9 = some (aQ E 6 m (lf L))) (hLm : L.length ≤ m) (hLq : bC L + m ≤ q + L.length) (hg9 : g9 0 = nI (q + L.length - m - bC L)) (hN : b9 < N) (hnb : n ≤ b9) (hLA : ∀ x ∈ L, LACT E pn R RS (fun q => b9 < q ∧ q < N) F 1 x) (hfr_K51 : ∀ z9, z9 ≠ r → z9 ≠ la → z9 < n → F z9 = f z9) (hm : m - L.length < fu) (H : Heap) (locs : List Loc) (ls : Array Slot), q_W E (F) N H → va_S (q_ge E) s0_.heap H locs → lv_has ls 8 [(0, .ref r), (1, .int (nI pn)), (2, .int (nI R)), (3, .int 3), (4, .ref la), (6, .ref b9), (7, .int (nI L.length))] → W p0_ l e0_ (headSpec wsX13_some ({ frames := 12, cells := 31, slots := 86, locals := 360 })).room s0_ m0_ ([.ref r, .int (nI pn), .int (nI R), .int 3, .ref la] : List Value).toArray below0_ meth0_ c0_ H locs (1 + L.length * 15) (m + L.length * 42) (MQ below0_ (q_Qq E (fun r0 f1 n1 => ∃ (b : Nat) (L : List LT) (s1 : Int32) (g1 : Nat → Int32), some b = r0 ∧ f1 r = some (cDice s1) ∧ f1 la = some (aI E 1 g1) ∧ bC L ≤ q ∧ g1 0 = nI (q - bC L) ∧ n ≤ n1 ∧ LB (fun q => n ≤ q ∧ q < n1) E f1 (LACT E pn R RS (fun q => n ≤ q ∧ q < n1) f1 1) b L ∧ ∀ z9, z9 ≠ r → z9 ≠ la → z9 < n → f1 z9 = f z9)) ([.ref r, .int (nI pn), .int (nI R), .int 3, .ref la] : List Value).toArray s0_ 31 86 (q_ge E)) (F0 m0_ 51 ls []) := by
      intro fu
      induction fu with
      | zero =>
        intro F N L s9 g9 b9 hd hla hb9 hLm hLq hg9 hN hnb hLA hfr_K51 hm
        exact absurd hm (Nat.not_lt_zero _)
      | succ fu ih =>
        intro F N L s9 g9 b9 hd hla hb9 hLm hLq hg9 hN hnb hLA hfr_K51 hm H locs ls hW hS hl
        refine lv_iload hx hb dX13_some_51 (lv_at hl 6 rfl) ?_
        refine lv_aload hx hb dX13_some_53 (lv_at hl 5 rfl) ?_
        refine q_alen hx hb hA hW 6 rfl hb9 (v := nI m) rfl dX13_some_55 ?_
        refine lv_icmp_ge (tgt := 79) hx hb dX13_some_56 (by decide) (fun c_56 => ?_) (fun c_56 => ?_)
        · have eLm : L.length = m := Nat.le_antisymm hLm (q_leN (by omega) c_56)
          refine lv_aload hx hb dX13_some_79 (lv_at hl 5 rfl) ?_
          exact q_aret (v := some b9) hx hb hr (Or.inr ⟨_, rfl⟩) hlocks hW hS ⟨b9, L, s9, g9, rfl, hd, hla, (by omega), (by rw [show q - bC L = q + L.length - m - bC L by omega]; exact hg9), (by omega), ⟨⟨hnb, hN⟩, (by rw [eLm]; exact hb9), (fun x hx => LACT.to (fun q (hq : b9 < q ∧ q < N) => ⟨⟨by omega, by omega⟩, rfl⟩) (Nat.le_refl _) (fun _ _ => rfl) 1 x (hLA x hx))⟩, (fun q g0 g1 g2 => ((hfr_K51 _ (by omega) (by omega) (by omega)).trans rfl))⟩ (by show _ ≤ 31; omega) (by show _ ≤ 86; omega) dX13_some_81
        · have hlt : L.length < m := q_gtn (by omega) c_56
          refine lv_aload hx hb dX13_some_59 (lv_at hl 5 rfl) ?_
          refine lv_iload hx hb dX13_some_61 (lv_at hl 6 rfl) ?_
          refine lv_aload_n hx hb dX13_some_63 rfl (lv_at hl 0 rfl) ?_
          refine lv_iload_n hx hb dX13_some_64 rfl (lv_at hl 1 rfl) ?_
          refine lv_iload_n hx hb dX13_some_65 rfl (lv_at hl 2 rfl) ?_
          refine lv_iload_n hx hb dX13_some_66 rfl (lv_at hl 3 rfl) ?_
          refine lv_aload hx hb dX13_some_67 (lv_at hl 4 rfl) ?_
          refine q_cq (va_runS (As := [.ref r, .int (nI pn), .int (nI R), .int 3, .ref la]) (rest := [.int (nI L.length), .ref b9]) ⟨hx, hb, hml, hown, hts⟩ (kX13_drawn_3 l E F N r la pn R (q + L.length - m - bC L) RS s9 g9 hd hla hp1 hp2 hR (by omega) hg9) (va_cwS 5 hts gX13_some_X13_drawn rfl rfl rfl (by decide +kernel) ⟨(Nat.le_of_ble_eq_true rfl), (Nat.le_of_ble_eq_true rfl)⟩) (q_pS hA hW hS) rfl rfl hl.1 rfl (lv_room (Nat.le_of_ble_eq_true rfl)) dX13_some_69 ⟨(by show _ ≤ 31; omega), (by show _ ≤ 86; omega)⟩) hS (fun r_69 f_69 n_69 H locs hp hW hS => ?_)
          obtain ⟨a_69, S_69, V_69, c_69, s1_69, g1_69, rfl, e0_69, e1_69, ec_69, eg_69, en_69, eA_69, hfr_69⟩ := hp
          have l_e0_69 := hW.lt e0_69
          have l_e1_69 := hW.lt e1_69
          have hb9_69 : f_69 b9 = some (aQ E 6 m (lf L)) := (hfr_69 _ (by omega) (by omega) (by omega)).trans hb9
          obtain ⟨do9, wh9, va9, sg9, on9, ot9, b8, el9, hcl⟩ := eA_69.cell
          refine q_aast hx hb hA hW hS 6 rfl hb9_69 hcl rfl (vp_in_nI hlt (by omega)) dX13_some_72 (fun H locs hW hS => ?_)
          rw [show (nI L.length).toNatClampNeg = L.length from (nI_clamp (by omega))] at hW
          rw [show va_up (lf L) L.length (some a_69) = lf (L ++ [(a_69, S_69, V_69, c_69)]) from lf_put (x := (a_69, S_69, V_69, c_69))] at hW
          have hW : q_W E (va_up f_69 b9 (some (aQ E 6 m (lf (L ++ [(a_69, S_69, V_69, c_69)]))))) n_69 H := hW
          refine lv_iinc (v := nI (L ++ [(a_69, S_69, V_69, c_69)]).length) (lv' := [(7, .int (nI (L ++ [(a_69, S_69, V_69, c_69)]).length)), (0, .ref r), (1, .int (nI pn)), (2, .int (nI R)), (3, .int 3), (4, .ref la), (6, .ref b9)]) hx hb dX13_some_73 hl (k := 6) rfl (by rw [List.length_append]; exact nI_1 _) (by decide) rfl (fun ls hl => ?_)
          refine lv_goto (tgt := 51) hx hb dX13_some_76 (by decide) ?_
          rw [show 1 + L.length * 15 + 15 = 1 + (L ++ [(a_69, S_69, V_69, c_69)]).length * 15 by rw [List.length_append]; show _ = 1 + (L.length + 1) * 15; omega, show m + L.length * 42 + 42 = m + (L ++ [(a_69, S_69, V_69, c_69)]).length * 42 by rw [List.length_append]; show _ = m + (L.length + 1) * 42; omega]
          have hl9 : (L ++ [(a_69, S_69, V_69, c_69)]).length = L.length + 1 := List.length_append
          exact ih (va_up f_69 b9 (some (aQ E 6 m (lf (L ++ [(a_69, S_69, V_69, c_69)]))))) n_69 (L ++ [(a_69, S_69, V_69, c_69)]) s1_69 g1_69 b9 (q_ne (by omega) e0_69) (q_ne (by omega) e1_69) q_eq (by rw [List.length_append]; exact hlt) (by rw [bC_app, List.length_append]; show bC L + 1 + c_69 + m ≤ q + (L.length + 1); omega) (by rw [bC_app, List.length_append, eg_69]; congr 1; show q + L.length - m - bC L - c_69 = q + (L.length + 1) - m - (bC L + 1 + c_69); omega) (by omega) hnb (fun x hx => (List.mem_append.mp hx).elim (fun h => LACT.to (fun q (hq : b9 < q ∧ q < N) => ⟨⟨by omega, by omega⟩, (q_ne (by omega) ((hfr_69 _ (by omega) (by omega) (by omega)).trans rfl))⟩) (Nat.le_refl _) (fun _ _ => rfl) 1 x (hLA x h)) (fun h => by rw [List.mem_singleton.mp h]; exact LACT.to (fun q (hq : N ≤ q ∧ q < n_69) => ⟨⟨by omega, by omega⟩, (q_ne (by omega) rfl)⟩) (Nat.le_refl _) (fun _ _ => rfl) 1 _ eA_69)) (fun z9 g0 g1 g2 => (q_ne (by omega) ((hfr_69 _ (by omega) (by omega) (by omega)).trans ((hfr_K51 _ (by omega) (by omega) (by omega)).trans rfl)))) (by omega) _ _ _ hW hS (lv_sub hl [1, 2, 3, 4, 5, 6, 0] rfl)
    refine w_eqc (c2 := 1 + ([] : List LT).length * 15) (s2 := m + ([] : List LT).length * 42) (by show _ = 1 + 0 * 15; omega) (by show _ = m + 0 * 42; omega) ?_
    exact K51 _ (va_up (va_up f_10 n_10 (some (aQ E 6 m (fun _ => none)))) la (some (aI E 1 (upd g 0 (nI (q - m)))))) (n_10 + 1) ([]) s1_10 (upd g 0 (nI (q - m))) n_10 (q_ne (by omega) (q_ne (by omega) e0_10)) q_eq (show _ = some (aQ E 6 m (lf [])) from (q_ne (by omega) q_eq)) (Nat.zero_le _) (by show 0 + m ≤ q + 0; omega) (by show nI (q - m) = nI (q + 0 - m - 0); rfl) (by omega) (by omega) (fun x hx => absurd hx List.not_mem_nil) (fun z9 g0 g1 g2 => (q_ne (by omega) (q_ne (by omega) ((hfr_10 _ (by omega)).trans rfl)))) (Nat.lt_succ_self _) _ _ _ hW hS (lv_sub hl [3, 4, 5, 6, 7, 1, 0] rfl)
  · have h21 : j_10 < q := q_gtn (by omega) c_21
    refine lv_iload hx hb dX13_some_24 (lv_at hl 0 rfl) ?_
    refine lv_goto (tgt := 33) hx hb dX13_some_26 (by decide) ?_
    obtain ⟨m, hm, hm1, hm2⟩ : ∃ m, m ≤ q ∧ m < 3 ∧ nI j_10 = nI m := ⟨_, by omega, by omega, rfl⟩
    rw [hm2]
    refine q_newq hx hb hown hA hW hS (hts (.classLink RX13 8 "HighRecipesLaw$Act") (by decide +kernel)) (hA.2.2.2.2.2.2.2.1 "HighRecipesLaw$Act" (by decide +kernel)) 6 rfl (N' := m) (nI_pos (by omega)) (nI_clamp (by omega)) (by show m * 4 ≤ 536870912; omega) (by show _ ≤ 31; omega) (by show _ ≤ 86; omega) dX13_some_33 (fun H hW hS => ?_)
    have hW : q_W E (va_up f_10 n_10 (some (aQ E 6 m (fun _ => none)))) (n_10 + 1) H := hW
    refine lv_astore (lv' := [(6, .ref n_10), (5, .int (nI j_10)), (0, .ref r), (1, .int (nI pn)), (2, .int (nI R)), (3, .int 3), (4, .ref la)]) hx hb dX13_some_36 hl (by decide) rfl (fun ls hl => ?_)
    refine lv_aload hx hb dX13_some_38 (lv_at hl 6 rfl) ?_
    refine lv_iconst (v := 0) hx hb dX13_some_40 (by decide) ?_
    refine lv_dup2_11 hx hb dX13_some_41 rfl rfl ?_
    refine q_iald hx hb hA hW (q_ne (by omega) hla_10) (vp_in_nI (by decide) (by decide)) dX13_some_42 ?_
    rw [show g (0 : Int32).toNatClampNeg = nI q from hg]
    refine lv_aload hx hb dX13_some_43 (lv_at hl 0 rfl) ?_
    refine q_alen hx hb hA hW 6 rfl q_eq (v := nI m) rfl dX13_some_45 ?_
    refine lv_isub hx hb dX13_some_46 ?_
    rw [show nI q - nI m = nI (q - m) from pk_sub hm]
    refine q_iast hx hb hA hW hS (q_ne (by omega) hla_10) (vp_in_nI (by decide) (by decide)) dX13_some_47 (fun H locs hW hS => ?_)
    rw [show (0 : Int32).toNatClampNeg = 0 from (by decide)] at hW
    have hW : q_W E (va_up (va_up f_10 n_10 (some (aQ E 6 m (fun _ => none)))) la (some (aI E 1 (upd g 0 (nI (q - m)))))) (n_10 + 1) H := hW
    refine lv_iconst (v := 0) hx hb dX13_some_48 (by decide) ?_
    refine lv_istore (lv' := [(7, .int 0), (6, .ref n_10), (5, .int (nI j_10)), (0, .ref r), (1, .int (nI pn)), (2, .int (nI R)), (3, .int 3), (4, .ref la)]) hx hb dX13_some_49 hl (by decide) rfl (fun ls hl => ?_)
    have K51 : ∀ (fu : Nat) (F : q_H) (N : Nat) (L : List LT) (s9 : Int32) (g9 : Nat → Int32) (b9 : Nat) (hd : F r = some (cDice s9)) (hla : F la = some (aI E 1 g9)) (hb9 : F b9 = some (aQ E 6 m (lf L))) (hLm : L.length ≤ m) (hLq : bC L + m ≤ q + L.length) (hg9 : g9 0 = nI (q + L.length - m - bC L)) (hN : b9 < N) (hnb : n ≤ b9) (hLA : ∀ x ∈ L, LACT E pn R RS (fun q => b9 < q ∧ q < N) F 1 x) (hfr_K51 : ∀ z9, z9 ≠ r → z9 ≠ la → z9 < n → F z9 = f z9) (hm : m - L.length < fu) (H : Heap) (locs : List Loc) (ls : Array Slot), q_W E (F) N H → va_S (q_ge E) s0_.heap H locs → lv_has ls 8 [(0, .ref r), (1, .int (nI pn)), (2, .int (nI R)), (3, .int 3), (4, .ref la), (6, .ref b9), (7, .int (nI L.length))] → W p0_ l e0_ (headSpec wsX13_some ({ frames := 12, cells := 31, slots := 86, locals := 360 })).room s0_ m0_ ([.ref r, .int (nI pn), .int (nI R), .int 3, .ref la] : List Value).toArray below0_ meth0_ c0_ H locs (1 + L.length * 15) (m + L.length * 42) (MQ below0_ (q_Qq E (fun r0 f1 n1 => ∃ (b : Nat) (L : List LT) (s1 : Int32) (g1 : Nat → Int32), some b = r0 ∧ f1 r = some (cDice s1) ∧ f1 la = some (aI E 1 g1) ∧ bC L ≤ q ∧ g1 0 = nI (q - bC L) ∧ n ≤ n1 ∧ LB (fun q => n ≤ q ∧ q < n1) E f1 (LACT E pn R RS (fun q => n ≤ q ∧ q < n1) f1 1) b L ∧ ∀ z9, z9 ≠ r → z9 ≠ la → z9 < n → f1 z9 = f z9)) ([.ref r, .int (nI pn), .int (nI R), .int 3, .ref la] : List Value).toArray s0_ 31 86 (q_ge E)) (F0 m0_ 51 ls []) := by
      intro fu
      induction fu with
      | zero =>
        intro F N L s9 g9 b9 hd hla hb9 hLm hLq hg9 hN hnb hLA hfr_K51 hm
        exact absurd hm (Nat.not_lt_zero _)
      | succ fu ih =>
        intro F N L s9 g9 b9 hd hla hb9 hLm hLq hg9 hN hnb hLA hfr_K51 hm H locs ls hW hS hl
        refine lv_iload hx hb dX13_some_51 (lv_at hl 6 rfl) ?_
        refine lv_aload hx hb dX13_some_53 (lv_at hl 5 rfl) ?_
        refine q_alen hx hb hA hW 6 rfl hb9 (v := nI m) rfl dX13_some_55 ?_
        refine lv_icmp_ge (tgt := 79) hx hb dX13_some_56 (by decide) (fun c_56 => ?_) (fun c_56 => ?_)
        · have eLm : L.length = m := Nat.le_antisymm hLm (q_leN (by omega) c_56)
          refine lv_aload hx hb dX13_some_79 (lv_at hl 5 rfl) ?_
          exact q_aret (v := some b9) hx hb hr (Or.inr ⟨_, rfl⟩) hlocks hW hS ⟨b9, L, s9, g9, rfl, hd, hla, (by omega), (by rw [show q - bC L = q + L.length - m - bC L by omega]; exact hg9), (by omega), ⟨⟨hnb, hN⟩, (by rw [eLm]; exact hb9), (fun x hx => LACT.to (fun q (hq : b9 < q ∧ q < N) => ⟨⟨by omega, by omega⟩, rfl⟩) (Nat.le_refl _) (fun _ _ => rfl) 1 x (hLA x hx))⟩, (fun q g0 g1 g2 => ((hfr_K51 _ (by omega) (by omega) (by omega)).trans rfl))⟩ (by show _ ≤ 31; omega) (by show _ ≤ 86; omega) dX13_some_81
        · have hlt : L.length < m := q_gtn (by omega) c_56
          refine lv_aload hx hb dX13_some_59 (lv_at hl 5 rfl) ?_
          refine lv_iload hx hb dX13_some_61 (lv_at hl 6 rfl) ?_
          refine lv_aload_n hx hb dX13_some_63 rfl (lv_at hl 0 rfl) ?_
          refine lv_iload_n hx hb dX13_some_64 rfl (lv_at hl 1 rfl) ?_
          refine lv_iload_n hx hb dX13_some_65 rfl (lv_at hl 2 rfl) ?_
          refine lv_iload_n hx hb dX13_some_66 rfl (lv_at hl 3 rfl) ?_
          refine lv_aload hx hb dX13_some_67 (lv_at hl 4 rfl) ?_
          refine q_cq (va_runS (As := [.ref r, .int (nI pn), .int (nI R), .int 3, .ref la]) (rest := [.int (nI L.length), .ref b9]) ⟨hx, hb, hml, hown, hts⟩ (kX13_drawn_3 l E F N r la pn R (q + L.length - m - bC L) RS s9 g9 hd hla hp1 hp2 hR (by omega) hg9) (va_cwS 5 hts gX13_some_X13_drawn rfl rfl rfl (by decide +kernel) ⟨(Nat.le_of_ble_eq_true rfl), (Nat.le_of_ble_eq_true rfl)⟩) (q_pS hA hW hS) rfl rfl hl.1 rfl (lv_room (Nat.le_of_ble_eq_true rfl)) dX13_some_69 ⟨(by show _ ≤ 31; omega), (by show _ ≤ 86; omega)⟩) hS (fun r_69 f_69 n_69 H locs hp hW hS => ?_)
          obtain ⟨a_69, S_69, V_69, c_69, s1_69, g1_69, rfl, e0_69, e1_69, ec_69, eg_69, en_69, eA_69, hfr_69⟩ := hp
          have l_e0_69 := hW.lt e0_69
          have l_e1_69 := hW.lt e1_69
          have hb9_69 : f_69 b9 = some (aQ E 6 m (lf L)) := (hfr_69 _ (by omega) (by omega) (by omega)).trans hb9
          obtain ⟨do9, wh9, va9, sg9, on9, ot9, b8, el9, hcl⟩ := eA_69.cell
          refine q_aast hx hb hA hW hS 6 rfl hb9_69 hcl rfl (vp_in_nI hlt (by omega)) dX13_some_72 (fun H locs hW hS => ?_)
          rw [show (nI L.length).toNatClampNeg = L.length from (nI_clamp (by omega))] at hW
          rw [show va_up (lf L) L.length (some a_69) = lf (L ++ [(a_69, S_69, V_69, c_69)]) from lf_put (x := (a_69, S_69, V_69, c_69))] at hW
          have hW : q_W E (va_up f_69 b9 (some (aQ E 6 m (lf (L ++ [(a_69, S_69, V_69, c_69)]))))) n_69 H := hW
          refine lv_iinc (v := nI (L ++ [(a_69, S_69, V_69, c_69)]).length) (lv' := [(7, .int (nI (L ++ [(a_69, S_69, V_69, c_69)]).length)), (0, .ref r), (1, .int (nI pn)), (2, .int (nI R)), (3, .int 3), (4, .ref la), (6, .ref b9)]) hx hb dX13_some_73 hl (k := 6) rfl (by rw [List.length_append]; exact nI_1 _) (by decide) rfl (fun ls hl => ?_)
          refine lv_goto (tgt := 51) hx hb dX13_some_76 (by decide) ?_
          rw [show 1 + L.length * 15 + 15 = 1 + (L ++ [(a_69, S_69, V_69, c_69)]).length * 15 by rw [List.length_append]; show _ = 1 + (L.length + 1) * 15; omega, show m + L.length * 42 + 42 = m + (L ++ [(a_69, S_69, V_69, c_69)]).length * 42 by rw [List.length_append]; show _ = m + (L.length + 1) * 42; omega]
          have hl9 : (L ++ [(a_69, S_69, V_69, c_69)]).length = L.length + 1 := List.length_append
          exact ih (va_up f_69 b9 (some (aQ E 6 m (lf (L ++ [(a_69, S_69, V_69, c_69)]))))) n_69 (L ++ [(a_69, S_69, V_69, c_69)]) s1_69 g1_69 b9 (q_ne (by omega) e0_69) (q_ne (by omega) e1_69) q_eq (by rw [List.length_append]; exact hlt) (by rw [bC_app, List.length_append]; show bC L + 1 + c_69 + m ≤ q + (L.length + 1); omega) (by rw [bC_app, List.length_append, eg_69]; congr 1; show q + L.length - m - bC L - c_69 = q + (L.length + 1) - m - (bC L + 1 + c_69); omega) (by omega) hnb (fun x hx => (List.mem_append.mp hx).elim (fun h => LACT.to (fun q (hq : b9 < q ∧ q < N) => ⟨⟨by omega, by omega⟩, (q_ne (by omega) ((hfr_69 _ (by omega) (by omega) (by omega)).trans rfl))⟩) (Nat.le_refl _) (fun _ _ => rfl) 1 x (hLA x h)) (fun h => by rw [List.mem_singleton.mp h]; exact LACT.to (fun q (hq : N ≤ q ∧ q < n_69) => ⟨⟨by omega, by omega⟩, (q_ne (by omega) rfl)⟩) (Nat.le_refl _) (fun _ _ => rfl) 1 _ eA_69)) (fun z9 g0 g1 g2 => (q_ne (by omega) ((hfr_69 _ (by omega) (by omega) (by omega)).trans ((hfr_K51 _ (by omega) (by omega) (by omega)).trans rfl)))) (by omega) _ _ _ hW hS (lv_sub hl [1, 2, 3, 4, 5, 6, 0] rfl)
    refine w_eqc (c2 := 1 + ([] : List LT).length * 15) (s2 := m + ([] : List LT).length * 42) (by show _ = 1 + 0 * 15; omega) (by show _ = m + 0 * 42; omega) ?_
    exact K51 _ (va_up (va_up f_10 n_10 (some (aQ E 6 m (fun _ => none)))) la (some (aI E 1 (upd g 0 (nI (q - m)))))) (n_10 + 1) ([]) s1_10 (upd g 0 (nI (q - m))) n_10 (q_ne (by omega) (q_ne (by omega) e0_10)) q_eq (show _ = some (aQ E 6 m (lf [])) from (q_ne (by omega) q_eq)) (Nat.zero_le _) (by show 0 + m ≤ q + 0; omega) (by show nI (q - m) = nI (q + 0 - m - 0); rfl) (by omega) (by omega) (fun x hx => absurd hx List.not_mem_nil) (fun z9 g0 g1 g2 => (q_ne (by omega) (q_ne (by omega) ((hfr_10 _ (by omega)).trans rfl)))) (Nat.lt_succ_self _) _ _ _ hW hS (lv_sub hl [3, 4, 5, 6, 7, 1, 0] rfl)

