/-! words of a text, told in lists -/
def l_run (c : Int32) : List Int32 → List Int32 × List Int32
  | [] => ([], [])
  | d :: W => if b_goes c d = true then (d :: (l_run c W).1, (l_run c W).2) else ([], d :: W)
def l_wor (W : List Int32) : Int64 := W.foldl t_w1 0
def l_tok (c : Int32) (r : List Int32) : Nat × Int64 := (t_kind c (1 + r.length) (l_wor (c :: r)), l_wor (c :: r))
def l_ws (c : Int32) : Bool := decide (c = 32) || decide (c = 10)
def lexF : Nat → List Int32 → List (Nat × Int64)
  | 0, _ => []
  | _ + 1, [] => []
  | m + 1, c :: W => if l_ws c = true then lexF m W else l_tok c (l_run c W).1 :: lexF m (l_run c W).2
def lex (W : List Int32) : List (Nat × Int64) := lexF W.length W
theorem run_T {c d : Int32} {W : List Int32} (h : b_goes c d = true) : l_run c (d :: W) = (d :: (l_run c W).1, (l_run c W).2) := if_pos h
theorem run_F {c d : Int32} {W : List Int32} (h : ¬ b_goes c d = true) : l_run c (d :: W) = ([], d :: W) := if_neg h
theorem run_app (c : Int32) : ∀ W : List Int32, (l_run c W).1 ++ (l_run c W).2 = W
  | [] => rfl
  | d :: W => by
    by_cases h : b_goes c d = true
    · rw [run_T h]
      show d :: ((l_run c W).1 ++ (l_run c W).2) = _
      rw [run_app c W]
    · rw [run_F h]
      rfl
theorem run_len (c : Int32) (W : List Int32) : (l_run c W).1.length + (l_run c W).2.length = W.length := by
  have h := congrArg List.length (run_app c W)
  rw [List.length_append] at h
  exact h
theorem lexF_eq : ∀ (m m' : Nat) (W : List Int32), W.length ≤ m → W.length ≤ m' → lexF m W = lexF m' W
  | 0, m', [], _, _ => by cases m' <;> rfl
  | m + 1, m', [], _, _ => by cases m' <;> rfl
  | 0, _, _ :: _, h, _ => absurd h (Nat.not_succ_le_zero _)
  | _ + 1, 0, _ :: _, _, h => absurd h (Nat.not_succ_le_zero _)
  | m + 1, m' + 1, c :: W, h, h' => by
    have h : W.length + 1 ≤ m + 1 := h
    have h' : W.length + 1 ≤ m' + 1 := h'
    have hr := run_len c W
    show (if l_ws c = true then lexF m W else l_tok c (l_run c W).1 :: lexF m (l_run c W).2) = (if l_ws c = true then lexF m' W else l_tok c (l_run c W).1 :: lexF m' (l_run c W).2)
    rw [lexF_eq m m' W (by omega) (by omega), lexF_eq m m' (l_run c W).2 (by omega) (by omega)]
theorem lex_nil : lex [] = [] := rfl
theorem lex_ws {c : Int32} {W : List Int32} (h : l_ws c = true) : lex (c :: W) = lex W := if_pos h
theorem lex_tk {c : Int32} {W : List Int32} (h : ¬ l_ws c = true) : lex (c :: W) = l_tok c (l_run c W).1 :: lex (l_run c W).2 := by
  have hr := run_len c W
  refine (if_neg h).trans ?_
  rw [lexF_eq W.length (l_run c W).2.length (l_run c W).2 (by omega) (Nat.le_refl _)]
  rfl
/-! texts one behind the other -/
def l_last : List Int32 → Int32 → Int32
  | [], d => d
  | c :: W, _ => l_last W c
def l_hd (W : List Int32) : Int32 := W.headD 32
theorem last_app : ∀ (A B : List Int32) (d : Int32), l_last (A ++ B) d = l_last B (l_last A d)
  | [], _, _ => rfl
  | c :: A, B, _ => last_app A B c
theorem last_mem : ∀ (W : List Int32) (c : Int32), l_last W c = c ∨ l_last W c ∈ W
  | [], _ => Or.inl rfl
  | d :: W, _ => by
    rcases last_mem W d with h | h
    · exact Or.inr (by show l_last W d ∈ d :: W; rw [h]; exact List.mem_cons_self ..)
    · exact Or.inr (List.mem_cons_of_mem _ h)
theorem let_dig {y : Int32} (h : b_let y = true) : b_dig y = false := by
  unfold b_let at h
  unfold b_dig
  by_cases h1 : y < 97
  · rw [decide_eq_true h1] at h
    exact absurd h (by simp)
  · have h2 : (57 : Int32) < y := Int32.lt_of_lt_of_le (by decide) (Int32.not_lt.mp h1)
    rw [decide_eq_true h2]
    simp
theorem goes_same {c x b : Int32} (h : b_goes c x = true) : b_goes x b = b_goes c b := by
  unfold b_goes at h ⊢
  cases hc : b_let c with
  | true =>
    have h1 := let_dig hc
    rw [hc, h1] at h
    have hx : b_let x = true := by simpa using h
    rw [hx, let_dig hx, h1]
  | false =>
    rw [hc] at h
    have hd : b_dig c = true ∧ b_dig x = true := by simpa using h
    have hx : b_let x = false := by
      cases hx : b_let x with
      | true => rw [let_dig hx] at hd; exact absurd hd.2 (by decide)
      | false => rfl
    rw [hx, hd.1, hd.2]
theorem run_part (c : Int32) (V : List Int32) : ∀ W : List Int32, (l_run c W).2 ≠ [] → l_run c (W ++ V) = ((l_run c W).1, (l_run c W).2 ++ V)
  | [], h => absurd rfl h
  | d :: W, h => by
    by_cases hg : b_goes c d = true
    · rw [run_T hg] at h ⊢
      rw [List.cons_append, run_T hg, run_part c V W h]
    · rw [run_F hg, List.cons_append, run_F hg]
theorem run_all (c : Int32) (V : List Int32) : ∀ W : List Int32, (l_run c W).2 = [] → l_run c (W ++ V) = ((l_run c W).1 ++ (l_run c V).1, (l_run c V).2)
  | [], _ => rfl
  | d :: W, h => by
    by_cases hg : b_goes c d = true
    · rw [run_T hg] at h ⊢
      rw [List.cons_append, run_T hg, run_all c V W h]
      rfl
    · rw [run_F hg] at h
      exact absurd h (List.cons_ne_nil _ _)
theorem run_mem (c : Int32) : ∀ W : List Int32, (l_run c W).2 = [] → ∀ x ∈ W, b_goes c x = true
  | [], _, _, h => absurd h List.not_mem_nil
  | d :: W, h, x, hx => by
    by_cases hg : b_goes c d = true
    · rw [run_T hg] at h
      rcases List.mem_cons.mp hx with rfl | hx
      · exact hg
      · exact run_mem c W h x hx
    · rw [run_F hg] at h
      exact absurd h (List.cons_ne_nil _ _)
theorem goes_ws {c b : Int32} (h : l_ws c = true) : b_goes c b = false := by
  unfold l_ws at h
  rcases (Bool.or_eq_true _ _).mp h with h | h
  · rw [of_decide_eq_true h]; unfold b_goes; rw [show b_let 32 = false from by decide, show b_dig 32 = false from by decide]; rfl
  · rw [of_decide_eq_true h]; unfold b_goes; rw [show b_let 10 = false from by decide, show b_dig 10 = false from by decide]; rfl
def jn (A B : List Int32) : Prop := b_goes (l_last A 32) (l_hd B) = false
theorem lex_app0 (V : List Int32) : ∀ (m : Nat) (W : List Int32), W.length ≤ m → jn W V → lex (W ++ V) = lex W ++ lex V
  | _, [], _, _ => rfl
  | 0, _ :: _, h, _ => absurd h (Nat.not_succ_le_zero _)
  | m + 1, c :: W, h, hj => by
    have h : W.length + 1 ≤ m + 1 := h
    have hj : b_goes (l_last W c) (l_hd V) = false := hj
    rw [List.cons_append]
    by_cases hw : l_ws c = true
    · rw [lex_ws hw, lex_ws hw]
      refine lex_app0 V m W (by omega) ?_
      cases W with
      | nil => exact goes_ws (c := 32) (by decide)
      | cons x W => exact hj
    · rw [lex_tk hw, lex_tk hw]
      have hl := run_len c W
      by_cases hr : (l_run c W).2 = []
      · have hV : l_run c V = ([], V) := by
          cases V with
          | nil => rfl
          | cons b V =>
            refine run_F ?_
            have hb : b_goes (l_last W c) b = false := hj
            have hs : b_goes (l_last W c) b = b_goes c b := by
              rcases last_mem W c with e | e
              · rw [e]
              · exact goes_same (run_mem c W hr _ e)
            rw [← hs, hb]
            decide
        rw [run_all c V W hr, hV, hr, List.append_nil]
        rfl
      · rw [run_part c V W hr]
        show l_tok c (l_run c W).1 :: lex ((l_run c W).2 ++ V) = l_tok c (l_run c W).1 :: (lex (l_run c W).2 ++ lex V)
        rw [lex_app0 V m (l_run c W).2 (by omega) ?_]
        show b_goes (l_last (l_run c W).2 32) (l_hd V) = false
        have e := run_app c W
        cases h2 : (l_run c W).2 with
        | nil => exact absurd h2 hr
        | cons x r =>
          rw [h2] at e
          rw [← e, last_app] at hj
          exact hj
theorem lex_app {W V : List Int32} (h : jn W V) : lex (W ++ V) = lex W ++ lex V := lex_app0 V W.length W (Nat.le_refl _) h
/-- a text that nothing can be drawn to, at its end; at its beginning -/
def sr (W : List Int32) : Bool := !(b_let (l_last W 32) || b_dig (l_last W 32))
def sl (W : List Int32) : Bool := !(b_let (l_hd W) || b_dig (l_hd W))
theorem sr_jn {W V : List Int32} (h : sr W = true) : jn W V := by
  unfold sr at h
  unfold jn b_goes
  cases h1 : b_let (l_last W 32) with
  | true => rw [h1] at h; exact absurd h (by simp)
  | false =>
    cases h2 : b_dig (l_last W 32) with
    | true => rw [h1, h2] at h; exact absurd h (by decide)
    | false => rfl
theorem sl_jn {W V : List Int32} (h : sl V = true) : jn W V := by
  unfold sl at h
  unfold jn b_goes
  cases h1 : b_let (l_hd V) with
  | true => rw [h1] at h; exact absurd h (by simp)
  | false =>
    cases h2 : b_dig (l_hd V) with
    | true => rw [h1, h2] at h; exact absurd h (by decide)
    | false => rw [Bool.and_false, Bool.and_false]; rfl
theorem last_ne : ∀ {W : List Int32} (_ : W ≠ []) (d d' : Int32), l_last W d = l_last W d'
  | [], h, _, _ => absurd rfl h
  | _ :: _, _, _, _ => rfl
theorem sr_app {W V : List Int32} (h : sr V = true) (hV : V ≠ []) : sr (W ++ V) = true := by
  unfold sr at h ⊢
  rw [last_app, last_ne hV _ 32]
  exact h
theorem sr_app2 {W V : List Int32} (h1 : sr W = true) (h : sr V = true) : sr (W ++ V) = true := by
  cases V with
  | nil => rw [List.append_nil]; exact h1
  | cons x V => exact sr_app h (List.cons_ne_nil _ _)
theorem sl_app {W V : List Int32} (h : sl W = true) (hW : W ≠ []) : sl (W ++ V) = true := by
  cases W with
  | nil => exact absurd rfl hW
  | cons x W => exact h
/-! the words of a tape -/
theorem at_tx {W : List Int32} {g : Nat → Int32} (ho : okb W) (hg : ∀ j, j < W.length → g j = tx W j) {j : Nat} (hj : j < W.length) : t_at g W.length j = tx W j := by
  show (if j < W.length then g j &&& 255 else -1) = _
  rw [if_pos hj, hg j hj]
  obtain ⟨k, e, hk⟩ := ho (tx W j) (by rw [tx_get hj]; exact List.getElem_mem hj)
  rw [e]
  exact (show ∀ k, k < 128 → nI k &&& 255 = nI k from by decide +kernel) k hk
theorem drop_cons {W : List Int32} {p : Nat} {c : Int32} {V : List Int32} (h : W.drop p = c :: V) : p < W.length ∧ tx W p = c ∧ W.drop (p + 1) = V := by
  have hp : p < W.length := by
    rcases Nat.lt_or_ge p W.length with h1 | h1
    · exact h1
    · rw [List.drop_eq_nil_of_le h1] at h
      exact absurd h.symm (List.cons_ne_nil _ _)
  rw [List.drop_eq_getElem_cons hp] at h
  obtain ⟨h1, h2⟩ := List.cons.inj h
  exact ⟨hp, (tx_get hp).trans h1, h2⟩
section TP
variable {W : List Int32} {g : Nat → Int32}
def l_skip : List Int32 → List Int32
  | [] => []
  | c :: V => if l_ws c = true then l_skip V else c :: V
theorem lex_skip : ∀ V : List Int32, lex (l_skip V) = lex V
  | [] => rfl
  | c :: V => by
    by_cases h : l_ws c = true
    · rw [lex_ws h, show l_skip (c :: V) = l_skip V from if_pos h]
      exact lex_skip V
    · rw [show l_skip (c :: V) = c :: V from if_neg h]
theorem ws_iff {c : Int32} : l_ws c = true ↔ (c = 32 ∨ c = 10) := by
  unfold l_ws
  rw [Bool.or_eq_true, decide_eq_true_iff, decide_eq_true_iff]
theorem skipF_at (ho : okb W) (hg : ∀ j, j < W.length → g j = tx W j) : ∀ (m p : Nat) (V : List Int32), W.drop p = V → p ≤ W.length → V.length ≤ m → W.drop (t_skipF g W.length m p) = l_skip V ∧ t_skipF g W.length m p ≤ W.length
  | 0, p, [], h, hp, _ => ⟨h, hp⟩
  | 0, _, _ :: _, _, _, h => absurd h (Nat.not_succ_le_zero _)
  | m + 1, p, [], h, hp, _ => by
    have hl : W.length ≤ p := List.drop_eq_nil_iff.mp h
    rw [show t_skipF g W.length (m + 1) p = p from if_neg (fun e => Nat.lt_irrefl _ (Nat.lt_of_lt_of_le e.1 hl))]
    exact ⟨h, hp⟩
  | m + 1, p, c :: V, h, hp, hm => by
    obtain ⟨h1, h2, h3⟩ := drop_cons h
    have h4 : t_at g W.length p = c := (at_tx ho hg h1).trans h2
    by_cases hw : l_ws c = true
    · rw [show t_skipF g W.length (m + 1) p = t_skipF g W.length m (p + 1) from if_pos ⟨h1, by rw [h4]; exact ws_iff.mp hw⟩, show l_skip (c :: V) = l_skip V from if_pos hw]
      exact skipF_at ho hg m (p + 1) V h3 h1 (Nat.le_of_succ_le_succ hm)
    · rw [show t_skipF g W.length (m + 1) p = p from if_neg (fun e => hw (ws_iff.mpr (by rw [← h4]; exact e.2))), show l_skip (c :: V) = c :: V from if_neg hw]
      exact ⟨h, hp⟩
theorem skip_at (ho : okb W) (hg : ∀ j, j < W.length → g j = tx W j) {p : Nat} (hp : p ≤ W.length) : W.drop (t_skip g W.length p) = l_skip (W.drop p) ∧ t_skip g W.length p ≤ W.length :=
  skipF_at ho hg (W.length - p) p (W.drop p) rfl hp (by rw [List.length_drop]; exact Nat.le_refl _)
theorem endF_at (ho : okb W) (hg : ∀ j, j < W.length → g j = tx W j) (c : Int32) : ∀ (m p : Nat) (V : List Int32), W.drop p = V → p ≤ W.length → V.length ≤ m → t_endF g W.length c m p = p + (l_run c V).1.length
  | 0, p, [], _, _, _ => rfl
  | 0, _, _ :: _, _, _, h => absurd h (Nat.not_succ_le_zero _)
  | m + 1, p, [], h, hp, _ => by
    have hl : W.length ≤ p := List.drop_eq_nil_iff.mp h
    exact if_neg (fun e => Nat.lt_irrefl _ (Nat.lt_of_lt_of_le e.1 hl))
  | m + 1, p, d :: V, h, hp, hm => by
    obtain ⟨h1, h2, h3⟩ := drop_cons h
    have h4 : t_at g W.length p = d := (at_tx ho hg h1).trans h2
    by_cases hw : b_goes c d = true
    · rw [show t_endF g W.length c (m + 1) p = t_endF g W.length c m (p + 1) from if_pos ⟨h1, by rw [h4]; exact hw⟩, run_T hw, endF_at ho hg c m (p + 1) V h3 h1 (Nat.le_of_succ_le_succ hm)]
      show p + 1 + (l_run c V).1.length = p + ((l_run c V).1.length + 1)
      omega
    · rw [show t_endF g W.length c (m + 1) p = p from if_neg (fun e => hw (by rw [← h4]; exact e.2)), run_F hw]
      rfl
theorem worF_at (ho : okb W) (hg : ∀ j, j < W.length → g j = tx W j) : ∀ (r : List Int32) (p : Nat) (V : List Int32) (w : Int64), W.drop p = r ++ V → t_worF g W.length r.length p w = r.foldl t_w1 w
  | [], _, _, _, _ => rfl
  | c :: r, p, V, w, h => by
    obtain ⟨h1, h2, h3⟩ := drop_cons (V := r ++ V) h
    show t_worF g W.length r.length (p + 1) (t_w1 w (t_at g W.length p)) = r.foldl t_w1 (t_w1 w c)
    rw [(at_tx ho hg h1).trans h2]
    exact worF_at ho hg r (p + 1) V _ h3
/-- a word at p, and what is behind it -/
theorem tok_at (ho : okb W) (hg : ∀ j, j < W.length → g j = tx W j) {p : Nat} {c : Int32} {V : List Int32} (h : W.drop p = c :: V) :
    t_end g W.length p = p + 1 + (l_run c V).1.length ∧ (t_kind (t_at g W.length p) (t_end g W.length p - p) (t_wor g W.length p (t_end g W.length p)), t_wor g W.length p (t_end g W.length p)) = l_tok c (l_run c V).1 ∧ W.drop (t_end g W.length p) = (l_run c V).2 ∧ t_end g W.length p ≤ W.length := by
  obtain ⟨h1, h2, h3⟩ := drop_cons h
  have h4 : t_at g W.length p = c := (at_tx ho hg h1).trans h2
  have hl := run_len c V
  have hV : V.length = W.length - (p + 1) := by rw [← h3, List.length_drop]
  have he : t_end g W.length p = p + 1 + (l_run c V).1.length := by
    show t_endF g W.length (t_at g W.length p) (W.length - (p + 1)) (p + 1) = _
    rw [h4]
    exact endF_at ho hg c _ (p + 1) V h3 h1 (by omega)
  have hw : t_wor g W.length p (t_end g W.length p) = l_wor (c :: (l_run c V).1) := by
    show t_worF g W.length (t_end g W.length p - p) p 0 = _
    rw [he, show p + 1 + (l_run c V).1.length - p = (c :: (l_run c V).1).length from by show _ = (l_run c V).1.length + 1; omega]
    exact worF_at ho hg (c :: (l_run c V).1) p (l_run c V).2 0 (by rw [h, List.cons_append, run_app])
  refine ⟨he, ?_, ?_, by omega⟩
  · rw [hw, h4, he, show p + 1 + (l_run c V).1.length - p = 1 + (l_run c V).1.length by omega]
    rfl
  · rw [he, ← List.drop_drop, h3]
    have e8 := run_app c V
    generalize (l_run c V).1 = A at e8 ⊢
    generalize (l_run c V).2 = B at e8 ⊢
    subst e8
    first | exact List.drop_left | exact List.drop_left .. | simp
theorem lex_next {V : List Int32} : (l_skip V = [] ∧ lex V = []) ∨ ∃ c r, l_skip V = c :: r ∧ lex V = l_tok c (l_run c r).1 :: lex (l_run c r).2 := by
  induction V with
  | nil => exact Or.inl ⟨rfl, rfl⟩
  | cons c V ih =>
    by_cases h : l_ws c = true
    · rw [lex_ws h, show l_skip (c :: V) = l_skip V from if_pos h]
      exact ih
    · exact Or.inr ⟨c, V, if_neg h, lex_tk h⟩
/-- where the i-th word begins -/
theorem ps_at (ho : okb W) (hg : ∀ j, j < W.length → g j = tx W j) : ∀ i, i ≤ (lex W).length → t_ps g W.length i ≤ W.length ∧ ∃ V, W.drop (t_ps g W.length i) = l_skip V ∧ lex V = (lex W).drop i
  | 0, _ => by
    have h := skip_at ho hg (p := 0) (Nat.zero_le _)
    exact ⟨h.2, W, h.1, rfl⟩
  | i + 1, hi => by
    obtain ⟨hp, V, h1, h2⟩ := ps_at ho hg i (Nat.le_of_succ_le hi)
    have hd : (lex W).drop i = (lex W)[i] :: (lex W).drop (i + 1) := List.drop_eq_getElem_cons hi
    rcases lex_next (V := V) with ⟨h3, h4⟩ | ⟨c, r, h3, h4⟩
    · rw [h2, hd] at h4
      exact absurd h4 (List.cons_ne_nil _ _)
    · rw [h3] at h1
      obtain ⟨-, -, a3, a4⟩ := tok_at ho hg h1
      have h := skip_at ho hg (p := t_end g W.length (t_ps g W.length i)) a4
      rw [h2, hd] at h4
      refine ⟨h.2, (l_run c r).2, ?_, ((List.cons.inj h4).2).symm⟩
      show W.drop (t_skip g W.length (t_end g W.length (t_ps g W.length i))) = _
      rw [h.1, a3]
/-- the words from i on are those of the list -/
def TOK (K : Nat → Nat) (Wd : Nat → Int64) : Nat → List (Nat × Int64) → Prop
  | _, [] => True
  | i, x :: ts => K i = x.1 ∧ Wd i = x.2 ∧ TOK K Wd (i + 1) ts
theorem TOK.app {K : Nat → Nat} {Wd : Nat → Int64} : ∀ {i : Nat} {a b : List (Nat × Int64)}, TOK K Wd i (a ++ b) → TOK K Wd i a ∧ TOK K Wd (i + a.length) b
  | _, [], _, h => ⟨trivial, h⟩
  | i, x :: a, b, h => by
    obtain ⟨h1, h2, h3⟩ := h
    obtain ⟨h4, h5⟩ := TOK.app (a := a) h3
    exact ⟨⟨h1, h2, h4⟩, by rw [show i + (x :: a).length = i + 1 + a.length from by show i + (a.length + 1) = _; omega]; exact h5⟩
theorem K_at (ho : okb W) (hg : ∀ j, j < W.length → g j = tx W j) {i : Nat} {x : Nat × Int64} {ts : List (Nat × Int64)} (h : (lex W).drop i = x :: ts) (hi : i < 400) : t_K g W.length i = x.1 ∧ t_W g W.length i = x.2 := by
  have hil : i < (lex W).length := by
    rcases Nat.lt_or_ge i (lex W).length with h1 | h1
    · exact h1
    · rw [List.drop_eq_nil_of_le h1] at h
      exact absurd h.symm (List.cons_ne_nil _ _)
  obtain ⟨hp, V, h1, h2⟩ := ps_at ho hg i (Nat.le_of_lt hil)
  rcases lex_next (V := V) with ⟨h3, h4⟩ | ⟨c, r, h3, h4⟩
  · rw [h2, h] at h4
    exact absurd h4 (List.cons_ne_nil _ _)
  · rw [h3] at h1
    obtain ⟨-, a2, -, -⟩ := tok_at ho hg h1
    rw [h2, h] at h4
    have hx : x = l_tok c (l_run c r).1 := (List.cons.inj h4).1
    have hlt := (drop_cons h1).1
    rw [hx, ← a2]
    exact ⟨(if_pos hlt).trans (if_pos hi), if_pos hlt⟩
theorem TOK_drop (ho : okb W) (hg : ∀ j, j < W.length → g j = tx W j) : ∀ (ts : List (Nat × Int64)) (i : Nat), (lex W).drop i = ts → i + ts.length ≤ 400 → TOK (t_K g W.length) (t_W g W.length) i ts
  | [], _, _, _ => trivial
  | x :: ts, i, h, hl => by
    have hl : i + (ts.length + 1) ≤ 400 := hl
    obtain ⟨h1, h2⟩ := K_at ho hg h (by omega)
    refine ⟨h1, h2, TOK_drop ho hg ts (i + 1) ?_ (by omega)⟩
    rw [← List.tail_drop, h]
    rfl
theorem TOK_all (ho : okb W) (hg : ∀ j, j < W.length → g j = tx W j) (hl : (lex W).length ≤ 400) : TOK (t_K g W.length) (t_W g W.length) 0 (lex W) ∧ t_K g W.length (lex W).length = 39 := by
  refine ⟨TOK_drop ho hg (lex W) 0 rfl (by omega), ?_⟩
  obtain ⟨hp, V, h1, h2⟩ := ps_at ho hg (lex W).length (Nat.le_refl _)
  rw [List.drop_eq_nil_of_le (Nat.le_refl _)] at h2
  rcases lex_next (V := V) with ⟨h3, h4⟩ | ⟨c, r, h3, h4⟩
  · rw [h3] at h1
    have hle : W.length ≤ t_ps g W.length (lex W).length := List.drop_eq_nil_iff.mp h1
    exact if_neg (Nat.not_lt.mpr hle)
  · rw [h2] at h4
    exact absurd h4.symm (List.cons_ne_nil _ _)
end TP
