/-! what acts are built of, whatever stands for them -/
def v_rel (pn : Nat) (hd hd' v v' : q_V) : Prop := (∀ i, i < pn → hd i = hd' i) ∧ (∀ q, q < 4 → v q = v' q) ∧ ∀ i, i < pn → v (52 + 4 * i) = v' (52 + 4 * i) ∧ v (53 + 4 * i) = v' (53 + 4 * i) ∧ v (54 + 4 * i) = v' (54 + 4 * i) ∧ v (55 + 4 * i) = v' (55 + 4 * i)
def dR (pn : Nat) (D : q_D) : Prop := ∀ hd hd' v v', v_rel pn hd hd' v v' → D hd v = D hd' v'
def cR (pn : Nat) (C : q_V → q_V → Bool) : Prop := ∀ hd hd' v v', v_rel pn hd hd' v v' → C hd v = C hd' v'
theorem mV_dR {B : q_R} {pn hn : Nat} : ∀ (dp a : Nat) (D : q_D), mV B pn hn dp a D → dR pn D
  | 0, _, _, h => h.elim
  | dp + 1, a, D, h => by
    obtain ⟨-, kd, -, hc⟩ := h
    intro hd hd' v v' hr
    rcases hc with ⟨-, rfl⟩ | ⟨k1, k2, rfl⟩ | ⟨k1, i, k2, -, rfl⟩ | ⟨-, -, x, y, D1, D2, -, -, r1, r2, rfl⟩
    · rfl
    · unfold d_meas
      rw [hr.2.1 0 (by decide), hr.2.1 1 (by decide), hr.2.1 2 (by decide), hr.2.1 3 (by decide)]
    · unfold d_cont
      obtain ⟨a0, a1, a2, a3⟩ := hr.2.2 i k2
      rw [a0, a1, a2, a3, hr.1 i k2]
    · show d_bin kd _ _ = d_bin kd _ _
      rw [mV_dR dp x D1 r1 hd hd' v v' hr, mV_dR dp y D2 r2 hd hd' v v' hr]
theorem mC_cR {B : q_R} {pn hn fr : Nat} : ∀ (m : Nat) (C : q_V → q_V → Bool), mC B pn hn fr m C → cR pn C
  | 0, C, h => by
    have h : C = fun _ _ => true := h
    subst h
    exact fun _ _ _ _ _ => rfl
  | m + 1, C, h => by
    obtain ⟨kd, x, y, D1, D2, C', -, -, -, -, -, r1, r2, rc, rfl⟩ := h
    intro hd hd' v v' hr
    show (c_cmp kd _ _ && _) = (c_cmp kd _ _ && _)
    rw [mV_dR 5 x D1 r1 hd hd' v v' hr, mV_dR 5 y D2 r2 hd hd' v v' hr, mC_cR m C' rc hd hd' v v' hr]
def sL (RA : q_S → Prop) : Nat → q_S → Prop
  | 0, S => S = k_nil
  | m + 1, S => ∃ S1 S2, RA S1 ∧ sL RA m S2 ∧ S = k_cons S1 S2
def sA (pn : Nat) (RS : Nat → q_S) (R : Nat) : Nat → q_S → Prop
  | 0, _ => False
  | d + 1, S => (∃ i b D, i < pn ∧ dR pn D ∧ S = k_pour pn i b D) ∨ (∃ i D, i < pn ∧ dR pn D ∧ S = k_heat pn i D) ∨ (∃ i D, i < pn ∧ dR pn D ∧ S = k_boil pn i D) ∨ (∃ i, i < pn ∧ S = k_empty pn i) ∨
      (∃ D, dR pn D ∧ S = k_rest pn D) ∨ (∃ D, dR pn D ∧ S = k_note D) ∨ (∃ r, r < R ∧ S = RS r) ∨ (∃ D m Bk, dR pn D ∧ sL (sA pn RS R d) m Bk ∧ S = k_again D Bk) ∨
      (∃ C m1 B1 m2 B2, cR pn C ∧ sL (sA pn RS R d) m1 B1 ∧ sL (sA pn RS R d) m2 B2 ∧ S = k_if C B1 B2)
theorem mL_s {B : q_R} {lo hi : Nat} {RA : Nat → q_S → Prop} {SA : q_S → Prop} (h : ∀ a S, RA a S → SA S) : ∀ (m : Nat) (o : Int32) (S : q_S), mL B lo hi RA m o S → sL SA m S
  | 0, _, _, h => h.2
  | m + 1, _, _, h1 => by
    obtain ⟨a, S1, S2, -, -, -, r1, r2, e⟩ := h1
    exact ⟨S1, S2, h a S1 r1, mL_s h m _ S2 r2, e⟩
theorem mA_s {B : q_R} {pn hn hc hi : Nat} {RS : Nat → q_S} {R : Nat} : ∀ (d a : Nat) (S : q_S), mA B pn hn hc hi RS R d a S → sA pn RS R d S
  | 0, _, _, h => h.elim
  | d + 1, a, S, h => by
    obtain ⟨-, hcs⟩ := h
    have L := fun m o B1 (z : mL B (a + 1) hi (mA B pn hn hc hi RS R d) m o B1) => mL_s (SA := sA pn RS R d) (fun a S h => mA_s d a S h) m o B1 z
    rcases hcs with ⟨-, i, x, D, a1, -, -, a4, a5⟩ | ⟨-, i, x, D, a1, -, -, a4, a5⟩ | ⟨-, i, x, D, a1, -, -, a4, a5⟩ | ⟨-, i, x, D, a1, -, -, a4, a5⟩ | ⟨-, i, a1, -, a3⟩ | ⟨-, x, D, -, a2, a3⟩ | ⟨-, x, D, -, a2, a3⟩ | ⟨-, r, a1, -, a3⟩ | ⟨-, -, x, D, m, Bk, -, a2, a3, a4⟩ | ⟨-, -, fr, mc, C, m1, B1, m2, B2, -, -, -, a4, a5, a6, a7⟩
    · exact Or.inl ⟨i, 0, D, a1, mV_dR 5 x D a4, a5⟩
    · exact Or.inl ⟨i, 1, D, a1, mV_dR 5 x D a4, a5⟩
    · exact Or.inr (Or.inl ⟨i, D, a1, mV_dR 5 x D a4, a5⟩)
    · exact Or.inr (Or.inr (Or.inl ⟨i, D, a1, mV_dR 5 x D a4, a5⟩))
    · exact Or.inr (Or.inr (Or.inr (Or.inl ⟨i, a1, a3⟩)))
    · exact Or.inr (Or.inr (Or.inr (Or.inr (Or.inl ⟨D, mV_dR 5 x D a2, a3⟩))))
    · exact Or.inr (Or.inr (Or.inr (Or.inr (Or.inr (Or.inl ⟨D, mV_dR 5 x D a2, a3⟩)))))
    · exact Or.inr (Or.inr (Or.inr (Or.inr (Or.inr (Or.inr (Or.inl ⟨r, a1, a3⟩))))))
    · exact Or.inr (Or.inr (Or.inr (Or.inr (Or.inr (Or.inr (Or.inr (Or.inl ⟨D, m, Bk, mV_dR 5 x D a2, L _ _ _ a3, a4⟩)))))))
    · exact Or.inr (Or.inr (Or.inr (Or.inr (Or.inr (Or.inr (Or.inr (Or.inr ⟨C, m1, B1, m2, B2, mC_cR mc C a4, L _ _ _ a5, L _ _ _ a6, a7⟩)))))))
/-- a relation of two kitchens' warnings and notes -/
def x_ok (X : q_V → q_V → Prop) : Prop := (∀ v v' w w', X v v' → (∀ q, 4 ≤ q → q < 52 → w q = v q ∧ w' q = v' q) → X w w') ∧ (∀ v v' kd, kd < 6 → k_ok v → k_ok v' → X v v' → X (z_warn v (k_T v) kd) (z_warn v' (k_T v') kd)) ∧ (∀ v v' x, k_ok v → k_ok v' → X v v' → X (z_note v (k_N v) x) (z_note v' (k_N v') x))
def s_rel (X : q_V → q_V → Prop) (pn : Nat) (hd hd' : q_V) (s s' : q_KS) : Prop := v_rel pn hd hd' s.1 s'.1 ∧ X s.1 s'.1 ∧ s.2 = s'.2
theorem v_rel_hi {pn : Nat} {hd hd' v v' w w' : q_V} (h : v_rel pn hd hd' v v') (hw : ∀ q, q < 4 ∨ 52 ≤ q → w q = v q ∧ w' q = v' q) : v_rel pn hd hd' w w' := by
  have z := fun q hq => (hw q hq).1
  have z' := fun q hq => (hw q hq).2
  refine ⟨h.1, fun q hq => by rw [z q (by omega), z' q (by omega)]; exact h.2.1 q hq, fun i hi => ?_⟩
  rw [z _ (by omega), z _ (by omega), z _ (by omega), z _ (by omega), z' _ (by omega), z' _ (by omega), z' _ (by omega), z' _ (by omega)]
  exact h.2.2 i hi
theorem z_warn_n {v : q_V} {T kd q : Nat} (hk : kd < 6) (h : q < 4 ∨ 52 ≤ q) : z_warn v T kd q = v q := by
  have : T % 20 < 20 := Nat.mod_lt _ (by decide)
  unfold z_warn
  rw [z_un (by omega), z_un (by omega), z_un (by omega)]
theorem z_note_n {v : q_V} {T q : Nat} {x : Int32} (h : q < 4 ∨ 52 ≤ q) : z_note v T x q = v q := by
  have : T % 20 < 20 := Nat.mod_lt _ (by decide)
  unfold z_note
  rw [z_un (by omega), z_un (by omega)]
theorem s_rel_warn {X : q_V → q_V → Prop} (hX : x_ok X) {pn kd : Nat} {hd hd' : q_V} {s s' : q_KS} (hk : kd < 6) (h : s_rel X pn hd hd' s s') (o : k_ok s.1) (o' : k_ok s'.1) : s_rel X pn hd hd' (k_warn kd s) (k_warn kd s') := by
  refine ⟨v_rel_hi h.1 (fun q hq => ⟨z_warn_n hk hq, z_warn_n hk hq⟩), hX.2.1 _ _ kd hk o o' h.2.1, ?_⟩
  show (s.2.1, if s.2.2 < 0 then nI s.2.1 else s.2.2) = (s'.2.1, if s'.2.2 < 0 then nI s'.2.1 else s'.2.2)
  rw [h.2.2]
theorem x_lo {X : q_V → q_V → Prop} (hX : x_ok X) {v v' w w' : q_V} (h : X v v') (h1 : ∀ q, 4 ≤ q → q < 52 → w q = v q) (h2 : ∀ q, 4 ≤ q → q < 52 → w' q = v' q) : X w w' := hX.1 v v' w w' h (fun q a b => ⟨h1 q a b, h2 q a b⟩)
theorem s_rel_pass {X : q_V → q_V → Prop} (hX : x_ok X) {pn but : Nat} {mi : Int32} {hd hd' : q_V} {s s' : q_KS} (h : s_rel X pn hd hd' s s') : s_rel X pn hd hd' (k_pass pn mi but s) (k_pass pn mi but s') := by
  obtain ⟨⟨h1, h2, h3⟩, hx, he⟩ := h
  refine ⟨⟨h1, fun q hq => ?_, fun i hi => ?_⟩, x_lo hX hx (fun q a b => z_pass_lo (by omega) (by omega)) (fun q a b => z_pass_lo (by omega) (by omega)), he⟩
  · show z_pass s.1 mi but pn q = z_pass s'.1 mi but pn q
    by_cases e : q = 3
    · subst e
      unfold z_pass
      rw [if_pos rfl, if_pos rfl, h2 3 (by decide)]
    · rw [z_pass_w e (by omega), z_pass_w e (by omega)]
      exact h2 q hq
  · obtain ⟨a0, a1, a2, a3⟩ := h3 i hi
    refine ⟨?_, ?_, ?_, ?_⟩
    · show z_pass s.1 mi but pn _ = z_pass s'.1 mi but pn _
      rw [z_pass_w (by omega) (by omega), z_pass_w (by omega) (by omega), a0]
    · show z_pass s.1 mi but pn _ = z_pass s'.1 mi but pn _
      rw [z_pass_w (by omega) (by omega), z_pass_w (by omega) (by omega), a1]
    · show z_pass s.1 mi but pn _ = z_pass s'.1 mi but pn _
      unfold z_pass
      rw [if_neg (show ¬ 54 + 4 * i = 3 by omega), if_neg (show ¬ 54 + 4 * i = 3 by omega), a2]
    · show z_pass s.1 mi but pn _ = z_pass s'.1 mi but pn _
      rw [z_pass_w (by omega) (by omega), z_pass_w (by omega) (by omega), a3]
theorem s_rel_pan {X : q_V → q_V → Prop} (hX : x_ok X) {pn i : Nat} {a b c d a' b' c' d' : Int32} {hd hd' v v' : q_V} {u : Nat × Int32} (h : s_rel X pn hd hd' (v, u) (v', u)) (e0 : a = a') (e1 : b = b') (e2 : c = c') (e3 : d = d') : s_rel X pn hd hd' (z_pan v i a b c d, u) (z_pan v' i a' b' c' d', u) := by
  subst e0 e1 e2 e3
  obtain ⟨⟨h1, h2, h3⟩, hx, he⟩ := h
  refine ⟨⟨h1, fun q hq => ?_, fun j hj => ?_⟩, x_lo hX hx (fun q a b => z_pan_n (by omega)) (fun q a b => z_pan_n (by omega)), rfl⟩
  · show z_pan _ _ _ _ _ _ q = z_pan _ _ _ _ _ _ q
    rw [z_pan_n (by omega), z_pan_n (by omega)]
    exact h2 q hq
  · show z_pan _ _ _ _ _ _ _ = z_pan _ _ _ _ _ _ _ ∧ z_pan _ _ _ _ _ _ _ = z_pan _ _ _ _ _ _ _ ∧ z_pan _ _ _ _ _ _ _ = z_pan _ _ _ _ _ _ _ ∧ z_pan _ _ _ _ _ _ _ = z_pan _ _ _ _ _ _ _
    by_cases e : j = i
    · subst e
      rw [z_pan_0, z_pan_0, z_pan_1, z_pan_1, z_pan_2, z_pan_2, z_pan_3, z_pan_3]
      exact ⟨rfl, rfl, rfl, rfl⟩
    · rw [z_pan_n (by omega), z_pan_n (by omega), z_pan_n (by omega), z_pan_n (by omega), z_pan_n (by omega), z_pan_n (by omega), z_pan_n (by omega), z_pan_n (by omega)]
      exact h3 j hj
theorem k_ok_pan {v : q_V} {i : Nat} {a b c d : Int32} (h : k_ok v) : k_ok (z_pan v i a b c d) := k_ok_of h (z_pan_n (by omega)) (z_pan_n (by omega))
/-- all that is needed of an act: it keeps the kitchen's bounds, warns once at most, does not lose count, and does the same in kitchens that are alike -/
def s_act (pn : Nat) (S : q_S) : Prop := v_good pn S ∧ k_good S ∧ (∀ hd s, s.2.1 ≤ (S hd s).2.1) ∧ ∀ X, x_ok X → ∀ (B : Nat) (hd hd' : q_V) (s s' : q_KS), B ≤ 2 ^ 29 → k_inv1 B s → k_inv1 B s' → s_rel X pn hd hd' s s' → s_rel X pn hd hd' (S hd s) (S hd' s')
def s_blk (pn : Nat) (S : q_S) : Prop := v_good pn S ∧ k_goodB S ∧ (∀ hd s, s.2.1 ≤ (S hd s).2.1) ∧ (∀ hd s, 100 ≤ s.2.1 → S hd s = s) ∧ ∀ X, x_ok X → ∀ (B : Nat) (hd hd' : q_V) (s s' : q_KS), B ≤ 2 ^ 29 → k_inv B s → k_inv B s' → s_rel X pn hd hd' s s' → s_rel X pn hd hd' (S hd s) (S hd' s')
theorem s_ks {s s' : q_KS} (h : s.2 = s'.2) : s' = (s'.1, s.2) := by rw [h]
theorem z_tr_eq {v v' : q_V} {x : Int32} (h1 : v 1 = v' 1) (h2 : v 2 = v' 2) : z_tr v x = z_tr v' x := by unfold z_tr; rw [h1, h2]
theorem s_fill {X : q_V → q_V → Prop} (hX : x_ok X) {pn i : Nat} {b x x' : Int32} {hd hd' v v' : q_V} {u : Nat × Int32} (hi : i < pn) (hx : x = x') (h : s_rel X pn hd hd' (v, u) (v', u)) : s_rel X pn hd hd' (z_fillv hd v i b x, u) (z_fillv hd' v' i b x', u) := by
  subst hx
  obtain ⟨a0, a1, a2, a3⟩ := h.1.2.2 i hi
  have a0 : v (52 + 4 * i) = v' (52 + 4 * i) := a0
  have a1 : v (53 + 4 * i) = v' (53 + 4 * i) := a1
  have a2 : v (54 + 4 * i) = v' (54 + 4 * i) := a2
  have a3 : v (55 + 4 * i) = v' (55 + 4 * i) := a3
  have ah := h.1.1 i hi
  unfold z_fillv
  rw [← a0, ← a1, ← a2, ← a3, ← ah]
  split
  · split
    · exact s_rel_pan hX h rfl rfl rfl rfl
    · exact s_rel_pan hX h rfl rfl rfl rfl
  · exact h
theorem s_pour {pn i : Nat} {b : Int32} {D : q_D} (hi : i < pn) (hD : dR pn D) : s_act pn (k_pour pn i b D) := by
  refine ⟨v_good_pour hi, k_good_pour, fun hd s => ?_, fun X hX B hd hd' s s' hB h1 h1' hr => ?_⟩
  · show s.2.1 ≤ (k_pour2 hd i b (z_tr s.1 (D hd s.1)) s).2.1
    unfold k_pour2
    split <;> exact Nat.le_refl _
  · refine s_rel_pass hX (s := k_pour2 hd i b (z_tr s.1 (D hd s.1)) s) (s' := k_pour2 hd' i b (z_tr s'.1 (D hd' s'.1)) s') ?_
    have ex : z_tr s.1 (D hd s.1) = z_tr s'.1 (D hd' s'.1) := by
      rw [hD hd hd' s.1 s'.1 hr.1]
      exact z_tr_eq (hr.1.2.1 1 (by decide)) (hr.1.2.1 2 (by decide))
    obtain ⟨a0, a1, a2, a3⟩ := hr.1.2.2 i hi
    have ah := hr.1.1 i hi
    unfold k_pour2 z_frv
    rw [← ex, ← a0, ← a1, ← ah]
    have hf : s_rel X pn hd hd' (z_fillv hd s.1 i b (z_tr s.1 (D hd s.1)), s.2) (z_fillv hd' s'.1 i b (z_tr s.1 (D hd s.1)), s.2) := s_fill hX hi rfl (by have := hr; rw [s_ks hr.2.2] at this; exact this)
    have o : k_ok s.1 := h1.le.ok hB
    have o' : k_ok s'.1 := h1'.le.ok hB
    split
    · have := s_rel_warn hX (kd := 1) (by decide) hf (k_ok_of o (z_fillv_n (by omega)) (z_fillv_n (by omega))) (k_ok_of o' (z_fillv_n (by omega)) (z_fillv_n (by omega)))
      rw [hr.2.2] at this
      rw [hr.2.2]
      exact this
    · rw [hr.2.2] at hf
      rw [hr.2.2]
      exact hf
theorem s_heat2 {X : q_V → q_V → Prop} (hX : x_ok X) {pn i : Nat} {x x' : Int32} {hd hd' : q_V} {s s' : q_KS} (hi : i < pn) (hx : x = x') (hr : s_rel X pn hd hd' s s') : s_rel X pn hd hd' (k_heat2 pn i x s) (k_heat2 pn i x' s') := by
  subst hx
  obtain ⟨a0, a1, a2, a3⟩ := hr.1.2.2 i hi
  unfold k_heat2
  rw [← a0, ← a1, ← a2, ← a3]
  split
  · refine s_rel_pass hX (s := (z_pan s.1 i _ _ _ _, s.2)) (s' := (z_pan s'.1 i _ _ _ _, s'.2)) ?_
    rw [← hr.2.2]
    exact s_rel_pan hX (by have := hr; rw [s_ks hr.2.2] at this; exact this) rfl rfl rfl rfl
  · exact hr
theorem s_heat {pn i : Nat} {D : q_D} (hi : i < pn) (hD : dR pn D) : s_act pn (k_heat pn i D) := by
  refine ⟨v_good_heat hi, k_good_heat, fun hd s => ?_, fun X hX B hd hd' s s' hB h1 h1' hr => ?_⟩
  · unfold k_heat k_heat1 k_heat2
    split
    · exact Nat.le_refl _
    · split
      · split <;> exact Nat.le_refl _
      · split <;> exact Nat.le_refl _
  · obtain ⟨a0, a1, a2, a3⟩ := hr.1.2.2 i hi
    have o : k_ok s.1 := h1.le.ok hB
    have o' : k_ok s'.1 := h1'.le.ok hB
    unfold k_heat
    rw [← a0, ← a1, ← hD hd hd' s.1 s'.1 hr.1]
    split
    · exact s_rel_warn hX (by decide) hr o o'
    · unfold k_heat1
      rw [← hr.1.2.1 0 (by decide)]
      refine s_heat2 hX hi rfl ?_
      split
      · exact s_rel_warn hX (by decide) hr o o'
      · exact hr
theorem s_boil3 {X : q_V → q_V → Prop} (hX : x_ok X) {pn i : Nat} {x x' : Int32} {hd hd' : q_V} {s s' : q_KS} (hi : i < pn) (hx : x = x') (hr : s_rel X pn hd hd' s s') : s_rel X pn hd hd' (k_boil3 pn i x s) (k_boil3 pn i x' s') := by
  subst hx
  obtain ⟨a0, a1, a2, a3⟩ := hr.1.2.2 i hi
  unfold k_boil3
  rw [← a0, ← a1, ← a3, ← hr.1.2.1 0 (by decide)]
  refine s_rel_pass hX (s := (z_pan s.1 i _ _ _ _, s.2)) (s' := (z_pan s'.1 i _ _ _ _, s'.2)) ?_
  rw [← hr.2.2]
  exact s_rel_pan hX (by have := hr; rw [s_ks hr.2.2] at this; exact this) rfl rfl rfl rfl
theorem s_boil {pn i : Nat} {D : q_D} (hi : i < pn) (hD : dR pn D) : s_act pn (k_boil pn i D) := by
  refine ⟨v_good_boil hi, k_good_boil, fun hd s => ?_, fun X hX B hd hd' s s' hB h1 h1' hr => ?_⟩
  · unfold k_boil k_boil2 k_boil3
    split
    · exact Nat.le_refl _
    · split <;> exact Nat.le_refl _
  · obtain ⟨a0, a1, a2, a3⟩ := hr.1.2.2 i hi
    have o : k_ok s.1 := h1.le.ok hB
    have o' : k_ok s'.1 := h1'.le.ok hB
    unfold k_boil
    rw [← a0, ← a2, ← hr.1.2.1 0 (by decide), ← hD hd hd' s.1 s'.1 hr.1]
    split
    · exact s_rel_warn hX (by decide) hr o o'
    · unfold k_boil2
      rw [← a0]
      refine s_boil3 hX hi rfl ?_
      split
      · exact s_rel_warn hX (by decide) hr o o'
      · exact hr
theorem s_empty {pn i : Nat} (hi : i < pn) : s_act pn (k_empty pn i) := by
  refine ⟨fun hd s h => v_ok_pass (v_ok_pan h ?_), fun B hd s hB h => k_inv_pass (k_inv_same h.le (z_pan_n (by omega)) (z_pan_n (by omega)) rfl), fun hd s => Nat.le_refl _, fun X hX B hd hd' s s' hB h1 h1' hr => ?_⟩
  · obtain ⟨a, b, y, e1, e2, e3, h1, h2⟩ := h.2.2 i hi
    exact ⟨0, 0, y, nI_0.symm, nI_0.symm, e3, by omega, h2⟩
  · refine s_rel_pass hX (s := (z_pan s.1 i 0 0 20 0, s.2)) (s' := (z_pan s'.1 i 0 0 20 0, s'.2)) ?_
    rw [← hr.2.2]
    exact s_rel_pan hX (by have := hr; rw [s_ks hr.2.2] at this; exact this) rfl rfl rfl rfl
theorem s_rest {pn : Nat} {D : q_D} (hD : dR pn D) : s_act pn (k_rest pn D) := by
  refine ⟨fun hd s h => v_ok_pass h, fun B hd s hB h => k_inv_pass h.le, fun hd s => Nat.le_refl _, fun X hX B hd hd' s s' hB h1 h1' hr => ?_⟩
  unfold k_rest
  rw [← hD hd hd' s.1 s'.1 hr.1]
  exact s_rel_pass hX hr
theorem s_note {pn : Nat} {D : q_D} (hD : dR pn D) : s_act pn (k_note D) := by
  refine ⟨fun hd s h => v_ok_note h, fun B hd s hB h => k_inv_note hB h, fun hd s => Nat.le_refl _, fun X hX B hd hd' s s' hB h1 h1' hr => ?_⟩
  unfold k_note
  rw [← hD hd hd' s.1 s'.1 hr.1]
  exact ⟨v_rel_hi hr.1 (fun q hq => ⟨z_note_n hq, z_note_n hq⟩), hX.2.2 _ _ _ (h1.le.ok hB) (h1'.le.ok hB) hr.2.1, hr.2.2⟩
theorem s_nil {pn : Nat} : s_blk pn k_nil := ⟨fun _ _ h => h, fun _ _ _ _ h => h, fun _ _ => Nat.le_refl _, fun _ _ _ => rfl, fun _ _ _ _ _ _ _ _ _ _ h => h⟩
theorem k_inv_beg {B : Nat} {s : q_KS} (h : k_inv B s) (hb : s.2.1 < 100) : k_inv1 B (s.1, s.2.1 + 1, s.2.2) := by
  obtain ⟨a1, ⟨a2, a3⟩, a4, a5⟩ := h
  refine ⟨hb, ⟨a2, ?_⟩, a4, ?_⟩
  · show k_T s.1 + 101 ≤ B + (s.2.1 + 1)
    omega
  · show k_N s.1 + 101 ≤ B + (s.2.1 + 1)
    omega
theorem s_cons {pn : Nat} {S1 S2 : q_S} (h1 : s_act pn S1) (h2 : s_blk pn S2) : s_blk pn (k_cons S1 S2) := by
  refine ⟨v_good_cons h1.1 h2.1, k_good_cons h1.2.1 h2.2.1, fun hd s => ?_, fun hd s hb => ?_, fun X hX B hd hd' s s' hB i1 i1' hr => ?_⟩
  · unfold k_cons
    split
    · exact Nat.le_trans (Nat.le_succ _) (Nat.le_trans (h1.2.2.1 hd (s.1, s.2.1 + 1, s.2.2)) (h2.2.2.1 hd _))
    · exact Nat.le_refl _
  · unfold k_cons
    rw [if_neg (by omega)]
  · unfold k_cons
    have eb : s.2.1 = s'.2.1 := congrArg Prod.fst hr.2.2
    have ew : s.2.2 = s'.2.2 := congrArg Prod.snd hr.2.2
    rw [← eb, ← ew]
    split
    · next hb =>
      have j1 := k_inv_beg i1 hb
      have j1' : k_inv1 B (s'.1, s.2.1 + 1, s.2.2) := by rw [eb, ew]; exact k_inv_beg i1' (by rw [← eb]; exact hb)
      exact h2.2.2.2.2 X hX B hd hd' _ _ hB (h1.2.1 B hd _ hB j1) (h1.2.1 B hd' _ hB j1') (h1.2.2.2 X hX B hd hd' _ _ hB j1 j1' ⟨hr.1, hr.2.1, rfl⟩)
    · exact hr
theorem s_row {pn : Nat} {RA : q_S → Prop} (h : ∀ S, RA S → s_act pn S) : ∀ (m : Nat) (S : q_S), sL RA m S → s_blk pn S
  | 0, S, e => by
    have e : S = k_nil := e
    rw [e]
    exact s_nil
  | m + 1, S, e => by
    obtain ⟨S1, S2, r1, r2, rfl⟩ := e
    exact s_cons (h S1 r1) (s_row h m S2 r2)
theorem s_iter {pn : Nat} {F : q_S} (h : s_blk pn F) {X : q_V → q_V → Prop} (hX : x_ok X) {B : Nat} {hd hd' : q_V} (hB : B ≤ 2 ^ 29) : ∀ (j : Nat) (s s' : q_KS), k_inv B s → k_inv B s' → s_rel X pn hd hd' s s' → s_rel X pn hd hd' (k_iter (F hd) j s) (k_iter (F hd') j s')
  | 0, _, _, _, _, h => h
  | j + 1, s, s', i1, i2, hr => s_iter h hX hB j _ _ (h.2.1 B hd s hB i1) (h.2.1 B hd' s' hB i2) (h.2.2.2.2 X hX B hd hd' s s' hB i1 i2 hr)
theorem s_iter_b {pn : Nat} {F : q_S} (h : s_blk pn F) {hd : q_V} : ∀ (j : Nat) (s : q_KS), s.2.1 ≤ (k_iter (F hd) j s).2.1
  | 0, _ => Nat.le_refl _
  | j + 1, s => Nat.le_trans (h.2.2.1 hd s) (s_iter_b h j _)
theorem s_again {pn : Nat} {D : q_D} {F : q_S} (hD : dR pn D) (h : s_blk pn F) : s_act pn (k_again D F) := by
  refine ⟨fun hd s hv => v_good_iter (fun s hs => h.1 hd s hs) _ s hv, fun B hd s hB hi => k_good_iter (fun s hs => h.2.1 B hd s hB hs) _ s hi.le, fun hd s => s_iter_b h _ s, fun X hX B hd hd' s s' hB h1 h1' hr => ?_⟩
  unfold k_again
  rw [← hD hd hd' s.1 s'.1 hr.1]
  exact s_iter h hX hB _ s s' h1.le h1'.le hr
theorem s_if {pn : Nat} {C : q_V → q_V → Bool} {B1 B2 : q_S} (hC : cR pn C) (h1 : s_blk pn B1) (h2 : s_blk pn B2) : s_act pn (k_if C B1 B2) := by
  refine ⟨fun hd s hv => ?_, fun B hd s hB hi => ?_, fun hd s => ?_, fun X hX B hd hd' s s' hB i1 i1' hr => ?_⟩
  · unfold k_if
    split
    · exact h1.1 hd s hv
    · exact h2.1 hd s hv
  · unfold k_if
    split
    · exact h1.2.1 B hd s hB hi.le
    · exact h2.2.1 B hd s hB hi.le
  · unfold k_if
    split
    · exact h1.2.2.1 hd s
    · exact h2.2.2.1 hd s
  · unfold k_if
    rw [← hC hd hd' s.1 s'.1 hr.1]
    split
    · exact h1.2.2.2.2 X hX B hd hd' s s' hB i1.le i1'.le hr
    · exact h2.2.2.2.2 X hX B hd hd' s s' hB i1.le i1'.le hr
theorem s_blk_act {pn : Nat} {S : q_S} (h : s_blk pn S) : s_act pn S := ⟨h.1, fun B hd s hB hi => h.2.1 B hd s hB hi.le, h.2.2.1, fun X hX B hd hd' s s' hB i1 i1' hr => h.2.2.2.2 X hX B hd hd' s s' hB i1.le i1'.le hr⟩
theorem s_all {pn : Nat} {RS : Nat → q_S} {R : Nat} (hRS : ∀ r, r < R → s_blk pn (RS r)) : ∀ (d : Nat) (S : q_S), sA pn RS R d S → s_act pn S
  | 0, _, h => h.elim
  | d + 1, S, h => by
    have L := fun m B1 (z : sL (sA pn RS R d) m B1) => s_row (fun S h => s_all hRS d S h) m B1 z
    rcases h with ⟨i, b, D, a1, a2, rfl⟩ | ⟨i, D, a1, a2, rfl⟩ | ⟨i, D, a1, a2, rfl⟩ | ⟨i, a1, rfl⟩ | ⟨D, a2, rfl⟩ | ⟨D, a2, rfl⟩ | ⟨r, a1, rfl⟩ | ⟨D, m, Bk, a1, a2, rfl⟩ | ⟨C, m1, B1, m2, B2, a1, a2, a3, rfl⟩
    · exact s_pour a1 a2
    · exact s_heat a1 a2
    · exact s_boil a1 a2
    · exact s_empty a1
    · exact s_rest a2
    · exact s_note a2
    · exact s_blk_act (hRS r a1)
    · exact s_again a1 (L m Bk a2)
    · exact s_if a1 (L m1 B1 a2) (L m2 B2 a3)
theorem s_rec {B : q_R} {pn hn hc hi : Nat} {RS : Nat → q_S} : ∀ R, mRS B pn hn hc hi RS R → ∀ r, r < R → s_blk pn (RS r)
  | 0, _, r, hr => absurd hr (Nat.not_lt_zero _)
  | R + 1, h, r, hr => by
    have ih := s_rec R (fun r hr => h r (by omega))
    rcases Nat.lt_or_ge r R with h1 | h1
    · exact ih r h1
    · have e : r = R := by omega
      subst e
      obtain ⟨-, m, hm⟩ := h r (by omega)
      exact s_row (fun S h => s_all ih 6 S h) m _ (mL_s (SA := sA pn RS r 6) (fun a S h => mA_s 6 a S h) m _ _ hm)
/-- again, as the reference counts it -/
theorem k_iter_stop {pn : Nat} {F : q_S} (h : s_blk pn F) {hd : q_V} : ∀ (j : Nat) (s : q_KS), 100 ≤ s.2.1 → k_iter (F hd) j s = s
  | 0, _, _ => rfl
  | j + 1, s, hb => by
    show k_iter (F hd) j (F hd s) = s
    rw [h.2.2.2.1 hd s hb]
    exact k_iter_stop h j s hb
theorem k_iter_add {F : q_KS → q_KS} : ∀ (i j : Nat) (s : q_KS), k_iter F (i + j) s = k_iter F j (k_iter F i s)
  | 0, j, s => by rw [Nat.zero_add]; rfl
  | i + 1, j, s => by
    rw [show i + 1 + j = (i + j) + 1 by omega]
    exact k_iter_add i j (F s)
theorem k_iter_nil {hd : q_V} : ∀ (j : Nat) (s : q_KS), k_iter (k_nil hd) j s = s
  | 0, _ => rfl
  | j + 1, s => k_iter_nil j s
/-! the first act that warns -/
def k_w (s : q_KS) : Prop := s.2.2 = -1 ∨ ¬ s.2.2 < 0
def w_act (S : q_S) : Prop := ∀ (B : Nat) (hd : q_V) (s : q_KS), B ≤ 2 ^ 29 → k_inv1 B s → k_w s → k_w (S hd s)
def w_blk (S : q_S) : Prop := ∀ (B : Nat) (hd : q_V) (s : q_KS), B ≤ 2 ^ 29 → k_inv B s → k_w s → k_w (S hd s)
theorem w_warn {kd : Nat} {s : q_KS} (h : k_w s) (hb : s.2.1 ≤ 100) : k_w (k_warn kd s) := by
  refine Or.inr ?_
  show ¬ (if s.2.2 < 0 then nI s.2.1 else s.2.2) < 0
  split
  · exact nI_pos (by omega)
  · next h1 => exact h1
theorem w_pour {pn i : Nat} {b : Int32} {D : q_D} : w_act (k_pour pn i b D) := by
  intro B hd s hB hi h
  show k_w (k_pass pn 1 i (k_pour2 hd i b (z_tr s.1 (D hd s.1)) s))
  show k_w (_, (k_pour2 hd i b (z_tr s.1 (D hd s.1)) s).2.1, (k_pour2 hd i b (z_tr s.1 (D hd s.1)) s).2.2)
  have : k_w (k_pour2 hd i b (z_tr s.1 (D hd s.1)) s) := by
    unfold k_pour2
    split
    · exact w_warn (s := (_, s.2.1, s.2.2)) h hi.1
    · exact h
  exact this
theorem w_heat {pn i : Nat} {D : q_D} : w_act (k_heat pn i D) := by
  intro B hd s hB hi h
  have H2 : ∀ (to : Int32) (s : q_KS), k_w s → k_w (k_heat2 pn i to s) := by
    intro to s h
    unfold k_heat2
    split
    · exact h
    · exact h
  unfold k_heat
  split
  · exact w_warn h hi.1
  · unfold k_heat1
    refine H2 _ _ ?_
    split
    · exact w_warn h hi.1
    · exact h
theorem w_boil {pn i : Nat} {D : q_D} : w_act (k_boil pn i D) := by
  intro B hd s hB hi h
  have H2 : ∀ (to : Int32) (s : q_KS), k_w s → k_w (k_boil3 pn i to s) := fun _ _ h => h
  unfold k_boil
  split
  · exact w_warn h hi.1
  · unfold k_boil2
    refine H2 _ _ ?_
    split
    · exact w_warn h hi.1
    · exact h
theorem w_iter {B : Nat} {F : q_KS → q_KS} (hF : ∀ s, k_inv B s → k_w s → k_inv B (F s) ∧ k_w (F s)) : ∀ (j : Nat) (s : q_KS), k_inv B s → k_w s → k_w (k_iter F j s)
  | 0, _, _, h => h
  | j + 1, s, hi, h => w_iter hF j (F s) (hF s hi h).1 (hF s hi h).2
theorem w_cons {pn : Nat} {S1 S2 : q_S} (a1 : s_act pn S1) (h1 : w_act S1) (h2 : w_blk S2) : w_blk (k_cons S1 S2) := by
  intro B hd s hB hi h
  unfold k_cons
  split
  · next hb => exact h2 B hd _ hB (a1.2.1 B hd _ hB (k_inv_beg hi hb)) (h1 B hd _ hB (k_inv_beg hi hb) h)
  · exact h
theorem w_row {pn : Nat} {RA : q_S → Prop} (h : ∀ S, RA S → s_act pn S ∧ w_act S) : ∀ (m : Nat) (S : q_S), sL RA m S → w_blk S
  | 0, S, e => by
    have e : S = k_nil := e
    rw [e]
    exact fun _ _ _ _ _ h => h
  | m + 1, S, e => by
    obtain ⟨S1, S2, r1, r2, rfl⟩ := e
    exact w_cons (h S1 r1).1 (h S1 r1).2 (w_row h m S2 r2)
theorem w_all {pn : Nat} {RS : Nat → q_S} {R : Nat} (hRS : ∀ r, r < R → s_blk pn (RS r) ∧ w_blk (RS r)) : ∀ (d : Nat) (S : q_S), sA pn RS R d S → s_act pn S ∧ w_act S
  | 0, _, h => h.elim
  | d + 1, S, h => by
    refine ⟨s_all (fun r hr => (hRS r hr).1) (d + 1) S h, ?_⟩
    have L := fun m B1 (z : sL (sA pn RS R d) m B1) => w_row (fun S h => w_all hRS d S h) m B1 z
    have LS := fun m B1 (z : sL (sA pn RS R d) m B1) => s_row (fun S h => (w_all hRS d S h).1) m B1 z
    rcases h with ⟨i, b, D, a1, a2, rfl⟩ | ⟨i, D, a1, a2, rfl⟩ | ⟨i, D, a1, a2, rfl⟩ | ⟨i, a1, rfl⟩ | ⟨D, a2, rfl⟩ | ⟨D, a2, rfl⟩ | ⟨r, a1, rfl⟩ | ⟨D, m, Bk, a1, a2, rfl⟩ | ⟨C, m1, B1, m2, B2, a1, a2, a3, rfl⟩
    · exact w_pour
    · exact w_heat
    · exact w_boil
    · exact fun _ _ _ _ _ h => h
    · exact fun _ _ _ _ _ h => h
    · exact fun _ _ _ _ _ h => h
    · exact fun B hd s hB hi h => (hRS r a1).2 B hd s hB hi.le h
    · exact fun B hd s hB hi h => w_iter (fun s i1 i2 => ⟨(LS m Bk a2).2.1 B hd s hB i1, L m Bk a2 B hd s hB i1 i2⟩) _ s hi.le h
    · intro B hd s hB hi h
      unfold k_if
      split
      · exact L m1 B1 a2 B hd s hB hi.le h
      · exact L m2 B2 a3 B hd s hB hi.le h
theorem w_rec {B : q_R} {pn hn hc hi : Nat} {RS : Nat → q_S} : ∀ R, mRS B pn hn hc hi RS R → ∀ r, r < R → s_blk pn (RS r) ∧ w_blk (RS r)
  | 0, _, r, hr => absurd hr (Nat.not_lt_zero _)
  | R + 1, h, r, hr => by
    have ih := w_rec R (fun r hr => h r (by omega))
    rcases Nat.lt_or_ge r R with h1 | h1
    · exact ih r h1
    · have e : r = R := by omega
      subst e
      obtain ⟨-, m, hm⟩ := h r (by omega)
      have z := mL_s (SA := sA pn RS r 6) (fun a S h => mA_s 6 a S h) m _ _ hm
      exact ⟨s_row (fun S h => s_all (fun r hr => (ih r hr).1) 6 S h) m _ z, w_row (fun S h => w_all ih 6 S h) m _ z⟩
theorem w_list {B : q_R} {pn hn hc hi lo : Nat} {RS : Nat → q_S} {R d m : Nat} {o : Int32} {S : q_S} (hRS : mRS B pn hn hc hi RS R) (h : mL B lo hi (mA B pn hn hc hi RS R d) m o S) : s_blk pn S ∧ w_blk S := by
  have z := mL_s (SA := sA pn RS R d) (fun a S h => mA_s d a S h) m _ _ h
  exact ⟨s_row (fun S h => s_all (fun r hr => (w_rec R hRS r hr).1) d S h) m _ z, w_row (fun S h => w_all (w_rec R hRS) d S h) m _ z⟩
theorem w_one {B : q_R} {pn hn hc hi : Nat} {RS : Nat → q_S} {R d a : Nat} {S : q_S} (hRS : mRS B pn hn hc hi RS R) (h : mA B pn hn hc hi RS R d a S) : s_act pn S ∧ w_act S := w_all (w_rec R hRS) d S (mA_s d a S h)
theorem mRS_le {B : q_R} {pn hn hc hi : Nat} {RS : Nat → q_S} {R R' : Nat} (h : mRS B pn hn hc hi RS R) (hR : R' ≤ R) : mRS B pn hn hc hi RS R' := fun r hr => h r (by omega)
theorem mL_inc {B : q_R} {lo hi : Nat} {RA : Nat → q_S → Prop} {pn m : Nat} {o : Int32} {S : q_S} (h : mL B lo hi RA m o S) (ho : ¬ o = -1) (hR : ∀ a S, RA a S → s_act pn S) {hd : q_V} {s : q_KS} (hb : s.2.1 < 100) (hS2 : ∀ m o S, mL B lo hi RA m o S → s_blk pn S) : s.2.1 + 1 ≤ (S hd s).2.1 := by
  cases m with
  | zero => exact absurd h.1 ho
  | succ m =>
    obtain ⟨a, S1, S2, -, -, -, r1, r2, rfl⟩ := h
    unfold k_cons
    rw [if_pos hb]
    exact Nat.le_trans ((hR a S1 r1).2.2.1 hd (s.1, s.2.1 + 1, s.2.2)) ((hS2 m _ S2 r2).2.2.1 hd _)
theorem mL_nil {B : q_R} {lo hi : Nat} {RA : Nat → q_S → Prop} {m : Nat} {o : Int32} {S : q_S} (h : mL B lo hi RA m o S) (ho : o = -1) (hhi : hi ≤ 2 ^ 30) : S = k_nil := by
  cases m with
  | zero => exact h.2
  | succ m =>
    obtain ⟨a, S1, S2, e, h1, h2, -, -, -⟩ := h
    rw [ho] at e
    exact absurd (e ▸ nI_pos (n := a) (by omega) : ¬ (-1 : Int32) < 0) (by decide)
theorem again_T {x : Int32} {j : Nat} (h1 : x ≤ nI j) (h2 : j ≤ x.toNatClampNeg) (h3 : j ≤ 100) : (q_min x 100).toNatClampNeg = j := by
  by_cases h0 : x < 0
  · have e : x.toNatClampNeg = 0 := by
      show x.toInt.toNat = 0
      have := Int32.lt_iff_toInt_lt.mp h0
      rw [show (0 : Int32).toInt = 0 from rfl] at this
      omega
    have ej : j = 0 := by omega
    unfold q_min
    rw [if_neg (fun h9 => by
      have a := Int32.lt_iff_toInt_lt.mp h0
      have b := Int32.lt_iff_toInt_lt.mp h9
      rw [show (0 : Int32).toInt = 0 from rfl] at a
      rw [show (100 : Int32).toInt = 100 from rfl] at b
      omega), e, ej]
  · obtain ⟨t, ht, rfl⟩ := nI_of h0
    rw [nI_clamp ht] at h2
    have h4 : t ≤ j := (nI_leI ht (by omega)).1 h1
    have e : t = j := by omega
    subst e
    rw [show (100 : Int32) = nI 100 from rfl, q_min_n ht (by decide), Nat.min_eq_left h3, nI_clamp (by omega)]
theorem again_F {x : Int32} {j : Nat} (h1 : ¬ x ≤ nI j) (h3 : j ≤ 100) : j + 1 ≤ x.toNatClampNeg ∧ j ≤ (q_min x 100).toNatClampNeg := by
  have h0 : ¬ x < 0 := fun h9 => h1 (Int32.le_trans (Int32.le_of_lt h9) (nI_pos' (by omega)))
  obtain ⟨t, ht, rfl⟩ := nI_of h0
  have h4 : ¬ t ≤ j := fun h9 => h1 (nI_le h9 (by omega))
  rw [show (100 : Int32) = nI 100 from rfl, q_min_n ht (by decide), nI_clamp ht]
  refine ⟨by omega, ?_⟩
  rw [nI_clamp (by omega)]
  omega
