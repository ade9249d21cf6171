/-! the law's kitchen: made, climbed with, cooked in; its warnings -/

/-- how the kinds of warnings and the latest ones are -/
def w_sum (v : q_V) : Prop := v 6 = 0 ∧ v 4 = v 7 + v 8 + v 9 + v 10 + v 11 ∧ ∀ j, j < 20 → j < k_T v → ∃ kd, 1 ≤ kd ∧ kd ≤ 5 ∧ v (12 + j) = nI kd
theorem w_sum.same {v w : q_V} (h : w_sum v) (hq : ∀ q, 4 ≤ q → q < 32 → q ≠ 5 → w q = v q) : w_sum w := by
  obtain ⟨h1, h2, h3⟩ := h
  refine ⟨(hq 6 (by decide) (by decide) (by decide)).trans h1, ?_, fun j hj hT => ?_⟩
  · rw [hq 4 (by decide) (by decide) (by decide), hq 7 (by decide) (by decide) (by decide), hq 8 (by decide) (by decide) (by decide), hq 9 (by decide) (by decide) (by decide), hq 10 (by decide) (by decide) (by decide), hq 11 (by decide) (by decide) (by decide)]
    exact h2
  · rw [hq (12 + j) (by omega) (by omega) (by omega)]
    refine h3 j hj ?_
    have e : k_T w = k_T v := by unfold k_T; rw [hq 4 (by decide) (by decide) (by decide)]
    rw [← e]
    exact hT
theorem i5_1 (a b c d e : Int32) : a + 1 + b + c + d + e = a + b + c + d + e + 1 := by
  rw [Int32.add_assoc a 1 b, Int32.add_comm 1 b, ← Int32.add_assoc a b 1, Int32.add_assoc (a + b) 1 c, Int32.add_comm 1 c, ← Int32.add_assoc (a + b) c 1, Int32.add_assoc (a + b + c) 1 d, Int32.add_comm 1 d, ← Int32.add_assoc (a + b + c) d 1, Int32.add_assoc (a + b + c + d) 1 e, Int32.add_comm 1 e, ← Int32.add_assoc (a + b + c + d) e 1]
theorem w_sum.warn {v : q_V} {kd : Nat} (h : w_sum v) (h1 : 1 ≤ kd) (h5 : kd ≤ 5) (hT : k_T v < 2 ^ 30) (hv4 : v 4 = nI (k_T v)) : w_sum (z_warn v (k_T v) kd) := by
  obtain ⟨a1, a2, a3⟩ := h
  have hm : k_T v % 20 < 20 := Nat.mod_lt _ (by decide)
  have e4 : z_warn v (k_T v) kd 4 = v 4 + 1 := by rw [z_warn_4, ← hv4]
  have zk := fun j (hj : j < 6) => z_warn_k (v := v) (T := k_T v) (kd := kd) (j := j) (by omega) hj
  have zr : ∀ j, j < 20 → z_warn v (k_T v) kd (12 + j) = if j = k_T v % 20 then nI kd else v (12 + j) := fun j hj => by
    unfold z_warn
    rw [z_un (by omega), z_un (by omega)]
    by_cases e9 : j = k_T v % 20
    · rw [if_pos e9, e9, z_us]
    · rw [if_neg e9, z_un (by omega)]
  refine ⟨?_, ?_, fun j hj hjT => ?_⟩
  · exact (zk 0 (by decide)).trans ((if_neg (by omega)).trans a1)
  · rw [e4, show z_warn v (k_T v) kd 7 = _ from zk 1 (by decide), show z_warn v (k_T v) kd 8 = _ from zk 2 (by decide), show z_warn v (k_T v) kd 9 = _ from zk 3 (by decide), show z_warn v (k_T v) kd 10 = _ from zk 4 (by decide), show z_warn v (k_T v) kd 11 = _ from zk 5 (by decide), a2]
    show v 7 + v 8 + v 9 + v 10 + v 11 + 1 = (if 1 = kd then v 7 + 1 else v 7) + (if 2 = kd then v 8 + 1 else v 8) + (if 3 = kd then v 9 + 1 else v 9) + (if 4 = kd then v 10 + 1 else v 10) + (if 5 = kd then v 11 + 1 else v 11)
    rcases (show kd = 1 ∨ kd = 2 ∨ kd = 3 ∨ kd = 4 ∨ kd = 5 by omega) with rfl | rfl | rfl | rfl | rfl
    · exact (i5_1 _ _ _ _ _).symm
    · show _ = v 7 + (v 8 + 1) + v 9 + v 10 + v 11
      rw [← Int32.add_assoc (v 7) (v 8) 1]
      have := i5_1 (v 7 + v 8) (v 9) (v 10) (v 11) 0
      rw [Int32.add_zero, Int32.add_zero] at this
      exact this.symm
    · show _ = v 7 + v 8 + (v 9 + 1) + v 10 + v 11
      rw [← Int32.add_assoc (v 7 + v 8) (v 9) 1]
      have := i5_1 (v 7 + v 8 + v 9) (v 10) (v 11) 0 0
      rw [Int32.add_zero, Int32.add_zero, Int32.add_zero, Int32.add_zero] at this
      exact this.symm
    · show _ = v 7 + v 8 + v 9 + (v 10 + 1) + v 11
      rw [← Int32.add_assoc (v 7 + v 8 + v 9) (v 10) 1]
      have := i5_1 (v 7 + v 8 + v 9 + v 10) (v 11) 0 0 0
      rw [Int32.add_zero, Int32.add_zero, Int32.add_zero, Int32.add_zero, Int32.add_zero, Int32.add_zero] at this
      exact this.symm
    · show _ = v 7 + v 8 + v 9 + v 10 + (v 11 + 1)
      exact (Int32.add_assoc _ _ _)
  · have eT : k_T (z_warn v (k_T v) kd) = k_T v + 1 := by
      show (z_warn v (k_T v) kd 4).toNatClampNeg = _
      rw [z_warn_4, nI_1]
      exact nI_clamp (by omega)
    rw [eT] at hjT
    rw [zr j hj]
    by_cases e9 : j = k_T v % 20
    · rw [if_pos e9]; exact ⟨kd, h1, h5, rfl⟩
    · rw [if_neg e9]
      refine a3 j hj ?_
      rcases Nat.lt_or_ge j (k_T v) with h8 | h8
      · exact h8
      · exact absurd (show j = k_T v % 20 by rw [Nat.mod_eq_of_lt (by omega)]; omega) e9

set_option maxHeartbeats 4000000 in
set_option maxRecDepth 100000 in
theorem kX15_init (l : Launch) (E : q_E) (f : q_H) (n : Nat) (k : Nat) (h0 : f k = some (cLK 0 0 0 0 none none none none none 0 0 0)) : Met l yX15_init wsX15_init ({ frames := 1, cells := 5, slots := 6, locals := 20 }) (q_P E [.ref k] f n) (q_Qv E (fun f1 n1 => f1 k = some (cLK 0 4 1 0 (some n) (some (n + 1)) (some (n + 2)) (some (n + 3)) (some (n + 4)) 0 0 0) ∧ f1 n = some (aQ E 8 0 (fun _ => none)) ∧ f1 (n + 1) = some (aQ E 9 0 (fun _ => none)) ∧ f1 (n + 2) = some (aI E 6 (fun _ => 0)) ∧ f1 (n + 3) = some (aI E 0 (fun _ => 0)) ∧ f1 (n + 4) = some (aI E 0 (fun _ => 0)) ∧ n1 = n + 5 ∧ ∀ z9, z9 ≠ k → z9 < n → f1 z9 = f z9)) 5 6 (q_ge E) := by
  refine Met.ofW (cc := cX15_init) (maxL := 1) (ret := none) (by decide) rfl ?_
  intro p0_ e0_ s0_ m0_ args0_ below0_ meth0_ c0_ s1_ B0_ hml hv
  obtain ⟨rfl, hA, hW⟩ := hv
  have hx := B0_.exec
  have hb := B0_.bytes
  have hr := B0_.returns
  have hts := atoms_spec (ws := wsX15_init) B0_.pre
  have hown : s0_.vm.findClass RX15 = some m0_.cls := findClass_of_methodNamed B0_.named
  have hlocks := B0_.notSynchronized
  have hin : meth0_.name = "<init>" := (name_of_methodNamed B0_.named B0_.method).1
  have hS : va_S (q_ge E) s0_.heap s0_.heap [] := va_S.rf
  have iX15 : ∀ w ∈ wsX150, w ∈ wsX15_init := by decide +kernel
  have hl := lv_entry ([.ref k]) (n := 1) (Nat.le_of_ble_eq_true rfl)
  rw [lg_entry_eq]
  generalize (lg_sl ([.ref k]) ++ List.replicate (1 - (lg_sl ([.ref k])).length) Slot.unset).toArray = ls at hl ⊢
  have hl : lv_has ls 1 [(0, .ref k)] := hl
  have l_h0 := hW.lt h0
  refine lv_aload_n hx hb dX15_init_0 rfl (lv_at hl 0 rfl) ?_
  refine w_objInit hx hb hown (hts (.methodLink RX15 1 objectInit) (by decide +kernel)) (hts (.instanceMethod objectInit) (by decide +kernel)) (hts (.code objectInit ⟨#[0xb1]⟩ 1 none) (by decide +kernel)) rfl (hl.1.trans hml.symm) rfl dX15_init_1 (Nat.le_of_ble_eq_true rfl) (Nat.le_of_ble_eq_true rfl) ?_
  refine lv_aload_n hx hb dX15_init_4 rfl (lv_at hl 0 rfl) ?_
  refine lv_iconst (v := 4) hx hb dX15_init_5 (by rfl) ?_
  refine q_put hx hb hts hown hA hW hS iX15 tyX15 tyX15_ok nmX15 h0 rfl 1 (by decide) (hts (.fieldLink RX15 7 "HighRecipesLaw$Kitchen" "servings" "I") (by decide +kernel)) (fun _ h9 => h9) rfl rfl rfl (Nat.le_of_ble_eq_true rfl) dX15_init_6 (fun H locs hW hS => ?_)
  have hW : q_W E (va_up f k (some (cLK 0 4 0 0 none none none none none 0 0 0))) n H := hW
  refine lv_aload_n hx hb dX15_init_9 rfl (lv_at hl 0 rfl) ?_
  refine lv_iconst (v := 1) hx hb dX15_init_10 (by rfl) ?_
  refine q_put hx hb hts hown hA hW hS iX15 tyX15 tyX15_ok nmX15 q_eq rfl 2 (by decide) (hts (.fieldLink RX15 13 "HighRecipesLaw$Kitchen" "spoon" "I") (by decide +kernel)) (fun _ h9 => h9) rfl rfl rfl (Nat.le_of_ble_eq_true rfl) dX15_init_11 (fun H locs hW hS => ?_)
  rw [q_upup] at hW
  have hW : q_W E (va_up f k (some (cLK 0 4 1 0 none none none none none 0 0 0))) n H := hW
  refine lv_aload_n hx hb dX15_init_14 rfl (lv_at hl 0 rfl) ?_
  refine lv_iconst (v := 0) hx hb dX15_init_15 (by rfl) ?_
  refine q_newqA (t := .int) hx hb hown hA hW hS (hts (.classLink RX15 16 "[I") (by decide +kernel)) hA.2.2.2.2.2.2.2.2.2.2.2.2.2.1 8 rfl (N' := 0) (by decide) (by decide) (Nat.le_of_ble_eq_true rfl) (by show _ ≤ 5; omega) (by show _ ≤ 6; omega) dX15_init_16 (fun H hW hS => ?_)
  have hW : q_W E (va_up (va_up f k (some (cLK 0 4 1 0 none none none none none 0 0 0))) n (some (aQ E 8 0 (fun _ => none)))) (n + 1) H := hW
  refine q_put hx hb hts hown hA hW hS iX15 tyX15 tyX15_ok nmX15 (q_ne (by omega) q_eq) rfl 4 (by decide) (hts (.fieldLink RX15 18 "HighRecipesLaw$Kitchen" "pans" "[[I") (by decide +kernel)) (fun _ h9 => h9) rfl rfl rfl (Nat.le_of_ble_eq_true rfl) dX15_init_19 (fun H locs hW hS => ?_)
  have hW : q_W E (va_up (va_up (va_up f k (some (cLK 0 4 1 0 none none none none none 0 0 0))) n (some (aQ E 8 0 (fun _ => none)))) k (some (cLK 0 4 1 0 (some n) none none none none 0 0 0))) (n + 1) H := hW
  refine lv_aload_n hx hb dX15_init_22 rfl (lv_at hl 0 rfl) ?_
  refine lv_iconst (v := 0) hx hb dX15_init_23 (by rfl) ?_
  refine q_newqA (t := (.object "HighRecipesLaw$Act")) hx hb hown hA hW hS (hts (.classLink RX15 22 "[LHighRecipesLaw$Act;") (by decide +kernel)) hA.2.2.2.2.2.2.2.2.2.2.2.2.2.2 9 rfl (N' := 0) (by decide) (by decide) (Nat.le_of_ble_eq_true rfl) (by show _ ≤ 5; omega) (by show _ ≤ 6; omega) dX15_init_24 (fun H hW hS => ?_)
  have hW : q_W E (va_up (va_up (va_up (va_up f k (some (cLK 0 4 1 0 none none none none none 0 0 0))) n (some (aQ E 8 0 (fun _ => none)))) k (some (cLK 0 4 1 0 (some n) none none none none 0 0 0))) (n + 1) (some (aQ E 9 0 (fun _ => none)))) (n + 1 + 1) H := hW
  refine q_put hx hb hts hown hA hW hS iX15 tyX15 tyX15_ok nmX15 (q_ne (by omega) q_eq) rfl 5 (by decide) (hts (.fieldLink RX15 24 "HighRecipesLaw$Kitchen" "recipes" "[[LHighRecipesLaw$Act;") (by decide +kernel)) (fun _ h9 => h9) rfl rfl rfl (Nat.le_of_ble_eq_true rfl) dX15_init_27 (fun H locs hW hS => ?_)
  have hW : q_W E (va_up (va_up (va_up (va_up (va_up f k (some (cLK 0 4 1 0 none none none none none 0 0 0))) n (some (aQ E 8 0 (fun _ => none)))) k (some (cLK 0 4 1 0 (some n) none none none none 0 0 0))) (n + 1) (some (aQ E 9 0 (fun _ => none)))) k (some (cLK 0 4 1 0 (some n) (some (n + 1)) none none none 0 0 0))) (n + 2) H := hW
  refine lv_aload_n hx hb dX15_init_30 rfl (lv_at hl 0 rfl) ?_
  refine lv_bipush (v := 6) hx hb dX15_init_31 (by rfl) ?_
  refine q_newa (atype := .int) hx hb hA hW hS (hts (.arrayClass .int) (by decide +kernel)) (ty := .int) rfl 0 rfl (fun C h9 => by cases h9) (N' := 6) (a0 := (6, .inl (fun _ => 0))) (fun _ => rfl) (by decide) (by decide) (Nat.le_of_ble_eq_true rfl) (by show _ ≤ 5; omega) (by show _ ≤ 6; omega) dX15_init_33 (fun H hW hS => ?_)
  have hW : q_W E (va_up (va_up (va_up (va_up (va_up (va_up f k (some (cLK 0 4 1 0 none none none none none 0 0 0))) n (some (aQ E 8 0 (fun _ => none)))) k (some (cLK 0 4 1 0 (some n) none none none none 0 0 0))) (n + 1) (some (aQ E 9 0 (fun _ => none)))) k (some (cLK 0 4 1 0 (some n) (some (n + 1)) none none none 0 0 0))) (n + 2) (some (aI E 6 (fun _ => 0)))) (n + 2 + 1) H := hW
  refine q_put hx hb hts hown hA hW hS iX15 tyX15 tyX15_ok nmX15 (q_ne (by omega) q_eq) rfl 6 (by decide) (hts (.fieldLink RX15 28 "HighRecipesLaw$Kitchen" "kinds" "[I") (by decide +kernel)) (fun _ h9 => h9) rfl rfl rfl (Nat.le_of_ble_eq_true rfl) dX15_init_35 (fun H locs hW hS => ?_)
  have hW : q_W E (va_up (va_up (va_up (va_up (va_up (va_up (va_up f k (some (cLK 0 4 1 0 none none none none none 0 0 0))) n (some (aQ E 8 0 (fun _ => none)))) k (some (cLK 0 4 1 0 (some n) none none none none 0 0 0))) (n + 1) (some (aQ E 9 0 (fun _ => none)))) k (some (cLK 0 4 1 0 (some n) (some (n + 1)) none none none 0 0 0))) (n + 2) (some (aI E 6 (fun _ => 0)))) k (some (cLK 0 4 1 0 (some n) (some (n + 1)) (some (n + 2)) none none 0 0 0))) (n + 3) H := hW
  refine lv_aload_n hx hb dX15_init_38 rfl (lv_at hl 0 rfl) ?_
  refine lv_iconst (v := 0) hx hb dX15_init_39 (by rfl) ?_
  refine q_newa (atype := .int) hx hb hA hW hS (hts (.arrayClass .int) (by decide +kernel)) (ty := .int) rfl 0 rfl (fun C h9 => by cases h9) (N' := 0) (a0 := (0, .inl (fun _ => 0))) (fun _ => rfl) (by decide) (by decide) (Nat.le_of_ble_eq_true rfl) (by show _ ≤ 5; omega) (by show _ ≤ 6; omega) dX15_init_40 (fun H hW hS => ?_)
  have hW : q_W E (va_up (va_up (va_up (va_up (va_up (va_up (va_up (va_up f k (some (cLK 0 4 1 0 none none none none none 0 0 0))) n (some (aQ E 8 0 (fun _ => none)))) k (some (cLK 0 4 1 0 (some n) none none none none 0 0 0))) (n + 1) (some (aQ E 9 0 (fun _ => none)))) k (some (cLK 0 4 1 0 (some n) (some (n + 1)) none none none 0 0 0))) (n + 2) (some (aI E 6 (fun _ => 0)))) k (some (cLK 0 4 1 0 (some n) (some (n + 1)) (some (n + 2)) none none 0 0 0))) (n + 3) (some (aI E 0 (fun _ => 0)))) (n + 3 + 1) H := hW
  refine q_put hx hb hts hown hA hW hS iX15 tyX15 tyX15_ok nmX15 (q_ne (by omega) q_eq) rfl 7 (by decide) (hts (.fieldLink RX15 31 "HighRecipesLaw$Kitchen" "warned" "[I") (by decide +kernel)) (fun _ h9 => h9) rfl rfl rfl (Nat.le_of_ble_eq_true rfl) dX15_init_42 (fun H locs hW hS => ?_)
  have hW : q_W E (va_up (va_up (va_up (va_up (va_up (va_up (va_up (va_up (va_up f k (some (cLK 0 4 1 0 none none none none none 0 0 0))) n (some (aQ E 8 0 (fun _ => none)))) k (some (cLK 0 4 1 0 (some n) none none none none 0 0 0))) (n + 1) (some (aQ E 9 0 (fun _ => none)))) k (some (cLK 0 4 1 0 (some n) (some (n + 1)) none none none 0 0 0))) (n + 2) (some (aI E 6 (fun _ => 0)))) k (some (cLK 0 4 1 0 (some n) (some (n + 1)) (some (n + 2)) none none 0 0 0))) (n + 3) (some (aI E 0 (fun _ => 0)))) k (some (cLK 0 4 1 0 (some n) (some (n + 1)) (some (n + 2)) (some (n + 3)) none 0 0 0))) (n + 4) H := hW
  refine lv_aload_n hx hb dX15_init_45 rfl (lv_at hl 0 rfl) ?_
  refine lv_iconst (v := 0) hx hb dX15_init_46 (by rfl) ?_
  refine q_newa (atype := .int) hx hb hA hW hS (hts (.arrayClass .int) (by decide +kernel)) (ty := .int) rfl 0 rfl (fun C h9 => by cases h9) (N' := 0) (a0 := (0, .inl (fun _ => 0))) (fun _ => rfl) (by decide) (by decide) (Nat.le_of_ble_eq_true rfl) (by show _ ≤ 5; omega) (by show _ ≤ 6; omega) dX15_init_47 (fun H hW hS => ?_)
  have hW : q_W E (va_up (va_up (va_up (va_up (va_up (va_up (va_up (va_up (va_up (va_up f k (some (cLK 0 4 1 0 none none none none none 0 0 0))) n (some (aQ E 8 0 (fun _ => none)))) k (some (cLK 0 4 1 0 (some n) none none none none 0 0 0))) (n + 1) (some (aQ E 9 0 (fun _ => none)))) k (some (cLK 0 4 1 0 (some n) (some (n + 1)) none none none 0 0 0))) (n + 2) (some (aI E 6 (fun _ => 0)))) k (some (cLK 0 4 1 0 (some n) (some (n + 1)) (some (n + 2)) none none 0 0 0))) (n + 3) (some (aI E 0 (fun _ => 0)))) k (some (cLK 0 4 1 0 (some n) (some (n + 1)) (some (n + 2)) (some (n + 3)) none 0 0 0))) (n + 4) (some (aI E 0 (fun _ => 0)))) (n + 4 + 1) H := hW
  refine q_put hx hb hts hown hA hW hS iX15 tyX15 tyX15_ok nmX15 (q_ne (by omega) q_eq) rfl 8 (by decide) (hts (.fieldLink RX15 34 "HighRecipesLaw$Kitchen" "noted" "[I") (by decide +kernel)) (fun _ h9 => h9) rfl rfl rfl (Nat.le_of_ble_eq_true rfl) dX15_init_49 (fun H locs hW hS => ?_)
  have hW : q_W E (va_up (va_up (va_up (va_up (va_up (va_up (va_up (va_up (va_up (va_up (va_up f k (some (cLK 0 4 1 0 none none none none none 0 0 0))) n (some (aQ E 8 0 (fun _ => none)))) k (some (cLK 0 4 1 0 (some n) none none none none 0 0 0))) (n + 1) (some (aQ E 9 0 (fun _ => none)))) k (some (cLK 0 4 1 0 (some n) (some (n + 1)) none none none 0 0 0))) (n + 2) (some (aI E 6 (fun _ => 0)))) k (some (cLK 0 4 1 0 (some n) (some (n + 1)) (some (n + 2)) none none 0 0 0))) (n + 3) (some (aI E 0 (fun _ => 0)))) k (some (cLK 0 4 1 0 (some n) (some (n + 1)) (some (n + 2)) (some (n + 3)) none 0 0 0))) (n + 4) (some (aI E 0 (fun _ => 0)))) k (some (cLK 0 4 1 0 (some n) (some (n + 1)) (some (n + 2)) (some (n + 3)) (some (n + 4)) 0 0 0))) (n + 5) H := hW
  exact q_vret hx hb hr hlocks hW hS ⟨q_eq, (q_ne (by omega) (q_ne (by omega) (q_ne (by omega) (q_ne (by omega) (q_ne (by omega) (q_ne (by omega) (q_ne (by omega) (q_ne (by omega) (q_ne (by omega) q_eq))))))))), (q_ne (by omega) (q_ne (by omega) (q_ne (by omega) (q_ne (by omega) (q_ne (by omega) (q_ne (by omega) (q_ne (by omega) q_eq))))))), (q_ne (by omega) (q_ne (by omega) (q_ne (by omega) (q_ne (by omega) (q_ne (by omega) q_eq))))), (q_ne (by omega) (q_ne (by omega) (q_ne (by omega) q_eq))), (q_ne (by omega) q_eq), rfl, (fun q g0 g1 => (q_ne (by omega) (q_ne (by omega) (q_ne (by omega) (q_ne (by omega) (q_ne (by omega) (q_ne (by omega) (q_ne (by omega) (q_ne (by omega) (q_ne (by omega) (q_ne (by omega) (q_ne (by omega) rfl))))))))))))⟩ (by show _ ≤ 5; omega) (by show _ ≤ 6; omega) dX15_init_52

set_option maxHeartbeats 4000000 in
set_option maxRecDepth 100000 in
theorem kX15_climb (l : Launch) (E : q_E) (f : q_H) (n : Nat) (k pa re ki wa no pn : Nat) (pr : Nat → Nat) (hd v : q_V) (b : Nat) (w : Int32) (al : Nat)  (hK : LK E f k pa re ki wa no pn pr hd v b w) (hs : LSp ki wa no pn pr) (hpn : pn ≤ 8) (hal : al ≤ 60) (hv : w_ok pn hd v) : Met l yX15_climb wsX15_climb ({ frames := 1, cells := 0, slots := 0, locals := 20 }) (q_P E [.ref k, .int (nI al)] f n) (q_Qv E (fun f1 n1 => LK E f1 k pa re ki wa no pn pr hd (z_move v (nI al) pn) b w ∧ n1 = n ∧ ∀ z9, z9 ≠ k → (∀ i, i < pn → z9 ≠ pr i) → z9 < n → f1 z9 = f z9)) 0 0 (q_ge E) := by
  refine Met.ofW (cc := cX15_climb) (maxL := 6) (ret := none) (by decide) rfl ?_
  intro p0_ e0_ s0_ m0_ args0_ below0_ meth0_ c0_ s1_ B0_ hml hv
  obtain ⟨rfl, hA, hW⟩ := hv
  have hx := B0_.exec
  have hb := B0_.bytes
  have hr := B0_.returns
  have hts := atoms_spec (ws := wsX15_climb) B0_.pre
  have hown : s0_.vm.findClass RX15 = some m0_.cls := findClass_of_methodNamed B0_.named
  have hlocks := B0_.notSynchronized
  have hS : va_S (q_ge E) s0_.heap s0_.heap [] := va_S.rf
  have iX15 : ∀ w ∈ wsX150, w ∈ wsX15_climb := by decide +kernel
  have hl := lv_entry ([.ref k, .int (nI al)]) (n := 6) (Nat.le_of_ble_eq_true rfl)
  rw [lg_entry_eq]
  generalize (lg_sl ([.ref k, .int (nI al)]) ++ List.replicate (6 - (lg_sl ([.ref k, .int (nI al)])).length) Slot.unset).toArray = ls at hl ⊢
  have hl : lv_has ls 6 [(0, .ref k), (1, .int (nI al))] := hl
  obtain ⟨hk0, ⟨gk, hki, hkv⟩, ⟨gw, hwa, hwv⟩, ⟨gn, hno, hnv⟩, ⟨gp, hpa, hpv⟩, hrow⟩ := id hK
  have l_k := hW.lt hk0
  have l_ki := hW.lt hki
  have l_wa := hW.lt hwa
  have l_no := hW.lt hno
  have l_pa := hW.lt hpa
  have hkp9 := ne_ab hk0 hpa
  obtain ⟨bl, hbl⟩ : ∃ bl, bl = 100 - al / 3 := ⟨_, rfl⟩
  have hbl1 : 80 ≤ bl ∧ bl ≤ 100 := by omega
  have hbo : z_boil (nI al) = nI bl := by rw [boil_nI hal, hbl]
  refine lv_aload_n hx hb dX15_climb_0 rfl (lv_at hl 0 rfl) ?_
  refine lv_iload_n hx hb dX15_climb_1 rfl (lv_at hl 1 rfl) ?_
  refine q_put hx hb hts hown hA hW hS iX15 tyX15 tyX15_ok nmX15 hk0 rfl 0 (by decide) (hts (.fieldLink RX15 38 "HighRecipesLaw$Kitchen" "altitude" "I") (by decide +kernel)) (fun _ h9 => h9) rfl rfl rfl (Nat.le_of_ble_eq_true rfl) dX15_climb_2 (fun H locs hW hS => ?_)
  have hW : q_W E (va_up f k (some (cLK (nI al) (v 1) (v 2) (v 3) (some pa) (some re) (some ki) (some wa) (some no) (v 5) (nI b) w))) n H := hW
  refine lv_aload_n hx hb dX15_climb_5 rfl (lv_at hl 0 rfl) ?_
  refine q_get hx hb hts hown hA hW iX15 q_eq rfl 4 (by decide) (hts (.fieldLink RX15 18 "HighRecipesLaw$Kitchen" "pans" "[[I") (by decide +kernel)) (fun _ h9 => h9) (v := .ref pa) rfl dX15_climb_6 ?_
  refine lv_astore_n (lv' := [(2, .ref pa), (0, .ref k), (1, .int (nI al))]) hx hb dX15_climb_9 rfl hl (by decide) rfl (fun ls hl => ?_)
  refine lv_aload_n hx hb dX15_climb_10 rfl (lv_at hl 0 rfl) ?_
  refine q_alen hx hb hA hW 8 rfl (q_ne (by omega) hpa) (v := nI pn) rfl dX15_climb_11 ?_
  refine lv_istore_n (lv' := [(3, .int (nI pn)), (2, .ref pa), (0, .ref k), (1, .int (nI al))]) hx hb dX15_climb_12 rfl hl (by decide) rfl (fun ls hl => ?_)
  refine lv_iconst (v := 0) hx hb dX15_climb_13 (by decide) ?_
  refine lv_istore (lv' := [(4, .int 0), (3, .int (nI pn)), (2, .ref pa), (0, .ref k), (1, .int (nI al))]) hx hb dX15_climb_14 hl (by decide) rfl (fun ls hl => ?_)
  have K16 : ∀ (fu : Nat) (F : q_H) (j : Nat) (hj : j ≤ pn) (hKF : LK E F k pa re ki wa no pn pr hd (z_move v (nI al) j) b w) (hfr_F : ∀ z9, z9 ≠ k → (∀ i, i < pn → z9 ≠ pr i) → z9 < n → F z9 = f z9) (hm : pn - j < fu) (H : Heap) (locs : List Loc) (ls : Array Slot), q_W E (F) n H → va_S (q_ge E) s0_.heap H locs → lv_has ls 6 [(0, .ref k), (2, .ref pa), (3, .int (nI pn)), (4, .int (nI j))] → W p0_ l e0_ (headSpec wsX15_climb ({ frames := 1, cells := 0, slots := 0, locals := 20 })).room s0_ m0_ ([.ref k, .int (nI al)] : List Value).toArray below0_ meth0_ c0_ H locs 0 0 (MQ below0_ (q_Qv E (fun f1 n1 => LK E f1 k pa re ki wa no pn pr hd (z_move v (nI al) pn) b w ∧ n1 = n ∧ ∀ z9, z9 ≠ k → (∀ i, i < pn → z9 ≠ pr i) → z9 < n → f1 z9 = f z9)) ([.ref k, .int (nI al)] : List Value).toArray s0_ 0 0 (q_ge E)) (F0 m0_ 16 ls []) := by
    intro fu
    induction fu with
    | zero =>
      intro F j hj hKF hfr_F hm
      exact absurd hm (Nat.not_lt_zero _)
    | succ fu ih =>
      intro F j hj hKF hfr_F hm H locs ls hW hS hl
      obtain ⟨hF0, -, -, -, ⟨gp2, hFp, hp2⟩, hFrow⟩ := id hKF
      refine lv_iload hx hb dX15_climb_16 (lv_at hl 3 rfl) ?_
      refine lv_iload_n hx hb dX15_climb_18 rfl (lv_at hl 2 rfl) ?_
      refine lv_icmp_ge (tgt := 60) hx hb dX15_climb_19 (by decide) (fun c_19 => ?_) (fun c_19 => ?_)
      · have hjp : j = pn := Nat.le_antisymm hj (q_leN (by omega) c_19)
        exact q_vret hx hb hr hlocks hW hS ⟨(by have h9 := hKF; rw [hjp] at h9; exact h9), rfl, (fun z9 g0 g1 g2 => hfr_F z9 g0 g1 g2)⟩ (by show _ ≤ 0; omega) (by show _ ≤ 0; omega) dX15_climb_60
      · have hjn : j < pn := q_gtn (by omega) c_19
        obtain ⟨gr, hFr, hg0, hg1, hg2, hg3, hg4⟩ := hFrow j hjn
        obtain ⟨h_, a, m, t, d, e1, e2, e3, e4, e5, b1, b2, b3, b4, b5, b6⟩ := id (hv.2.2.2.2 j hjn)
        have ev1 : (z_move v (nI al) j) (52 + 4 * j) = v (52 + 4 * j) := z_move_n (i := 0) (by omega) (by omega)
        have ev3 : (z_move v (nI al) j) (54 + 4 * j) = v (54 + 4 * j) := z_move_n (i := 0) (by omega) (by omega)
        refine lv_aload_n hx hb dX15_climb_22 rfl (lv_at hl 1 rfl) ?_
        refine lv_iload hx hb dX15_climb_23 (lv_at hl 3 rfl) ?_
        refine q_aaldA hx hb hA hW 8 rfl hFp (vp_in_nI hjn (by omega)) dX15_climb_25 ?_
        rw [show gp2 (nI j).toNatClampNeg = some (pr j) from by rw [nI_clamp (by omega)]; exact hp2 j hjn]
        refine lv_astore (lv' := [(5, .ref (pr j)), (0, .ref k), (2, .ref pa), (3, .int (nI pn)), (4, .int (nI j))]) hx hb dX15_climb_26 hl (by decide) rfl (fun ls hl => ?_)
        refine lv_aload hx hb dX15_climb_28 (lv_at hl 0 rfl) ?_
        refine lv_iconst (v := 1) hx hb dX15_climb_30 (by decide) ?_
        refine q_iald hx hb hA hW hFr (vp_in_nI (by decide) (by decide)) dX15_climb_31 ?_
        rw [show gr (1 : Int32).toNatClampNeg = nI a from hg1.trans (ev1.trans e2)]
        refine lv_if_le (tgt := 54) hx hb dX15_climb_32 (by decide) (fun c_32 => ?_) (fun c_32 => ?_)
        · have ha0 : a = 0 := by have h8 := q_leN (a := a) (b := 0) (by omega) c_32 (by decide); omega
          have hz0 : ¬ 0 < (z_move v (nI al) j) (52 + 4 * j) := by rw [ev1, e2, ha0]; decide
          refine lv_iinc (v := nI (j + 1)) (lv' := [(4, .int (nI (j + 1))), (5, .ref (pr j)), (0, .ref k), (2, .ref pa), (3, .int (nI pn))]) hx hb dX15_climb_54 hl (k := 4) rfl (nI_1 j) (by decide) rfl (fun ls hl => ?_)
          refine lv_goto (tgt := 16) hx hb dX15_climb_57 (by decide) ?_
          exact ih F (j + 1) (by omega) (by rw [← z_move_b hz0]; exact hKF) (fun z9 g0 g1 g2 => (hfr_F z9 g0 g1 g2)) (by omega) _ _ _ hW hS (lv_sub hl [2, 3, 4, 0] rfl)
        · have ha0 : 0 < a := q_gtn (a := a) (b := 0) (by omega) c_32 (by decide)
          have hz1 : 0 < (z_move v (nI al) j) (52 + 4 * j) := by rw [ev1, e2]; exact nI_lt (a := 0) ha0 (by omega)
          refine lv_aload hx hb dX15_climb_35 (lv_at hl 0 rfl) ?_
          refine lv_iconst (v := 3) hx hb dX15_climb_37 (by decide) ?_
          refine q_iald hx hb hA hW hFr (vp_in_nI (by decide) (by decide)) dX15_climb_38 ?_
          rw [show gr (3 : Int32).toNatClampNeg = nI t from hg3.trans (ev3.trans e4)]
          refine lv_aload_n hx hb dX15_climb_39 rfl (lv_at hl 1 rfl) ?_
          refine q_ci (va_runV (As := []) (rest := [.int (nI t)]) ⟨hx, hb, hml, hown, hts⟩ (kX15_boiling l E F n k pa re ki wa no pn pr hd (z_move v (nI al) j) b w hKF) (cwV 0 hts gX15_climb_X15_boiling rfl rfl rfl (by decide +kernel) ⟨(Nat.le_of_ble_eq_true rfl), (Nat.le_of_ble_eq_true rfl)⟩) (q_pV hA hW hS (ci := 15) rfl hF0) rfl rfl hl.1 rfl (lv_room (Nat.le_of_ble_eq_true rfl)) dX15_climb_40 ⟨(by show _ ≤ 0; omega), (by show _ ≤ 0; omega)⟩) hS (fun r_40 f_40 n_40 H locs hp hW hS => ?_)
          obtain ⟨rfl, rfl, rfl⟩ := hp
          have hW : q_W E (F) n H := hW
          rw [show z_boil ((z_move v (nI al) j) 0) = nI bl from hbo]
          refine lv_icmp_le (tgt := 54) hx hb dX15_climb_43 (by decide) (fun c_43 => ?_) (fun c_43 => ?_)
          · have hmin : q_min (nI t) (nI bl) = nI t := hmin_x (Int32.not_lt.mpr c_43)
            refine lv_iinc (v := nI (j + 1)) (lv' := [(4, .int (nI (j + 1))), (5, .ref (pr j)), (0, .ref k), (2, .ref pa), (3, .int (nI pn))]) hx hb dX15_climb_54 hl (k := 4) rfl (nI_1 j) (by decide) rfl (fun ls hl => ?_)
            refine lv_goto (tgt := 16) hx hb dX15_climb_57 (by decide) ?_
            exact ih F (j + 1) (by omega) (by rw [← z_move_s hz1, show (z_move v (nI al) j) (54 + 4 * j) = nI t from ev3.trans e4, show z_boil ((z_move v (nI al) j) 0) = nI bl from hbo, hmin, ← (ev3.trans e4), z_pan_id]; exact hKF) (fun z9 g0 g1 g2 => (hfr_F z9 g0 g1 g2)) (by omega) _ _ _ hW hS (lv_sub hl [2, 3, 4, 0] rfl)
          · have hmin : q_min (nI t) (nI bl) = nI bl := hmin_r (Int32.not_le.mp c_43)
            refine lv_aload hx hb dX15_climb_46 (lv_at hl 0 rfl) ?_
            refine lv_iconst (v := 3) hx hb dX15_climb_48 (by decide) ?_
            refine lv_aload_n hx hb dX15_climb_49 rfl (lv_at hl 1 rfl) ?_
            refine q_ci (va_runV (As := []) (rest := [.int 3, .ref (pr j)]) ⟨hx, hb, hml, hown, hts⟩ (kX15_boiling l E F n k pa re ki wa no pn pr hd (z_move v (nI al) j) b w hKF) (cwV 0 hts gX15_climb_X15_boiling rfl rfl rfl (by decide +kernel) ⟨(Nat.le_of_ble_eq_true rfl), (Nat.le_of_ble_eq_true rfl)⟩) (q_pV hA hW hS (ci := 15) rfl hF0) rfl rfl hl.1 rfl (lv_room (Nat.le_of_ble_eq_true rfl)) dX15_climb_50 ⟨(by show _ ≤ 0; omega), (by show _ ≤ 0; omega)⟩) hS (fun r_50 f_50 n_50 H locs hp hW hS => ?_)
            obtain ⟨rfl, rfl, rfl⟩ := hp
            have hW : q_W E (F) n H := hW
            rw [show z_boil ((z_move v (nI al) j) 0) = nI bl from hbo]
            refine q_iast hx hb hA hW hS hFr (vp_in_nI (by decide) (by decide)) dX15_climb_53 (fun H locs hW hS => ?_)
            rw [show (3 : Int32).toNatClampNeg = 3 from (by decide)] at hW
            have hW : q_W E (va_up F (pr j) (some (aI E 5 (upd gr 3 (nI bl))))) n H := hW
            refine lv_iinc (v := nI (j + 1)) (lv' := [(4, .int (nI (j + 1))), (5, .ref (pr j)), (0, .ref k), (2, .ref pa), (3, .int (nI pn))]) hx hb dX15_climb_54 hl (k := 4) rfl (nI_1 j) (by decide) rfl (fun ls hl => ?_)
            refine lv_goto (tgt := 16) hx hb dX15_climb_57 (by decide) ?_
            exact ih (va_up F (pr j) (some (aI E 5 (upd gr 3 (nI bl))))) (j + 1) (by omega) (by rw [← z_move_s hz1, show (z_move v (nI al) j) (54 + 4 * j) = nI t from ev3.trans e4, show z_boil ((z_move v (nI al) j) 0) = nI bl from hbo, hmin]; exact LK.pan hKF hs hjn ((if_neg (by decide)).trans hg0) ((if_neg (by decide)).trans hg1) ((if_neg (by decide)).trans hg2) (if_pos rfl) ((if_neg (by decide)).trans hg4)) (fun z9 g0 g1 g2 => (q_ne (g1 j hjn) (hfr_F z9 g0 g1 g2))) (by omega) _ _ _ hW hS (lv_sub hl [2, 3, 4, 0] rfl)
  exact K16 _ (va_up f k (some (cLK (nI al) (v 1) (v 2) (v 3) (some pa) (some re) (some ki) (some wa) (some no) (v 5) (nI b) w))) 0 (Nat.zero_le _) (by have h9 := LK.head (b' := b) (w' := w) hK (v' := z_move v (nI al) 0) (z_move_n (i := 0) (by decide) (by omega)) (fun q hq => z_move_n (i := 0) (by omega) (by omega)); rw [show z_move v (nI al) 0 0 = nI al from if_pos rfl, show z_move v (nI al) 0 1 = v 1 from (z_move_n (i := 0) (by decide) (by omega)), show z_move v (nI al) 0 2 = v 2 from (z_move_n (i := 0) (by decide) (by omega)), show z_move v (nI al) 0 3 = v 3 from (z_move_n (i := 0) (by decide) (by omega)), show z_move v (nI al) 0 5 = v 5 from (z_move_n (i := 0) (by decide) (by omega))] at h9; exact h9) (fun z9 g0 g1 g2 => q_ne g0 rfl) (Nat.lt_succ_self _) _ _ _ hW hS (lv_sub hl [3, 2, 1, 0] rfl)

set_option maxHeartbeats 4000000 in
set_option maxRecDepth 100000 in
theorem kX15_cook (l : Launch) (E : q_E) (f : q_H) (n : Nat) (k pa re ki wa no pn : Nat) (pr : Nat → Nat) (hd v : q_V) (b : Nat) (w : Int32) (B : Nat) (P : Nat → Prop) (NR r : Nat) (RS : Nat → q_S)  (hK : LK E f k pa re ki wa no pn pr hd v b w) (hs : LSp ki wa no pn pr) (hpn : pn ≤ 8) (hv : w_ok pn hd v) (hB : B ≤ 2 ^ 29) (hI : k_inv B (v, 0, (-1))) (hO : OFF k pa ki pn pr n P) (hR : RCS E f re NR pn RS P NR) (hr9 : r < NR) : Met l yX15_cook wsX15_cook ({ frames := 500, cells := 100, slots := 2000, locals := 20000 }) (q_P E [.ref k, .int (nI r)] f n) (q_Qi E (fun r0 f1 n1 => (RS r hd (v, 0, (-1))).1 3 - v 3 = r0 ∧ KB E f f1 n n1 k pa re ki pn pr hd (RS r hd (v, 0, (-1))))) 100 2000 (q_ge E) := by
  refine Met.ofW (cc := cX15_cook) (maxL := 3) (ret := (some .int)) (by decide) rfl ?_
  intro p0_ e0_ s0_ m0_ args0_ below0_ meth0_ c0_ s1_ B0_ hml hv
  obtain ⟨rfl, hA, hW⟩ := hv
  have hx := B0_.exec
  have hb := B0_.bytes
  have hr := B0_.returns
  have hts := atoms_spec (ws := wsX15_cook) B0_.pre
  have hown : s0_.vm.findClass RX15 = some m0_.cls := findClass_of_methodNamed B0_.named
  have hlocks := B0_.notSynchronized
  have hS : va_S (q_ge E) s0_.heap s0_.heap [] := va_S.rf
  have iX15 : ∀ w ∈ wsX150, w ∈ wsX15_cook := by decide +kernel
  have hl := lv_entry ([.ref k, .int (nI r)]) (n := 3) (Nat.le_of_ble_eq_true rfl)
  rw [lg_entry_eq]
  generalize (lg_sl ([.ref k, .int (nI r)]) ++ List.replicate (3 - (lg_sl ([.ref k, .int (nI r)])).length) Slot.unset).toArray = ls at hl ⊢
  have hl : lv_has ls 3 [(0, .ref k), (1, .int (nI r))] := hl
  obtain ⟨hk0, ⟨gk, hki, hkv⟩, ⟨gw, hwa, hwv⟩, ⟨gn, hno, hnv⟩, ⟨gp, hpa, hpv⟩, hrow⟩ := id hK
  have l_k := hW.lt hk0
  have l_ki := hW.lt hki
  have l_wa := hW.lt hwa
  have l_no := hW.lt hno
  have l_pa := hW.lt hpa
  obtain ⟨gre, hPre, hre, -, hNR, hrs⟩ := id hR
  obtain ⟨bk, L, hgr, hL, hRS, hbc⟩ := hrs r hr9
  have hok := hL.good (RCS.good (hR.le (Nat.le_of_lt hr9))) B hd (v, 0, (-1)) hB hI hv
  have h100 : (bS L hd (v, 0, (-1))).2.1 ≤ 100 := hok.1.1
  have hrek : re ≠ k := (hO re hPre).2.1
  have hfP : ∀ q, P q → P q ∧ va_up f k (some (cLK (v 0) (v 1) (v 2) (v 3) (some pa) (some re) (some ki) (some wa) (some no) (v 5) 0 (-1))) q = f q := fun q hq => ⟨hq, q_ne (hO q hq).2.1 rfl⟩
  refine lv_aload_n hx hb dX15_cook_0 rfl (lv_at hl 0 rfl) ?_
  refine q_get hx hb hts hown hA hW iX15 hk0 rfl 3 (by decide) (hts (.fieldLink RX15 41 "HighRecipesLaw$Kitchen" "minute" "I") (by decide +kernel)) (fun _ h9 => h9) (v := .int (v 3)) rfl dX15_cook_1 ?_
  refine lv_istore_n (lv' := [(2, .int (v 3)), (0, .ref k), (1, .int (nI r))]) hx hb dX15_cook_4 rfl hl (by decide) rfl (fun ls hl => ?_)
  refine lv_aload_n hx hb dX15_cook_5 rfl (lv_at hl 1 rfl) ?_
  refine lv_iconst (v := 0) hx hb dX15_cook_6 (by decide) ?_
  refine q_put hx hb hts hown hA hW hS iX15 tyX15 tyX15_ok nmX15 hk0 rfl 10 (by decide) (hts (.fieldLink RX15 62 "HighRecipesLaw$Kitchen" "begun" "I") (by decide +kernel)) (fun _ h9 => h9) rfl rfl rfl (Nat.le_of_ble_eq_true rfl) dX15_cook_7 (fun H locs hW hS => ?_)
  have hW : q_W E (va_up f k (some (cLK (v 0) (v 1) (v 2) (v 3) (some pa) (some re) (some ki) (some wa) (some no) (v 5) 0 w))) n H := hW
  refine lv_aload_n hx hb dX15_cook_10 rfl (lv_at hl 1 rfl) ?_
  refine lv_iconst (v := (-1)) hx hb dX15_cook_11 (by decide) ?_
  refine q_put hx hb hts hown hA hW hS iX15 tyX15 tyX15_ok nmX15 q_eq rfl 11 (by decide) (hts (.fieldLink RX15 59 "HighRecipesLaw$Kitchen" "first" "I") (by decide +kernel)) (fun _ h9 => h9) rfl rfl rfl (Nat.le_of_ble_eq_true rfl) dX15_cook_12 (fun H locs hW hS => ?_)
  rw [q_upup] at hW
  have hW : q_W E (va_up f k (some (cLK (v 0) (v 1) (v 2) (v 3) (some pa) (some re) (some ki) (some wa) (some no) (v 5) 0 (-1)))) n H := hW
  refine lv_aload_n hx hb dX15_cook_15 rfl (lv_at hl 1 rfl) ?_
  refine lv_aload_n hx hb dX15_cook_16 rfl (lv_at hl 1 rfl) ?_
  refine q_get hx hb hts hown hA hW iX15 q_eq rfl 5 (by decide) (hts (.fieldLink RX15 24 "HighRecipesLaw$Kitchen" "recipes" "[[LHighRecipesLaw$Act;") (by decide +kernel)) (fun _ h9 => h9) (v := .ref re) rfl dX15_cook_17 ?_
  refine lv_iload_n hx hb dX15_cook_20 rfl (lv_at hl 2 rfl) ?_
  refine q_aaldA hx hb hA hW 9 rfl (q_ne (by omega) hre) (vp_in_nI (by omega) (by omega)) dX15_cook_21 ?_
  rw [show gre (nI r).toNatClampNeg = some bk from by rw [nI_clamp (by omega)]; exact hgr]
  refine q_cv (va_runV (As := [.ref bk]) (rest := []) ⟨hx, hb, hml, hown, hts⟩ ((RUN_all r 4 400 18000 (by decide) (by omega) (by omega))  (va_up f k (some (cLK (v 0) (v 1) (v 2) (v 3) (some pa) (some re) (some ki) (some wa) (some no) (v 5) 0 (-1)))) n k pa re ki wa no pr hd v 0 (-1) B P bk L NR (LK.head (b' := 0) (w' := -1) hK (v' := v) rfl (fun _ _ => rfl)) hs hpn hv hB hI hO ((hR.le (Nat.le_of_lt hr9)).to hfP) (LB.to hfP (fun x hx => LACT.to hfP (Nat.le_refl _) (fun _ _ => rfl) 4 x hx) hL) hbc) (cwV 1 hts gX15_cook_X15_run rfl rfl rfl (by decide +kernel) ⟨(Nat.le_of_ble_eq_true rfl), (Nat.le_of_ble_eq_true rfl)⟩) (q_pV hA hW hS (ci := 15) rfl q_eq) rfl rfl hl.1 rfl (lv_room (Nat.le_of_ble_eq_true rfl)) dX15_cook_22 ⟨(by show _ ≤ 100; omega), (by show _ ≤ 2000; omega)⟩) hS (fun f_22 n_22 H locs hp hW hS => ?_)
  obtain ⟨wa3, no3, pr3, eK3, es3, ep3, en3, ef3⟩ := hp
  obtain ⟨hk03, -⟩ := id eK3
  refine lv_aload_n hx hb dX15_cook_25 rfl (lv_at hl 1 rfl) ?_
  refine q_get hx hb hts hown hA hW iX15 hk03 rfl 3 (by decide) (hts (.fieldLink RX15 41 "HighRecipesLaw$Kitchen" "minute" "I") (by decide +kernel)) (fun _ h9 => h9) (v := .int ((bS L hd (v, 0, (-1))).1 3)) rfl dX15_cook_26 ?_
  refine lv_iload_n hx hb dX15_cook_29 rfl (lv_at hl 0 rfl) ?_
  refine lv_isub hx hb dX15_cook_30 ?_
  exact q_iret hx hb hr hlocks hW hS ⟨(by rw [hRS]), ⟨wa3, no3, pr3, (by rw [hRS]; exact eK3), es3, ep3, en3, (fun z a b c d e => (ef3 z a b c d e).trans (q_ne a rfl))⟩⟩ (by show _ ≤ 100; omega) (by show _ ≤ 2000; omega) dX15_cook_31

