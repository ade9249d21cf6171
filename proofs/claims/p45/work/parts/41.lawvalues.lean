/-! the law's values: what they are, what they mean, how they are told -/
def ckd (s : Nat) : Nat := if s = 6 then 4 else if s = 7 then 5 else if s = 8 then 7 else if s = 9 then 25 else 26
/-- a value without others in it -/
def LF (pn s k : Nat) (D : q_D) (V : List Int32) : Prop := (s = 0 ∧ k < 1000 ∧ (D = fun _ _ => nI k) ∧ V = dg k) ∨ (1 ≤ s ∧ s ≤ 5 ∧ D = d_meas (18 + s) ∧ V = kt (32 + s)) ∨ (6 ≤ s ∧ s ≤ 10 ∧ k < pn ∧ D = d_cont (ckd s) k ∧ V = kt (32 + s) ++ kt 8 ++ pT k)
def NODE (pn : Nat) (P : Nat → Prop) (f : q_H) : Nat → Nat → q_D → List Int32 → Prop
  | 0, a, D, V => P a ∧ ∃ s k x y, f a = some (cNode (nI s) (nI k) x y) ∧ LF pn s k D V
  | d + 1, a, D, V => (P a ∧ ∃ s k x y, f a = some (cNode (nI s) (nI k) x y) ∧ LF pn s k D V) ∨ (P a ∧ ∃ s x y D1 D2 V1 V2, 11 ≤ s ∧ s ≤ 14 ∧ f a = some (cNode (nI s) 0 (some x) (some y)) ∧ NODE pn P f d x D1 V1 ∧ NODE pn P f d y D2 V2 ∧ (D = fun hd v => d_bin (22 + s) (D1 hd v) (D2 hd v)) ∧ V = kt 9 ++ V1 ++ kt (32 + s) ++ V2 ++ kt 10)
theorem NODE.to {pn : Nat} {P P' : Nat → Prop} {f g : q_H} (h : ∀ q, P q → P' q ∧ g q = f q) : ∀ {d a : Nat} {D : q_D} {V : List Int32}, NODE pn P f d a D V → NODE pn P' g d a D V
  | 0, a, _, _, ⟨hp, s, k, x, y, e, r⟩ => ⟨(h a hp).1, s, k, x, y, (h a hp).2.trans e, r⟩
  | d + 1, a, _, _, Or.inl ⟨hp, s, k, x, y, e, r⟩ => Or.inl ⟨(h a hp).1, s, k, x, y, (h a hp).2.trans e, r⟩
  | d + 1, a, _, _, Or.inr ⟨hp, s, x, y, D1, D2, V1, V2, e1, e2, e, n1, n2, eD, eV⟩ => Or.inr ⟨(h a hp).1, s, x, y, D1, D2, V1, V2, e1, e2, (h a hp).2.trans e, NODE.to h n1, NODE.to h n2, eD, eV⟩
theorem NODE.up {pn : Nat} {P : Nat → Prop} {f : q_H} : ∀ {d a : Nat} {D : q_D} {V : List Int32}, NODE pn P f d a D V → NODE pn P f (d + 1) a D V
  | 0, _, _, _, h => Or.inl h
  | _ + 1, _, _, _, Or.inl h => Or.inl h
  | _ + 1, _, _, _, Or.inr ⟨hp, s, x, y, D1, D2, V1, V2, e1, e2, e, n1, n2, eD, eV⟩ => Or.inr ⟨hp, s, x, y, D1, D2, V1, V2, e1, e2, e, NODE.up n1, NODE.up n2, eD, eV⟩
theorem kt_len33 : ∀ s, 1 ≤ s → s ≤ 10 → (kt (32 + s)).length ≤ 8 := by
  intro s h1 h2
  have h : ∀ s, s < 11 → 1 ≤ s → (kt (32 + s)).length ≤ 8 := by decide +kernel
  exact h s (by omega) h1
theorem kt_len43 : ∀ s, 11 ≤ s → s ≤ 14 → (kt (32 + s)).length = 1 := by
  intro s h1 h2
  have h : ∀ s, s < 15 → 11 ≤ s → (kt (32 + s)).length = 1 := by decide +kernel
  exact h s (by omega) h1
theorem LF.len {pn s k : Nat} {D : q_D} {V : List Int32} (h : LF pn s k D V) : V.length ≤ 14 := by
  rcases h with ⟨-, -, -, rfl⟩ | ⟨h1, h2, -, rfl⟩ | ⟨h1, h2, -, -, rfl⟩
  · exact Nat.le_trans (dg_len k) (by decide)
  · exact Nat.le_trans (kt_len33 s h1 (by omega)) (by decide)
  · have := kt_len33 s (by omega) h2
    rw [List.length_append, List.length_append, pT_len, ktl_8]
    omega
theorem LF.okb {pn s k : Nat} {D : q_D} {V : List Int32} (h : LF pn s k D V) (hpn : pn ≤ 8) : okb V := by
  rcases h with ⟨-, h1, -, rfl⟩ | ⟨h1, h2, -, rfl⟩ | ⟨h1, h2, h3, -, rfl⟩
  · exact dg_ok k h1
  · exact kt_okb (by omega)
  · exact okb_app (okb_app (kt_okb (by omega)) (kt_okb (by decide))) (okb_pT (by omega))
theorem NODE.len0 {pn : Nat} {P : Nat → Prop} {f : q_H} {a : Nat} {D : q_D} {V : List Int32} (h : NODE pn P f 0 a D V) : V.length ≤ 14 := by
  obtain ⟨-, s, k, x, y, -, r⟩ := h
  exact r.len
theorem NODE.len1 {pn : Nat} {P : Nat → Prop} {f : q_H} {a : Nat} {D : q_D} {V : List Int32} (h : NODE pn P f 1 a D V) : V.length ≤ 31 := by
  rcases h with ⟨-, s, k, x, y, -, r⟩ | ⟨-, s, x, y, D1, D2, V1, V2, e1, e2, -, n1, n2, -, rfl⟩
  · exact Nat.le_trans r.len (by decide)
  · have := n1.len0
    have := n2.len0
    have := kt_len43 s e1 e2
    simp only [List.length_append, ktl_9, ktl_10]
    omega
theorem NODE.okb {pn : Nat} {P : Nat → Prop} {f : q_H} (hpn : pn ≤ 8) : ∀ {d a : Nat} {D : q_D} {V : List Int32}, NODE pn P f d a D V → okb V
  | 0, _, _, _, ⟨_, s, k, x, y, _, r⟩ => r.okb hpn
  | _ + 1, _, _, _, Or.inl ⟨_, s, k, x, y, _, r⟩ => r.okb hpn
  | _ + 1, _, _, _, Or.inr ⟨_, s, x, y, D1, D2, V1, V2, e1, e2, _, n1, n2, _, eV⟩ => by
    rw [eV]
    exact okb_app (okb_app (okb_app (okb_app (kt_okb (by decide)) (NODE.okb hpn n1)) (kt_okb (by omega))) (NODE.okb hpn n2)) (kt_okb (by decide))

set_option maxHeartbeats 4000000 in
set_option maxRecDepth 100000 in
theorem kX16_init (l : Launch) (E : q_E) (f : q_H) (n : Nat) (a : Nat) (so k s0 k0 : Int32) (x y x0 y0 : Option Nat) (h0 : f a = some (cNode s0 k0 x0 y0)) : Met l yX16_init wsX16_init ({ frames := 1, cells := 0, slots := 0, locals := 20 }) (q_P E [.ref a, .int so, .int k, va_rf x, va_rf y] f n) (q_Qv E (fun f1 n1 => va_up f a (some (cNode so k x y)) = f1 ∧ n = n1)) 0 0 (q_ge E) := by
  refine Met.ofW (cc := cX16_init) (maxL := 5) (ret := none) (by decide) rfl ?_
  intro p0_ e0_ s0_ m0_ args0_ below0_ meth0_ c0_ s1_ B hml hv
  obtain ⟨rfl, hA, hW⟩ := hv
  have hx := B.exec
  have hb := B.bytes
  have hr := B.returns
  have hts := atoms_spec (ws := wsX16_init) B.pre
  have hown : s0_.vm.findClass RX16 = some m0_.cls := findClass_of_methodNamed B.named
  have hlocks := B.notSynchronized
  have hin : meth0_.name = "<init>" := (name_of_methodNamed B.named B.method).1
  have hS : va_S (q_ge E) s0_.heap s0_.heap [] := va_S.rf
  have iX16 : ∀ w ∈ wsX160, w ∈ wsX16_init := by decide +kernel
  have hl := lv_entry ([.ref a, .int so, .int k, va_rf x, va_rf y]) (n := 5) (by cases x <;> cases y <;> exact Nat.le_of_ble_eq_true rfl)
  rw [lg_entry_eq]
  generalize (lg_sl ([.ref a, .int so, .int k, va_rf x, va_rf y]) ++ List.replicate (5 - (lg_sl ([.ref a, .int so, .int k, va_rf x, va_rf y])).length) Slot.unset).toArray = ls at hl ⊢
  have hl : lv_has ls 5 [(0, .ref a), (1, .int so), (2, .int k), (3, va_rf x), (4, va_rf y)] := by cases x <;> cases y <;> exact hl
  have l_h0 := hW.lt h0
  refine lv_aload_n hx hb dX16_init_0 rfl (lv_at hl 0 rfl) ?_
  refine w_objInit hx hb hown (hts (.methodLink RX16 1 objectInit) (by decide +kernel)) (hts (.instanceMethod objectInit) (by decide +kernel)) (hts (.code objectInit ⟨#[0xb1]⟩ 1 none) (by decide +kernel)) rfl (hl.1.trans hml.symm) rfl dX16_init_1 (Nat.le_of_ble_eq_true rfl) (Nat.le_of_ble_eq_true rfl) ?_
  refine lv_aload_n hx hb dX16_init_4 rfl (lv_at hl 0 rfl) ?_
  refine lv_iload_n hx hb dX16_init_5 rfl (lv_at hl 1 rfl) ?_
  refine q_putF hx hb hts hown hA hW hS iX16 tyX16 tyX16_ok nmX16 h0 rfl 0 (by decide) (hts (.fieldLink RX16 7 "HighRecipesLaw$Node" "sort" "I") (by decide +kernel)) (fun _ h9 => h9) rfl hin rfl rfl rfl (Nat.le_of_ble_eq_true rfl) dX16_init_6 (fun H locs hW hS => ?_)
  have hW : q_W E (va_up f a (some (cNode so k0 x0 y0))) n H := hW
  refine lv_aload_n hx hb dX16_init_9 rfl (lv_at hl 0 rfl) ?_
  refine lv_iload_n hx hb dX16_init_10 rfl (lv_at hl 2 rfl) ?_
  refine q_putF hx hb hts hown hA hW hS iX16 tyX16 tyX16_ok nmX16 q_eq rfl 1 (by decide) (hts (.fieldLink RX16 13 "HighRecipesLaw$Node" "n" "I") (by decide +kernel)) (fun _ h9 => h9) rfl hin rfl rfl rfl (Nat.le_of_ble_eq_true rfl) dX16_init_11 (fun H locs hW hS => ?_)
  rw [q_upup] at hW
  have hW : q_W E (va_up f a (some (cNode so k x0 y0))) n H := hW
  refine lv_aload_n hx hb dX16_init_14 rfl (lv_at hl 0 rfl) ?_
  refine q_aload_nQ hx hb dX16_init_15 rfl (lv_at hl 3 rfl) ?_
  refine q_putF hx hb hts hown hA hW hS iX16 tyX16 tyX16_ok nmX16 q_eq rfl 2 (by decide) (hts (.fieldLink RX16 16 "HighRecipesLaw$Node" "a" "LHighRecipesLaw$Node;") (by decide +kernel)) (fun _ h9 => h9) rfl hin rfl rfl (by cases x <;> rfl) (Nat.le_of_ble_eq_true rfl) dX16_init_16 (fun H locs hW hS => ?_)
  rw [q_upup] at hW
  have hW : q_W E (va_up f a (some (cNode so k x y0))) n H := hW
  refine lv_aload_n hx hb dX16_init_19 rfl (lv_at hl 0 rfl) ?_
  refine q_aloadQ hx hb dX16_init_20 (lv_at hl 4 rfl) ?_
  refine q_putF hx hb hts hown hA hW hS iX16 tyX16 tyX16_ok nmX16 q_eq rfl 3 (by decide) (hts (.fieldLink RX16 20 "HighRecipesLaw$Node" "b" "LHighRecipesLaw$Node;") (by decide +kernel)) (fun _ h9 => h9) rfl hin rfl rfl (by cases y <;> rfl) (Nat.le_of_ble_eq_true rfl) dX16_init_22 (fun H locs hW hS => ?_)
  rw [q_upup] at hW
  have hW : q_W E (va_up f a (some (cNode so k x y))) n H := hW
  exact q_vret hx hb hr hlocks hW hS ⟨rfl, rfl⟩ (Nat.le_of_ble_eq_true rfl) (Nat.le_of_ble_eq_true rfl) dX16_init_25

theorem q_leN {a b : Nat} (ha : a < 2 ^ 31) (h : nI a ≤ nI b) (hb : b < 2 ^ 31 := by omega) : a ≤ b := by
  rcases Nat.lt_or_ge b a with h1 | h1
  · exact absurd h (nI_ge h1 ha)
  · exact h1
theorem q_gtn {a b : Nat} (ha : a < 2 ^ 31) (h : ¬ nI a ≤ nI b) (hb : b < 2 ^ 31 := by omega) : b < a := by
  rcases Nat.lt_or_ge b a with h1 | h1
  · exact h1
  · exact absurd (nI_le h1 hb) h

set_option maxHeartbeats 4000000 in
set_option maxRecDepth 100000 in
theorem kX16_drawn_0 (l : Launch) (E : q_E) (f : q_H) (n : Nat) (r pn most : Nat) (s : Int32) (h0 : f r = some (cDice s)) (hp1 : 1 ≤ pn) (hp2 : pn ≤ 8) (hm1 : 1 ≤ most) (hm2 : most ≤ 1000) : Met l yX16_drawn wsX16_drawn ({ frames := 6, cells := 1, slots := 4, locals := 120 }) (q_P E [.ref r, .int (nI pn), .int 0, .int (nI most)] f n) (q_Qq E (fun r0 f1 n1 => ∃ (a : Nat) (s1 : Int32) (D : q_D) (V : List Int32), some a = r0 ∧ f1 r = some (cDice s1) ∧ n ≤ n1 ∧ NODE pn (fun q => n ≤ q ∧ q < n1) f1 0 a D V ∧ ∀ z9, z9 ≠ r → z9 < n → f1 z9 = f z9)) 1 4 (q_ge E) := by
  refine Met.ofW (cc := cX16_drawn) (maxL := 6) (ret := (some (.object "HighRecipesLaw$Node"))) (by decide) rfl ?_
  intro p0_ e0_ s0_ m0_ args0_ below0_ meth0_ c0_ s1_ B hml hv
  obtain ⟨rfl, hA, hW⟩ := hv
  have hx := B.exec
  have hb := B.bytes
  have hr := B.returns
  have hts := atoms_spec (ws := wsX16_drawn) B.pre
  have hown : s0_.vm.findClass RX16 = some m0_.cls := findClass_of_methodNamed B.named
  have hlocks := B.notSynchronized
  have hS : va_S (q_ge E) s0_.heap s0_.heap [] := va_S.rf
  have iX16 : ∀ w ∈ wsX160, w ∈ wsX16_drawn := by decide +kernel
  have hl := lv_entry ([.ref r, .int (nI pn), .int 0, .int (nI most)]) (n := 6) (Nat.le_of_ble_eq_true rfl)
  rw [lg_entry_eq]
  generalize (lg_sl ([.ref r, .int (nI pn), .int 0, .int (nI most)]) ++ List.replicate (6 - (lg_sl ([.ref r, .int (nI pn), .int 0, .int (nI most)])).length) Slot.unset).toArray = ls at hl ⊢
  have hl : lv_has ls 6 [(0, .ref r), (1, .int (nI pn)), (2, .int 0), (3, .int (nI most))] := hl
  have l_h0 := hW.lt h0
  refine lv_aload_n hx hb dX16_drawn_0 rfl (lv_at hl 0 rfl) ?_
  refine lv_iload_n hx hb dX16_drawn_1 rfl (lv_at hl 2 rfl) ?_
  refine lv_if_ne (tgt := 10) hx hb dX16_drawn_2 (by decide) (fun c_2 => False.elim ((fun h9 => h9 rfl) c_2)) (fun c_2 => ?_)
  refine lv_bipush (v := 14) hx hb dX16_drawn_5 (by decide) ?_
  refine lv_goto (tgt := 12) hx hb dX16_drawn_7 (by decide) ?_
  refine q_ci (va_runV (As := [.int 14]) (rest := []) ⟨hx, hb, hml, hown, hts⟩ (kX14_next l E f n r 14 s h0 (by decide) (by decide)) (cwV 1 hts gX16_drawn_X14_next rfl rfl rfl (by decide +kernel) ⟨(Nat.le_of_ble_eq_true rfl), (Nat.le_of_ble_eq_true rfl)⟩) (q_pV hA hW hS (ci := 14) rfl h0) rfl rfl hl.1 rfl (lv_room (Nat.le_of_ble_eq_true rfl)) dX16_drawn_12 ⟨(Nat.le_of_ble_eq_true rfl), (Nat.le_of_ble_eq_true rfl)⟩) hS (fun r_12 f_12 n_12 H locs hp hW hS => ?_)
  obtain ⟨j_12, s1_12, rfl, e0_12, ej_12, en_12, hfr_12⟩ := hp
  have l_e0_12 := hW.lt e0_12
  refine lv_istore (lv' := [(4, .int (nI j_12)), (0, .ref r), (1, .int (nI pn)), (2, .int 0), (3, .int (nI most))]) hx hb dX16_drawn_15 hl (by decide) rfl (fun ls hl => ?_)
  refine lv_iload hx hb dX16_drawn_17 (lv_at hl 0 rfl) ?_
  refine lv_bipush (v := 13) hx hb dX16_drawn_19 (by decide) ?_
  refine lv_icmp_le (tgt := 59) hx hb dX16_drawn_21 (by decide) (fun c_21 => ?_) (fun c_21 => absurd (nI_le (a := j_12) (b := 13) (by omega) (by decide)) c_21)
  refine lv_iload hx hb dX16_drawn_59 (lv_at hl 0 rfl) ?_
  refine lv_bipush (v := 10) hx hb dX16_drawn_61 (by decide) ?_
  refine lv_icmp_le (tgt := 84) hx hb dX16_drawn_63 (by decide) (fun c_63 => ?_) (fun c_63 => ?_)
  · have h10 : j_12 ≤ 10 := q_leN (by omega) c_63
    refine q_new (ci := 16) hx hb hts hown hA hW hS iX16 tyX16 tyX16_ok (hts (.classLink RX16 8 RX16) (by decide +kernel)) (hts (.instantiable RX16 4) (by decide +kernel)) (hts (.initialized RX16) (by decide +kernel)) rfl (fs := [.int 0, .int 0, .null, .null]) (by decide) (Nat.le_of_ble_eq_true rfl) (Nat.le_of_ble_eq_true rfl) dX16_drawn_84 (fun H hW hS => ?_)
    have hW : q_W E (va_up f_12 n_12 (some (cNode 0 0 none none))) (n_12 + 1) H := hW
    refine lv_dup hx hb dX16_drawn_87 rfl ?_
    refine lv_iload hx hb dX16_drawn_88 (lv_at hl 0 rfl) ?_
    refine lv_iload hx hb dX16_drawn_90 (lv_at hl 0 rfl) ?_
    refine lv_if_ne (tgt := 105) hx hb dX16_drawn_92 (by decide) (fun c_92 => ?_) (fun c_92 => ?_)
    · have hz : j_12 ≠ 0 := fun e => c_92 (by rw [e]; rfl)
      refine lv_aload_n hx hb dX16_drawn_105 rfl (lv_at hl 1 rfl) ?_
      refine lv_iload_n hx hb dX16_drawn_106 rfl (lv_at hl 2 rfl) ?_
      refine q_ci (va_runV (As := [.int (nI pn)]) (rest := [.int (nI j_12), .ref n_12, .ref n_12]) ⟨hx, hb, hml, hown, hts⟩ (kX14_next l E (va_up f_12 n_12 (some (cNode 0 0 none none))) (n_12 + 1) r pn s1_12 (q_ne (by omega) e0_12) (by omega) (by omega)) (cwV 1 hts gX16_drawn_X14_next rfl rfl rfl (by decide +kernel) ⟨(Nat.le_of_ble_eq_true rfl), (Nat.le_of_ble_eq_true rfl)⟩) (q_pV hA hW hS (ci := 14) rfl (q_ne (by omega) e0_12)) rfl rfl hl.1 rfl (lv_room (Nat.le_of_ble_eq_true rfl)) dX16_drawn_107 ⟨(Nat.le_of_ble_eq_true rfl), (Nat.le_of_ble_eq_true rfl)⟩) hS (fun r_107 f_107 n_107 H locs hp hW hS => ?_)
      obtain ⟨j_107, s1_107, rfl, e0_107, ej_107, en_107, hfr_107⟩ := hp
      have l_e0_107 := hW.lt e0_107
      have hn_12_107 : f_107 n_12 = some (cNode 0 0 none none) := (hfr_107 _ (by omega)).trans q_eq
      refine lv_null hx hb dX16_drawn_110 ?_
      refine lv_null hx hb dX16_drawn_111 ?_
      refine q_cv (va_runI (As := [.int (nI j_12), .int (nI j_107), .null, .null]) (rest := [.ref n_12]) ⟨hx, hb, hml, hown, hts⟩ (kX16_init l E f_107 n_107 n_12 (nI j_12) (nI j_107) 0 0 none none none none hn_12_107) (cwI 4 hts gX16_drawn_X16_init rfl rfl rfl (hts (.initialized RX16) (by decide +kernel)) (hts (.methodLink RX16 33 yX16_init) (by decide +kernel)) (hts (.instanceMethod yX16_init) (by decide +kernel)) rfl (by decide +kernel) ⟨(Nat.le_of_ble_eq_true rfl), (Nat.le_of_ble_eq_true rfl)⟩) (q_pS hA hW hS) rfl rfl hl.1 rfl (lv_room (Nat.le_of_ble_eq_true rfl)) dX16_drawn_112 ⟨(Nat.le_of_ble_eq_true rfl), (Nat.le_of_ble_eq_true rfl)⟩) hS (fun f_112 n_112 H locs hp hW hS => ?_)
      obtain ⟨rfl, rfl⟩ := hp
      have hW : q_W E (va_up f_107 n_12 (some (cNode (nI j_12) (nI j_107) none none))) n_107 H := hW
      rcases Nat.lt_or_ge 5 j_12 with h5 | h5
      · exact q_aret (v := some n_12) hx hb hr (Or.inl ⟨_, rfl⟩) hlocks hW hS ⟨n_12, s1_107, (d_cont (ckd j_12) j_107), (kt (32 + j_12) ++ kt 8 ++ pT j_107), rfl, (q_ne (by omega) e0_107), (by omega), (⟨⟨by omega, by omega⟩, j_12, j_107, _, _, q_eq, Or.inr (Or.inr ⟨by omega, h10, ej_107, rfl, rfl⟩)⟩), (fun q g0 g1 => (q_ne (by omega) ((hfr_107 _ (by omega)).trans (q_ne (by omega) ((hfr_12 _ (by omega)).trans rfl)))))⟩ (Nat.le_of_ble_eq_true rfl) (Nat.le_of_ble_eq_true rfl) dX16_drawn_115
      · exact q_aret (v := some n_12) hx hb hr (Or.inl ⟨_, rfl⟩) hlocks hW hS ⟨n_12, s1_107, (d_meas (18 + j_12)), (kt (32 + j_12)), rfl, (q_ne (by omega) e0_107), (by omega), (⟨⟨by omega, by omega⟩, j_12, j_107, _, _, q_eq, Or.inr (Or.inl ⟨by omega, h5, rfl, rfl⟩)⟩), (fun q g0 g1 => (q_ne (by omega) ((hfr_107 _ (by omega)).trans (q_ne (by omega) ((hfr_12 _ (by omega)).trans rfl)))))⟩ (Nat.le_of_ble_eq_true rfl) (Nat.le_of_ble_eq_true rfl) dX16_drawn_115
    · have hz : j_12 = 0 := (nI_eq (b := 0) (by omega) (by decide)).mp c_92
      refine lv_aload_n hx hb dX16_drawn_95 rfl (lv_at hl 1 rfl) ?_
      refine lv_sipush (v := 1000) hx hb dX16_drawn_96 (by decide) ?_
      refine q_ci (va_runV (As := [.int 1000]) (rest := [.int (nI j_12), .ref n_12, .ref n_12]) ⟨hx, hb, hml, hown, hts⟩ (kX14_next l E (va_up f_12 n_12 (some (cNode 0 0 none none))) (n_12 + 1) r 1000 s1_12 (q_ne (by omega) e0_12) (by omega) (by omega)) (cwV 1 hts gX16_drawn_X14_next rfl rfl rfl (by decide +kernel) ⟨(Nat.le_of_ble_eq_true rfl), (Nat.le_of_ble_eq_true rfl)⟩) (q_pV hA hW hS (ci := 14) rfl (q_ne (by omega) e0_12)) rfl rfl hl.1 rfl (lv_room (Nat.le_of_ble_eq_true rfl)) dX16_drawn_99 ⟨(Nat.le_of_ble_eq_true rfl), (Nat.le_of_ble_eq_true rfl)⟩) hS (fun r_99 f_99 n_99 H locs hp hW hS => ?_)
      obtain ⟨j_99, s1_99, rfl, e0_99, ej_99, en_99, hfr_99⟩ := hp
      have l_e0_99 := hW.lt e0_99
      have hn_12_99 : f_99 n_12 = some (cNode 0 0 none none) := (hfr_99 _ (by omega)).trans q_eq
      refine lv_goto (tgt := 110) hx hb dX16_drawn_102 (by decide) ?_
      refine lv_null hx hb dX16_drawn_110 ?_
      refine lv_null hx hb dX16_drawn_111 ?_
      refine q_cv (va_runI (As := [.int (nI j_12), .int (nI j_99), .null, .null]) (rest := [.ref n_12]) ⟨hx, hb, hml, hown, hts⟩ (kX16_init l E f_99 n_99 n_12 (nI j_12) (nI j_99) 0 0 none none none none hn_12_99) (cwI 4 hts gX16_drawn_X16_init rfl rfl rfl (hts (.initialized RX16) (by decide +kernel)) (hts (.methodLink RX16 33 yX16_init) (by decide +kernel)) (hts (.instanceMethod yX16_init) (by decide +kernel)) rfl (by decide +kernel) ⟨(Nat.le_of_ble_eq_true rfl), (Nat.le_of_ble_eq_true rfl)⟩) (q_pS hA hW hS) rfl rfl hl.1 rfl (lv_room (Nat.le_of_ble_eq_true rfl)) dX16_drawn_112 ⟨(Nat.le_of_ble_eq_true rfl), (Nat.le_of_ble_eq_true rfl)⟩) hS (fun f_112 n_112 H locs hp hW hS => ?_)
      obtain ⟨rfl, rfl⟩ := hp
      have hW : q_W E (va_up f_99 n_12 (some (cNode (nI j_12) (nI j_99) none none))) n_99 H := hW
      exact q_aret (v := some n_12) hx hb hr (Or.inl ⟨_, rfl⟩) hlocks hW hS ⟨n_12, s1_99, (fun _ _ => nI j_99), (dg j_99), rfl, (q_ne (by omega) e0_99), (by omega), (⟨⟨by omega, by omega⟩, j_12, j_99, _, _, q_eq, Or.inl ⟨hz, by omega, rfl, rfl⟩⟩), (fun q g0 g1 => (q_ne (by omega) ((hfr_99 _ (by omega)).trans (q_ne (by omega) ((hfr_12 _ (by omega)).trans rfl)))))⟩ (Nat.le_of_ble_eq_true rfl) (Nat.le_of_ble_eq_true rfl) dX16_drawn_115
  · have h10 : 10 < j_12 := q_gtn (by omega) c_63
    refine q_new (ci := 16) hx hb hts hown hA hW hS iX16 tyX16 tyX16_ok (hts (.classLink RX16 8 RX16) (by decide +kernel)) (hts (.instantiable RX16 4) (by decide +kernel)) (hts (.initialized RX16) (by decide +kernel)) rfl (fs := [.int 0, .int 0, .null, .null]) (by decide) (Nat.le_of_ble_eq_true rfl) (Nat.le_of_ble_eq_true rfl) dX16_drawn_66 (fun H hW hS => ?_)
    have hW : q_W E (va_up f_12 n_12 (some (cNode 0 0 none none))) (n_12 + 1) H := hW
    refine lv_dup hx hb dX16_drawn_69 rfl ?_
    refine lv_iconst (v := 0) hx hb dX16_drawn_70 (by decide) ?_
    refine lv_aload_n hx hb dX16_drawn_71 rfl (lv_at hl 1 rfl) ?_
    refine lv_iload_n hx hb dX16_drawn_72 rfl (lv_at hl 4 rfl) ?_
    refine q_ci (va_runV (As := [.int (nI most)]) (rest := [.int 0, .ref n_12, .ref n_12]) ⟨hx, hb, hml, hown, hts⟩ (kX14_next l E (va_up f_12 n_12 (some (cNode 0 0 none none))) (n_12 + 1) r most s1_12 (q_ne (by omega) e0_12) (by omega) (by omega)) (cwV 1 hts gX16_drawn_X14_next rfl rfl rfl (by decide +kernel) ⟨(Nat.le_of_ble_eq_true rfl), (Nat.le_of_ble_eq_true rfl)⟩) (q_pV hA hW hS (ci := 14) rfl (q_ne (by omega) e0_12)) rfl rfl hl.1 rfl (lv_room (Nat.le_of_ble_eq_true rfl)) dX16_drawn_73 ⟨(Nat.le_of_ble_eq_true rfl), (Nat.le_of_ble_eq_true rfl)⟩) hS (fun r_73 f_73 n_73 H locs hp hW hS => ?_)
    obtain ⟨j_73, s1_73, rfl, e0_73, ej_73, en_73, hfr_73⟩ := hp
    have l_e0_73 := hW.lt e0_73
    have hn_12_73 : f_73 n_12 = some (cNode 0 0 none none) := (hfr_73 _ (by omega)).trans q_eq
    refine lv_null hx hb dX16_drawn_76 ?_
    refine lv_null hx hb dX16_drawn_77 ?_
    refine q_cv (va_runI (As := [.int 0, .int (nI j_73), .null, .null]) (rest := [.ref n_12]) ⟨hx, hb, hml, hown, hts⟩ (kX16_init l E f_73 n_73 n_12 0 (nI j_73) 0 0 none none none none hn_12_73) (cwI 4 hts gX16_drawn_X16_init rfl rfl rfl (hts (.initialized RX16) (by decide +kernel)) (hts (.methodLink RX16 33 yX16_init) (by decide +kernel)) (hts (.instanceMethod yX16_init) (by decide +kernel)) rfl (by decide +kernel) ⟨(Nat.le_of_ble_eq_true rfl), (Nat.le_of_ble_eq_true rfl)⟩) (q_pS hA hW hS) rfl rfl hl.1 rfl (lv_room (Nat.le_of_ble_eq_true rfl)) dX16_drawn_78 ⟨(Nat.le_of_ble_eq_true rfl), (Nat.le_of_ble_eq_true rfl)⟩) hS (fun f_78 n_78 H locs hp hW hS => ?_)
    obtain ⟨rfl, rfl⟩ := hp
    have hW : q_W E (va_up f_73 n_12 (some (cNode 0 (nI j_73) none none))) n_73 H := hW
    refine lv_goto (tgt := 115) hx hb dX16_drawn_81 (by decide) ?_
    exact q_aret (v := some n_12) hx hb hr (Or.inl ⟨_, rfl⟩) hlocks hW hS ⟨n_12, s1_73, (fun _ _ => nI j_73), (dg j_73), rfl, (q_ne (by omega) e0_73), (by omega), (⟨⟨by omega, by omega⟩, 0, j_73, _, _, q_eq, Or.inl ⟨rfl, by omega, rfl, rfl⟩⟩), (fun q g0 g1 => (q_ne (by omega) ((hfr_73 _ (by omega)).trans (q_ne (by omega) ((hfr_12 _ (by omega)).trans rfl)))))⟩ (Nat.le_of_ble_eq_true rfl) (Nat.le_of_ble_eq_true rfl) dX16_drawn_115

set_option maxHeartbeats 4000000 in
set_option maxRecDepth 100000 in
theorem kX16_drawn_1 (l : Launch) (E : q_E) (f : q_H) (n : Nat) (r pn most : Nat) (s : Int32) (h0 : f r = some (cDice s)) (hp1 : 1 ≤ pn) (hp2 : pn ≤ 8) (hm1 : 1 ≤ most) (hm2 : most ≤ 1000) : Met l yX16_drawn wsX16_drawn ({ frames := 8, cells := 3, slots := 12, locals := 200 }) (q_P E [.ref r, .int (nI pn), .int 1, .int (nI most)] f n) (q_Qq E (fun r0 f1 n1 => ∃ (a : Nat) (s1 : Int32) (D : q_D) (V : List Int32), some a = r0 ∧ f1 r = some (cDice s1) ∧ n ≤ n1 ∧ NODE pn (fun q => n ≤ q ∧ q < n1) f1 1 a D V ∧ ∀ z9, z9 ≠ r → z9 < n → f1 z9 = f z9)) 3 12 (q_ge E) := by
  refine Met.ofW (cc := cX16_drawn) (maxL := 6) (ret := (some (.object "HighRecipesLaw$Node"))) (by decide) rfl ?_
  intro p0_ e0_ s0_ m0_ args0_ below0_ meth0_ c0_ s1_ B hml hv
  obtain ⟨rfl, hA, hW⟩ := hv
  have hx := B.exec
  have hb := B.bytes
  have hr := B.returns
  have hts := atoms_spec (ws := wsX16_drawn) B.pre
  have hown : s0_.vm.findClass RX16 = some m0_.cls := findClass_of_methodNamed B.named
  have hlocks := B.notSynchronized
  have hS : va_S (q_ge E) s0_.heap s0_.heap [] := va_S.rf
  have iX16 : ∀ w ∈ wsX160, w ∈ wsX16_drawn := by decide +kernel
  have hl := lv_entry ([.ref r, .int (nI pn), .int 1, .int (nI most)]) (n := 6) (Nat.le_of_ble_eq_true rfl)
  rw [lg_entry_eq]
  generalize (lg_sl ([.ref r, .int (nI pn), .int 1, .int (nI most)]) ++ List.replicate (6 - (lg_sl ([.ref r, .int (nI pn), .int 1, .int (nI most)])).length) Slot.unset).toArray = ls at hl ⊢
  have hl : lv_has ls 6 [(0, .ref r), (1, .int (nI pn)), (2, .int 1), (3, .int (nI most))] := hl
  have l_h0 := hW.lt h0
  refine lv_aload_n hx hb dX16_drawn_0 rfl (lv_at hl 0 rfl) ?_
  refine lv_iload_n hx hb dX16_drawn_1 rfl (lv_at hl 2 rfl) ?_
  refine lv_if_ne (tgt := 10) hx hb dX16_drawn_2 (by decide) (fun c_2 => ?_) (fun c_2 => False.elim ((fun h9 => absurd h9 (by decide)) c_2))
  refine lv_bipush (v := 18) hx hb dX16_drawn_10 (by decide) ?_
  refine q_ci (va_runV (As := [.int 18]) (rest := []) ⟨hx, hb, hml, hown, hts⟩ (kX14_next l E f n r 18 s h0 (by decide) (by decide)) (cwV 1 hts gX16_drawn_X14_next rfl rfl rfl (by decide +kernel) ⟨(Nat.le_of_ble_eq_true rfl), (Nat.le_of_ble_eq_true rfl)⟩) (q_pV hA hW hS (ci := 14) rfl h0) rfl rfl hl.1 rfl (lv_room (Nat.le_of_ble_eq_true rfl)) dX16_drawn_12 ⟨(Nat.le_of_ble_eq_true rfl), (Nat.le_of_ble_eq_true rfl)⟩) hS (fun r_12 f_12 n_12 H locs hp hW hS => ?_)
  obtain ⟨j_12, s1_12, rfl, e0_12, ej_12, en_12, hfr_12⟩ := hp
  have l_e0_12 := hW.lt e0_12
  refine lv_istore (lv' := [(4, .int (nI j_12)), (0, .ref r), (1, .int (nI pn)), (2, .int 1), (3, .int (nI most))]) hx hb dX16_drawn_15 hl (by decide) rfl (fun ls hl => ?_)
  refine lv_iload hx hb dX16_drawn_17 (lv_at hl 0 rfl) ?_
  refine lv_bipush (v := 13) hx hb dX16_drawn_19 (by decide) ?_
  refine lv_icmp_le (tgt := 59) hx hb dX16_drawn_21 (by decide) (fun c_21 => ?_) (fun c_21 => ?_)
  · have h13 : j_12 ≤ 13 := q_leN (by omega) c_21
    refine lv_iload hx hb dX16_drawn_59 (lv_at hl 0 rfl) ?_
    refine lv_bipush (v := 10) hx hb dX16_drawn_61 (by decide) ?_
    refine lv_icmp_le (tgt := 84) hx hb dX16_drawn_63 (by decide) (fun c_63 => ?_) (fun c_63 => ?_)
    · have h10 : j_12 ≤ 10 := q_leN (by omega) c_63
      refine q_new (ci := 16) hx hb hts hown hA hW hS iX16 tyX16 tyX16_ok (hts (.classLink RX16 8 RX16) (by decide +kernel)) (hts (.instantiable RX16 4) (by decide +kernel)) (hts (.initialized RX16) (by decide +kernel)) rfl (fs := [.int 0, .int 0, .null, .null]) (by decide) (Nat.le_of_ble_eq_true rfl) (Nat.le_of_ble_eq_true rfl) dX16_drawn_84 (fun H hW hS => ?_)
      have hW : q_W E (va_up f_12 n_12 (some (cNode 0 0 none none))) (n_12 + 1) H := hW
      refine lv_dup hx hb dX16_drawn_87 rfl ?_
      refine lv_iload hx hb dX16_drawn_88 (lv_at hl 0 rfl) ?_
      refine lv_iload hx hb dX16_drawn_90 (lv_at hl 0 rfl) ?_
      refine lv_if_ne (tgt := 105) hx hb dX16_drawn_92 (by decide) (fun c_92 => ?_) (fun c_92 => ?_)
      · have hz : j_12 ≠ 0 := fun e => c_92 (by rw [e]; rfl)
        refine lv_aload_n hx hb dX16_drawn_105 rfl (lv_at hl 1 rfl) ?_
        refine lv_iload_n hx hb dX16_drawn_106 rfl (lv_at hl 2 rfl) ?_
        refine q_ci (va_runV (As := [.int (nI pn)]) (rest := [.int (nI j_12), .ref n_12, .ref n_12]) ⟨hx, hb, hml, hown, hts⟩ (kX14_next l E (va_up f_12 n_12 (some (cNode 0 0 none none))) (n_12 + 1) r pn s1_12 (q_ne (by omega) e0_12) (by omega) (by omega)) (cwV 1 hts gX16_drawn_X14_next rfl rfl rfl (by decide +kernel) ⟨(Nat.le_of_ble_eq_true rfl), (Nat.le_of_ble_eq_true rfl)⟩) (q_pV hA hW hS (ci := 14) rfl (q_ne (by omega) e0_12)) rfl rfl hl.1 rfl (lv_room (Nat.le_of_ble_eq_true rfl)) dX16_drawn_107 ⟨(Nat.le_of_ble_eq_true rfl), (Nat.le_of_ble_eq_true rfl)⟩) hS (fun r_107 f_107 n_107 H locs hp hW hS => ?_)
        obtain ⟨j_107, s1_107, rfl, e0_107, ej_107, en_107, hfr_107⟩ := hp
        have l_e0_107 := hW.lt e0_107
        have hn_12_107 : f_107 n_12 = some (cNode 0 0 none none) := (hfr_107 _ (by omega)).trans q_eq
        refine lv_null hx hb dX16_drawn_110 ?_
        refine lv_null hx hb dX16_drawn_111 ?_
        refine q_cv (va_runI (As := [.int (nI j_12), .int (nI j_107), .null, .null]) (rest := [.ref n_12]) ⟨hx, hb, hml, hown, hts⟩ (kX16_init l E f_107 n_107 n_12 (nI j_12) (nI j_107) 0 0 none none none none hn_12_107) (cwI 4 hts gX16_drawn_X16_init rfl rfl rfl (hts (.initialized RX16) (by decide +kernel)) (hts (.methodLink RX16 33 yX16_init) (by decide +kernel)) (hts (.instanceMethod yX16_init) (by decide +kernel)) rfl (by decide +kernel) ⟨(Nat.le_of_ble_eq_true rfl), (Nat.le_of_ble_eq_true rfl)⟩) (q_pS hA hW hS) rfl rfl hl.1 rfl (lv_room (Nat.le_of_ble_eq_true rfl)) dX16_drawn_112 ⟨(Nat.le_of_ble_eq_true rfl), (Nat.le_of_ble_eq_true rfl)⟩) hS (fun f_112 n_112 H locs hp hW hS => ?_)
        obtain ⟨rfl, rfl⟩ := hp
        have hW : q_W E (va_up f_107 n_12 (some (cNode (nI j_12) (nI j_107) none none))) n_107 H := hW
        rcases Nat.lt_or_ge 5 j_12 with h5 | h5
        · exact q_aret (v := some n_12) hx hb hr (Or.inl ⟨_, rfl⟩) hlocks hW hS ⟨n_12, s1_107, (d_cont (ckd j_12) j_107), (kt (32 + j_12) ++ kt 8 ++ pT j_107), rfl, (q_ne (by omega) e0_107), (by omega), (Or.inl ⟨⟨by omega, by omega⟩, j_12, j_107, _, _, q_eq, Or.inr (Or.inr ⟨by omega, h10, ej_107, rfl, rfl⟩)⟩), (fun q g0 g1 => (q_ne (by omega) ((hfr_107 _ (by omega)).trans (q_ne (by omega) ((hfr_12 _ (by omega)).trans rfl)))))⟩ (Nat.le_of_ble_eq_true rfl) (Nat.le_of_ble_eq_true rfl) dX16_drawn_115
        · exact q_aret (v := some n_12) hx hb hr (Or.inl ⟨_, rfl⟩) hlocks hW hS ⟨n_12, s1_107, (d_meas (18 + j_12)), (kt (32 + j_12)), rfl, (q_ne (by omega) e0_107), (by omega), (Or.inl ⟨⟨by omega, by omega⟩, j_12, j_107, _, _, q_eq, Or.inr (Or.inl ⟨by omega, h5, rfl, rfl⟩)⟩), (fun q g0 g1 => (q_ne (by omega) ((hfr_107 _ (by omega)).trans (q_ne (by omega) ((hfr_12 _ (by omega)).trans rfl)))))⟩ (Nat.le_of_ble_eq_true rfl) (Nat.le_of_ble_eq_true rfl) dX16_drawn_115
      · have hz : j_12 = 0 := (nI_eq (b := 0) (by omega) (by decide)).mp c_92
        refine lv_aload_n hx hb dX16_drawn_95 rfl (lv_at hl 1 rfl) ?_
        refine lv_sipush (v := 1000) hx hb dX16_drawn_96 (by decide) ?_
        refine q_ci (va_runV (As := [.int 1000]) (rest := [.int (nI j_12), .ref n_12, .ref n_12]) ⟨hx, hb, hml, hown, hts⟩ (kX14_next l E (va_up f_12 n_12 (some (cNode 0 0 none none))) (n_12 + 1) r 1000 s1_12 (q_ne (by omega) e0_12) (by omega) (by omega)) (cwV 1 hts gX16_drawn_X14_next rfl rfl rfl (by decide +kernel) ⟨(Nat.le_of_ble_eq_true rfl), (Nat.le_of_ble_eq_true rfl)⟩) (q_pV hA hW hS (ci := 14) rfl (q_ne (by omega) e0_12)) rfl rfl hl.1 rfl (lv_room (Nat.le_of_ble_eq_true rfl)) dX16_drawn_99 ⟨(Nat.le_of_ble_eq_true rfl), (Nat.le_of_ble_eq_true rfl)⟩) hS (fun r_99 f_99 n_99 H locs hp hW hS => ?_)
        obtain ⟨j_99, s1_99, rfl, e0_99, ej_99, en_99, hfr_99⟩ := hp
        have l_e0_99 := hW.lt e0_99
        have hn_12_99 : f_99 n_12 = some (cNode 0 0 none none) := (hfr_99 _ (by omega)).trans q_eq
        refine lv_goto (tgt := 110) hx hb dX16_drawn_102 (by decide) ?_
        refine lv_null hx hb dX16_drawn_110 ?_
        refine lv_null hx hb dX16_drawn_111 ?_
        refine q_cv (va_runI (As := [.int (nI j_12), .int (nI j_99), .null, .null]) (rest := [.ref n_12]) ⟨hx, hb, hml, hown, hts⟩ (kX16_init l E f_99 n_99 n_12 (nI j_12) (nI j_99) 0 0 none none none none hn_12_99) (cwI 4 hts gX16_drawn_X16_init rfl rfl rfl (hts (.initialized RX16) (by decide +kernel)) (hts (.methodLink RX16 33 yX16_init) (by decide +kernel)) (hts (.instanceMethod yX16_init) (by decide +kernel)) rfl (by decide +kernel) ⟨(Nat.le_of_ble_eq_true rfl), (Nat.le_of_ble_eq_true rfl)⟩) (q_pS hA hW hS) rfl rfl hl.1 rfl (lv_room (Nat.le_of_ble_eq_true rfl)) dX16_drawn_112 ⟨(Nat.le_of_ble_eq_true rfl), (Nat.le_of_ble_eq_true rfl)⟩) hS (fun f_112 n_112 H locs hp hW hS => ?_)
        obtain ⟨rfl, rfl⟩ := hp
        have hW : q_W E (va_up f_99 n_12 (some (cNode (nI j_12) (nI j_99) none none))) n_99 H := hW
        exact q_aret (v := some n_12) hx hb hr (Or.inl ⟨_, rfl⟩) hlocks hW hS ⟨n_12, s1_99, (fun _ _ => nI j_99), (dg j_99), rfl, (q_ne (by omega) e0_99), (by omega), (Or.inl ⟨⟨by omega, by omega⟩, j_12, j_99, _, _, q_eq, Or.inl ⟨hz, by omega, rfl, rfl⟩⟩), (fun q g0 g1 => (q_ne (by omega) ((hfr_99 _ (by omega)).trans (q_ne (by omega) ((hfr_12 _ (by omega)).trans rfl)))))⟩ (Nat.le_of_ble_eq_true rfl) (Nat.le_of_ble_eq_true rfl) dX16_drawn_115
    · have h10 : 10 < j_12 := q_gtn (by omega) c_63
      refine q_new (ci := 16) hx hb hts hown hA hW hS iX16 tyX16 tyX16_ok (hts (.classLink RX16 8 RX16) (by decide +kernel)) (hts (.instantiable RX16 4) (by decide +kernel)) (hts (.initialized RX16) (by decide +kernel)) rfl (fs := [.int 0, .int 0, .null, .null]) (by decide) (Nat.le_of_ble_eq_true rfl) (Nat.le_of_ble_eq_true rfl) dX16_drawn_66 (fun H hW hS => ?_)
      have hW : q_W E (va_up f_12 n_12 (some (cNode 0 0 none none))) (n_12 + 1) H := hW
      refine lv_dup hx hb dX16_drawn_69 rfl ?_
      refine lv_iconst (v := 0) hx hb dX16_drawn_70 (by decide) ?_
      refine lv_aload_n hx hb dX16_drawn_71 rfl (lv_at hl 1 rfl) ?_
      refine lv_iload_n hx hb dX16_drawn_72 rfl (lv_at hl 4 rfl) ?_
      refine q_ci (va_runV (As := [.int (nI most)]) (rest := [.int 0, .ref n_12, .ref n_12]) ⟨hx, hb, hml, hown, hts⟩ (kX14_next l E (va_up f_12 n_12 (some (cNode 0 0 none none))) (n_12 + 1) r most s1_12 (q_ne (by omega) e0_12) (by omega) (by omega)) (cwV 1 hts gX16_drawn_X14_next rfl rfl rfl (by decide +kernel) ⟨(Nat.le_of_ble_eq_true rfl), (Nat.le_of_ble_eq_true rfl)⟩) (q_pV hA hW hS (ci := 14) rfl (q_ne (by omega) e0_12)) rfl rfl hl.1 rfl (lv_room (Nat.le_of_ble_eq_true rfl)) dX16_drawn_73 ⟨(Nat.le_of_ble_eq_true rfl), (Nat.le_of_ble_eq_true rfl)⟩) hS (fun r_73 f_73 n_73 H locs hp hW hS => ?_)
      obtain ⟨j_73, s1_73, rfl, e0_73, ej_73, en_73, hfr_73⟩ := hp
      have l_e0_73 := hW.lt e0_73
      have hn_12_73 : f_73 n_12 = some (cNode 0 0 none none) := (hfr_73 _ (by omega)).trans q_eq
      refine lv_null hx hb dX16_drawn_76 ?_
      refine lv_null hx hb dX16_drawn_77 ?_
      refine q_cv (va_runI (As := [.int 0, .int (nI j_73), .null, .null]) (rest := [.ref n_12]) ⟨hx, hb, hml, hown, hts⟩ (kX16_init l E f_73 n_73 n_12 0 (nI j_73) 0 0 none none none none hn_12_73) (cwI 4 hts gX16_drawn_X16_init rfl rfl rfl (hts (.initialized RX16) (by decide +kernel)) (hts (.methodLink RX16 33 yX16_init) (by decide +kernel)) (hts (.instanceMethod yX16_init) (by decide +kernel)) rfl (by decide +kernel) ⟨(Nat.le_of_ble_eq_true rfl), (Nat.le_of_ble_eq_true rfl)⟩) (q_pS hA hW hS) rfl rfl hl.1 rfl (lv_room (Nat.le_of_ble_eq_true rfl)) dX16_drawn_78 ⟨(Nat.le_of_ble_eq_true rfl), (Nat.le_of_ble_eq_true rfl)⟩) hS (fun f_78 n_78 H locs hp hW hS => ?_)
      obtain ⟨rfl, rfl⟩ := hp
      have hW : q_W E (va_up f_73 n_12 (some (cNode 0 (nI j_73) none none))) n_73 H := hW
      refine lv_goto (tgt := 115) hx hb dX16_drawn_81 (by decide) ?_
      exact q_aret (v := some n_12) hx hb hr (Or.inl ⟨_, rfl⟩) hlocks hW hS ⟨n_12, s1_73, (fun _ _ => nI j_73), (dg j_73), rfl, (q_ne (by omega) e0_73), (by omega), (Or.inl ⟨⟨by omega, by omega⟩, 0, j_73, _, _, q_eq, Or.inl ⟨rfl, by omega, rfl, rfl⟩⟩), (fun q g0 g1 => (q_ne (by omega) ((hfr_73 _ (by omega)).trans (q_ne (by omega) ((hfr_12 _ (by omega)).trans rfl)))))⟩ (Nat.le_of_ble_eq_true rfl) (Nat.le_of_ble_eq_true rfl) dX16_drawn_115
  · have h13 : 13 < j_12 := q_gtn (by omega) c_21
    refine lv_aload_n hx hb dX16_drawn_24 rfl (lv_at hl 1 rfl) ?_
    refine lv_iload_n hx hb dX16_drawn_25 rfl (lv_at hl 2 rfl) ?_
    refine lv_iload_n hx hb dX16_drawn_26 rfl (lv_at hl 3 rfl) ?_
    refine lv_iconst (v := 1) hx hb dX16_drawn_27 (by decide) ?_
    refine lv_isub hx hb dX16_drawn_28 ?_
    rw [show (1 : Int32) - 1 = 0 from by decide]
    refine lv_iload_n hx hb dX16_drawn_29 rfl (lv_at hl 4 rfl) ?_
    refine q_cq (va_runS (As := [.ref r, .int (nI pn), .int 0, .int (nI most)]) (rest := []) ⟨hx, hb, hml, hown, hts⟩ (kX16_drawn_0 l E f_12 n_12 r pn most s1_12 e0_12 (by assumption) (by assumption) (by assumption) (by assumption)) (va_cwS 4 hts gX16_drawn_X16_drawn rfl rfl rfl (by decide +kernel) ⟨(Nat.le_of_ble_eq_true rfl), (Nat.le_of_ble_eq_true rfl)⟩) (q_pS hA hW hS) rfl rfl hl.1 rfl (lv_room (Nat.le_of_ble_eq_true rfl)) dX16_drawn_30 ⟨(Nat.le_of_ble_eq_true rfl), (Nat.le_of_ble_eq_true rfl)⟩) hS (fun r_30 f_30 n_30 H locs hp hW hS => ?_)
    obtain ⟨a_30, s1_30, D_30, V_30, rfl, e0_30, en_30, eN_30, hfr_30⟩ := hp
    have l_e0_30 := hW.lt e0_30
    refine lv_astore (lv' := [(5, .ref a_30), (4, .int (nI j_12)), (0, .ref r), (1, .int (nI pn)), (2, .int 1), (3, .int (nI most))]) hx hb dX16_drawn_33 hl (by decide) rfl (fun ls hl => ?_)
    refine q_new (ci := 16) hx hb hts hown hA hW hS iX16 tyX16 tyX16_ok (hts (.classLink RX16 8 RX16) (by decide +kernel)) (hts (.instantiable RX16 4) (by decide +kernel)) (hts (.initialized RX16) (by decide +kernel)) rfl (fs := [.int 0, .int 0, .null, .null]) (by decide) (Nat.le_of_ble_eq_true rfl) (Nat.le_of_ble_eq_true rfl) dX16_drawn_35 (fun H hW hS => ?_)
    have hW : q_W E (va_up f_30 n_30 (some (cNode 0 0 none none))) (n_30 + 1) H := hW
    refine lv_dup hx hb dX16_drawn_38 rfl ?_
    refine lv_iload hx hb dX16_drawn_39 (lv_at hl 1 rfl) ?_
    refine lv_iconst (v := 3) hx hb dX16_drawn_41 (by decide) ?_
    refine lv_isub hx hb dX16_drawn_42 ?_
    rw [show nI j_12 - 3 = nI (j_12 - 3) from pk_sub (a := j_12) (b := 3) (by omega)]
    refine lv_iconst (v := 0) hx hb dX16_drawn_43 (by decide) ?_
    refine lv_aload hx hb dX16_drawn_44 (lv_at hl 0 rfl) ?_
    refine lv_aload_n hx hb dX16_drawn_46 rfl (lv_at hl 2 rfl) ?_
    refine lv_iload_n hx hb dX16_drawn_47 rfl (lv_at hl 3 rfl) ?_
    refine lv_iload_n hx hb dX16_drawn_48 rfl (lv_at hl 4 rfl) ?_
    refine lv_iconst (v := 1) hx hb dX16_drawn_49 (by decide) ?_
    refine lv_isub hx hb dX16_drawn_50 ?_
    rw [show (1 : Int32) - 1 = 0 from by decide]
    refine lv_iload_n hx hb dX16_drawn_51 rfl (lv_at hl 5 rfl) ?_
    refine q_cq (va_runS (As := [.ref r, .int (nI pn), .int 0, .int (nI most)]) (rest := [.ref a_30, .int 0, .int (nI (j_12 - 3)), .ref n_30, .ref n_30]) ⟨hx, hb, hml, hown, hts⟩ (kX16_drawn_0 l E (va_up f_30 n_30 (some (cNode 0 0 none none))) (n_30 + 1) r pn most s1_30 (q_ne (by omega) e0_30) (by assumption) (by assumption) (by assumption) (by assumption)) (va_cwS 4 hts gX16_drawn_X16_drawn rfl rfl rfl (by decide +kernel) ⟨(Nat.le_of_ble_eq_true rfl), (Nat.le_of_ble_eq_true rfl)⟩) (q_pS hA hW hS) rfl rfl hl.1 rfl (lv_room (Nat.le_of_ble_eq_true rfl)) dX16_drawn_52 ⟨(Nat.le_of_ble_eq_true rfl), (Nat.le_of_ble_eq_true rfl)⟩) hS (fun r_52 f_52 n_52 H locs hp hW hS => ?_)
    obtain ⟨a_52, s1_52, D_52, V_52, rfl, e0_52, en_52, eN_52, hfr_52⟩ := hp
    have l_e0_52 := hW.lt e0_52
    have hn_30_52 : f_52 n_30 = some (cNode 0 0 none none) := (hfr_52 _ (by omega) (by omega)).trans q_eq
    refine q_cv (va_runI (As := [.int (nI (j_12 - 3)), .int 0, .ref a_30, .ref a_52]) (rest := [.ref n_30]) ⟨hx, hb, hml, hown, hts⟩ (kX16_init l E f_52 n_52 n_30 (nI (j_12 - 3)) 0 0 0 (some a_30) (some a_52) none none hn_30_52) (cwI 4 hts gX16_drawn_X16_init rfl rfl rfl (hts (.initialized RX16) (by decide +kernel)) (hts (.methodLink RX16 33 yX16_init) (by decide +kernel)) (hts (.instanceMethod yX16_init) (by decide +kernel)) rfl (by decide +kernel) ⟨(Nat.le_of_ble_eq_true rfl), (Nat.le_of_ble_eq_true rfl)⟩) (q_pS hA hW hS) rfl rfl hl.1 rfl (lv_room (Nat.le_of_ble_eq_true rfl)) dX16_drawn_55 ⟨(Nat.le_of_ble_eq_true rfl), (Nat.le_of_ble_eq_true rfl)⟩) hS (fun f_55 n_55 H locs hp hW hS => ?_)
    obtain ⟨rfl, rfl⟩ := hp
    have hW : q_W E (va_up f_52 n_30 (some (cNode (nI (j_12 - 3)) 0 (some a_30) (some a_52)))) n_52 H := hW
    exact q_aret (v := some n_30) hx hb hr (Or.inl ⟨_, rfl⟩) hlocks hW hS ⟨n_30, s1_52, _, _, rfl, (q_ne (by omega) e0_52), (by omega), (Or.inr ⟨⟨by omega, by omega⟩, j_12 - 3, a_30, a_52, D_30, D_52, V_30, V_52, by omega, by omega, q_eq, (NODE.to (fun q (hq : n_12 ≤ q ∧ q < n_30) => ⟨⟨by omega, by omega⟩, (q_ne (by omega) ((hfr_52 _ (by omega) (by omega)).trans (q_ne (by omega) rfl)))⟩) eN_30), (NODE.to (fun q (hq : n_30 + 1 ≤ q ∧ q < n_52) => ⟨⟨by omega, by omega⟩, (q_ne (by omega) rfl)⟩) eN_52), rfl, rfl⟩), (fun q g0 g1 => (q_ne (by omega) ((hfr_52 _ (by omega) (by omega)).trans (q_ne (by omega) ((hfr_30 _ (by omega) (by omega)).trans ((hfr_12 _ (by omega)).trans rfl))))))⟩ (Nat.le_of_ble_eq_true rfl) (Nat.le_of_ble_eq_true rfl) dX16_drawn_58

section QKN
variable {s : State} {H : Heap} {E : q_E} {f : q_H} {n : Nat}
theorem q_kn (hA : q_A E s) (hW : q_W E f n H) {i : Nat} (hi : i < 50) {x : va_E} (h : f (E.2.2.2 (200 + i)) = some x) : False := by
  obtain ⟨cell, -, -, -, h4⟩ := (hA.2.2.1.2.2.2.2.2.1.1 i hi).1
  exact h4 (hW.ge h)
end QKN
theorem q_sbn {a b : Nat} (h : b ≤ a) : nI a - nI b = nI (a - b) := pk_sub h

set_option maxHeartbeats 4000000 in
set_option maxRecDepth 100000 in
theorem kX16_text_n0 (l : Launch) (E : q_E) (f : q_H) (n : Nat) (a k : Nat) (x y : Option Nat) (h0 : f a = some (cNode (nI 0) (nI k) x y)) (hk : k < 1000) : Met l yX16_text wsX16_text ({ frames := 16, cells := 35, slots := 1300, locals := 900 }) (q_P E [.ref a] f n) (q_Qq E (fun r0 f1 n1 => ∃ (r : Nat), some r = r0 ∧ TXT E f1 r (dg k) ∧ (∀ rb, f1 r = some (cStr rb) → n ≤ rb) ∧ n ≤ n1 ∧ ∀ z9, z9 < n → f1 z9 = f z9)) 35 1300 (q_ge E) := by
  refine Met.ofW (cc := cX16_text) (maxL := 1) (ret := (some (.object "java/lang/String"))) (by decide) rfl ?_
  intro p0_ e0_ s0_ m0_ args0_ below0_ meth0_ c0_ s1_ B hml hv
  obtain ⟨rfl, hA, hW⟩ := hv
  have hx := B.exec
  have hb := B.bytes
  have hr := B.returns
  have hts := atoms_spec (ws := wsX16_text) B.pre
  have hown : s0_.vm.findClass RX16 = some m0_.cls := findClass_of_methodNamed B.named
  have hlocks := B.notSynchronized
  have hS : va_S (q_ge E) s0_.heap s0_.heap [] := va_S.rf
  have iJ4 : ∀ w ∈ wsJ40, w ∈ wsX16_text := by decide +kernel
  have iX16 : ∀ w ∈ wsX160, w ∈ wsX16_text := by decide +kernel
  have hl := lv_entry ([.ref a]) (n := 1) (Nat.le_of_ble_eq_true rfl)
  rw [lg_entry_eq]
  generalize (lg_sl ([.ref a]) ++ List.replicate (1 - (lg_sl ([.ref a])).length) Slot.unset).toArray = ls at hl ⊢
  have hl : lv_has ls 1 [(0, .ref a)] := hl
  have l_h0 := hW.lt h0
  have hdl9 := dg_len k
  refine lv_aload_n hx hb dX16_text_0 rfl (lv_at hl 0 rfl) ?_
  refine q_get hx hb hts hown hA hW iX16 h0 rfl 0 (by decide) (hts (.fieldLink RX16 7 "HighRecipesLaw$Node" "sort" "I") (by decide +kernel)) (fun _ h9 => h9) (v := .int (nI 0)) rfl dX16_text_1 ?_
  refine lv_if_ne (tgt := 30) hx hb dX16_text_4 (by decide) (fun c_4 => False.elim ((fun h9 => h9 rfl) c_4)) (fun c_4 => ?_)
  refine q_new (ci := 1) hx hb hts hown hA hW hS iJ4 tyJ4 tyJ4_ok (hts (.classLink RX16 36 RJ4) (by decide +kernel)) (hts (.instantiable RJ4 4) (by decide +kernel)) (hts (.initialized RJ4) (by decide +kernel)) rfl (fs := [.null, .int 0, .int 0, .int 0]) (by decide) (by show _ ≤ 35; omega) (by show _ ≤ 1300; omega) dX16_text_7 (fun H hW hS => ?_)
  have hW : q_W E (va_up f n (some (rSB none 0 0 0))) (n + 1) H := hW
  refine lv_dup hx hb dX16_text_10 rfl ?_
  refine q_cv (va_runI (As := []) (rest := [.ref n]) ⟨hx, hb, hml, hown, hts⟩ (kJ4_init_da8c8 l E (va_up f n (some (rSB none 0 0 0))) (n + 1) n q_eq) (cwI 0 hts gX16_text_J4_init_da8c8 rfl rfl rfl (hts (.initialized RJ4) (by decide +kernel)) (hts (.methodLink RX16 38 yJ4_init_da8c8) (by decide +kernel)) (hts (.instanceMethod yJ4_init_da8c8) (by decide +kernel)) rfl (by decide +kernel) ⟨(Nat.le_of_ble_eq_true rfl), (Nat.le_of_ble_eq_true rfl)⟩) (q_pS hA hW hS) rfl rfl hl.1 rfl (lv_room (Nat.le_of_ble_eq_true rfl)) dX16_text_11 ⟨(Nat.le_of_ble_eq_true rfl), (Nat.le_of_ble_eq_true rfl)⟩) hS (fun f_11 n_11 H locs hp hW hS => ?_)
  obtain ⟨e0_11, e1_11, en_11, hfr_11⟩ := hp
  have l_e0_11 := hW.lt e0_11
  have l_e1_11 := hW.lt e1_11
  have ha_11 : f_11 a = some (cNode (nI 0) (nI k) x y) := (hfr_11 _ (by omega) (by omega)).trans (q_ne (by omega) h0)
  refine va_ldcS (own := "HighRecipesLaw$Node") hx hb hown (q_ldk hA (i := 7) (by decide)) dX16_text_14 ?_
  refine q_cq (va_runV (As := [.ref (E.2.2.2 (200 + 7))]) (rest := []) ⟨hx, hb, hml, hown, hts⟩ (kJ4_append_k l E f_11 n_11 n (n + 1) 16 7 31 ([] : List Int32) e0_11 e1_11 (by (try simp only [List.length_append, List.length_nil, List.length_cons, pT_len, ktl_0, ktl_1, ktl_2, ktl_3, ktl_4, ktl_5, ktl_6, ktl_7, ktl_8, ktl_9, ktl_10, ktl_11, ktl_12, ktl_13, ktl_14, ktl_15, ktl_16, ktl_17, ktl_18, ktl_19, ktl_20, ktl_21, ktl_22, ktl_23, ktl_24, ktl_25, ktl_26, ktl_27, ktl_28, ktl_29, ktl_30, ktl_31, ktl_32, ktl_33, ktl_34, ktl_35, ktl_36, ktl_37, ktl_38, ktl_39, ktl_40, ktl_41, ktl_42, ktl_43, ktl_44, ktl_45, ktl_46, ktl_47, ktl_48, ktl_49]); omega) (by omega) (by omega) (by first | assumption | decide) (by repeat (first | exact okb_nil | assumption | exact kt_okb (by omega) | exact okb_pT (by omega) | exact dg_ok _ (by omega) | exact okb_one (by omega) | apply okb_app)) (by omega)) (cwV 1 hts gX16_text_J4_append_15ec4 rfl rfl rfl (by decide +kernel) ⟨(Nat.le_of_ble_eq_true rfl), (Nat.le_of_ble_eq_true rfl)⟩) (q_pV hA hW hS (ci := 1) rfl e0_11) rfl rfl hl.1 rfl (lv_room (Nat.le_of_ble_eq_true rfl)) dX16_text_16 ⟨(by show _ ≤ 35; omega), (by show _ ≤ 1300; omega)⟩) hS (fun r_16 f_16 n_16 H locs hp hW hS => ?_)
  obtain ⟨b1_16, m1_16, rfl, e0_16, e1_16, el_16, em4_16, eb_16, en_16, hfr_16⟩ := hp
  have l_e0_16 := hW.lt e0_16
  have l_e1_16 := hW.lt e1_16
  have ha_16 : f_16 a = some (cNode (nI 0) (nI k) x y) := (hfr_16 _ (by omega) (by omega) (by omega)).trans ha_11
  refine lv_aload_n hx hb dX16_text_19 rfl (lv_at hl 0 rfl) ?_
  refine q_get hx hb hts hown hA hW iX16 ha_16 rfl 1 (by decide) (hts (.fieldLink RX16 13 "HighRecipesLaw$Node" "n" "I") (by decide +kernel)) (fun _ h9 => h9) (v := .int (nI k)) rfl dX16_text_20 ?_
  refine q_cq (va_runV (As := [.int (nI k)]) (rest := []) ⟨hx, hb, hml, hown, hts⟩ (kJ4_append_bf812 l E f_16 n_16 n b1_16 m1_16 k 31 (([] : List Int32) ++ kt 7) e0_16 e1_16 (by (try simp only [List.length_append, List.length_nil, List.length_cons, pT_len, ktl_0, ktl_1, ktl_2, ktl_3, ktl_4, ktl_5, ktl_6, ktl_7, ktl_8, ktl_9, ktl_10, ktl_11, ktl_12, ktl_13, ktl_14, ktl_15, ktl_16, ktl_17, ktl_18, ktl_19, ktl_20, ktl_21, ktl_22, ktl_23, ktl_24, ktl_25, ktl_26, ktl_27, ktl_28, ktl_29, ktl_30, ktl_31, ktl_32, ktl_33, ktl_34, ktl_35, ktl_36, ktl_37, ktl_38, ktl_39, ktl_40, ktl_41, ktl_42, ktl_43, ktl_44, ktl_45, ktl_46, ktl_47, ktl_48, ktl_49]); omega) (by omega) (by omega) (by first | assumption | decide) (by repeat (first | exact okb_nil | assumption | exact kt_okb (by omega) | exact okb_pT (by omega) | exact dg_ok _ (by omega) | exact okb_one (by omega) | apply okb_app)) hk) (cwV 1 hts gX16_text_J4_append_bf812 rfl rfl rfl (by decide +kernel) ⟨(Nat.le_of_ble_eq_true rfl), (Nat.le_of_ble_eq_true rfl)⟩) (q_pV hA hW hS (ci := 1) rfl e0_16) rfl rfl hl.1 rfl (lv_room (Nat.le_of_ble_eq_true rfl)) dX16_text_23 ⟨(by show _ ≤ 35; omega), (by show _ ≤ 1300; omega)⟩) hS (fun r_23 f_23 n_23 H locs hp hW hS => ?_)
  obtain ⟨b1_23, m1_23, rfl, e0_23, e1_23, el_23, em4_23, eb_23, en_23, hfr_23⟩ := hp
  have l_e0_23 := hW.lt e0_23
  have l_e1_23 := hW.lt e1_23
  have ha_23 : f_23 a = some (cNode (nI 0) (nI k) x y) := (hfr_23 _ (by omega) (by omega) (by omega)).trans ha_16
  refine q_cq (va_runV (As := []) (rest := []) ⟨hx, hb, hml, hown, hts⟩ (kJ4_toString_0e30d l E f_23 n_23 n b1_23 m1_23 31 ((([] : List Int32) ++ kt 7) ++ dg k) e0_23 e1_23 (by assumption) (by omega) (by (try simp only [List.length_append, List.length_nil, List.length_cons, pT_len, ktl_0, ktl_1, ktl_2, ktl_3, ktl_4, ktl_5, ktl_6, ktl_7, ktl_8, ktl_9, ktl_10, ktl_11, ktl_12, ktl_13, ktl_14, ktl_15, ktl_16, ktl_17, ktl_18, ktl_19, ktl_20, ktl_21, ktl_22, ktl_23, ktl_24, ktl_25, ktl_26, ktl_27, ktl_28, ktl_29, ktl_30, ktl_31, ktl_32, ktl_33, ktl_34, ktl_35, ktl_36, ktl_37, ktl_38, ktl_39, ktl_40, ktl_41, ktl_42, ktl_43, ktl_44, ktl_45, ktl_46, ktl_47, ktl_48, ktl_49]); omega) (by omega) (by repeat (first | exact okb_nil | assumption | exact kt_okb (by omega) | exact okb_pT (by omega) | exact dg_ok _ (by omega) | exact okb_one (by omega) | apply okb_app))) (cwV 0 hts gX16_text_J4_toString_0e30d rfl rfl rfl (by decide +kernel) ⟨(Nat.le_of_ble_eq_true rfl), (Nat.le_of_ble_eq_true rfl)⟩) (q_pV hA hW hS (ci := 1) rfl e0_23) rfl rfl hl.1 rfl (lv_room (Nat.le_of_ble_eq_true rfl)) dX16_text_26 ⟨(by show _ ≤ 35; omega), (by show _ ≤ 1300; omega)⟩) hS (fun r_26 f_26 n_26 H locs hp hW hS => ?_)
  obtain ⟨rfl, e0_26, e1_26, en_26, hfr_26⟩ := hp
  have l_e0_26 := hW.lt e0_26
  have l_e1_26 := hW.lt e1_26
  have ha_26 : f_26 a = some (cNode (nI 0) (nI k) x y) := (hfr_26 _ (by omega)).trans ha_23
  have hn_26 : f_26 n = some (cSB b1_23 (nI ((([] : List Int32) ++ kt 7) ++ dg k).length)) := (hfr_26 _ (by omega)).trans e0_23
  have hb1_23_26 : f_26 b1_23 = some (aB E m1_23 (tx ((([] : List Int32) ++ kt 7) ++ dg k))) := (hfr_26 _ (by omega)).trans e1_23
  exact q_aret (v := some n_23) hx hb hr (Or.inl ⟨_, rfl⟩) hlocks hW hS ⟨n_23, rfl, (Or.inr ⟨_, e0_26, e1_26⟩), (fun rb h9 => by rw [e0_26] at h9; cases h9; omega), (by omega), (fun q g0 => ((hfr_26 _ (by omega)).trans ((hfr_23 _ (by omega) (by omega) (by omega)).trans ((hfr_16 _ (by omega) (by omega) (by omega)).trans ((hfr_11 _ (by omega) (by omega)).trans (q_ne (by omega) rfl))))))⟩ (by show _ ≤ 35; omega) (by show _ ≤ 1300; omega) dX16_text_29

set_option maxHeartbeats 4000000 in
set_option maxRecDepth 100000 in
theorem kX16_text_m0 (l : Launch) (E : q_E) (f : q_H) (n : Nat) (a s k : Nat) (x y : Option Nat) (h0 : f a = some (cNode (nI s) (nI k) x y)) (h1s : 1 ≤ s) (h2s : s ≤ 5) : Met l yX16_text wsX16_text ({ frames := 16, cells := 35, slots := 1300, locals := 900 }) (q_P E [.ref a] f n) (q_Qq E (fun r0 f1 n1 => ∃ (r : Nat), some r = r0 ∧ TXT E f1 r (kt (32 + s)) ∧ (∀ rb, f1 r = some (cStr rb) → n ≤ rb) ∧ n ≤ n1 ∧ ∀ z9, z9 < n → f1 z9 = f z9)) 35 1300 (q_ge E) := by
  refine Met.ofW (cc := cX16_text) (maxL := 1) (ret := (some (.object "java/lang/String"))) (by decide) rfl ?_
  intro p0_ e0_ s0_ m0_ args0_ below0_ meth0_ c0_ s1_ B hml hv
  obtain ⟨rfl, hA, hW⟩ := hv
  have hx := B.exec
  have hb := B.bytes
  have hr := B.returns
  have hts := atoms_spec (ws := wsX16_text) B.pre
  have hown : s0_.vm.findClass RX16 = some m0_.cls := findClass_of_methodNamed B.named
  have hlocks := B.notSynchronized
  have hS : va_S (q_ge E) s0_.heap s0_.heap [] := va_S.rf
  have iX16 : ∀ w ∈ wsX160, w ∈ wsX16_text := by decide +kernel
  have hl := lv_entry ([.ref a]) (n := 1) (Nat.le_of_ble_eq_true rfl)
  rw [lg_entry_eq]
  generalize (lg_sl ([.ref a]) ++ List.replicate (1 - (lg_sl ([.ref a])).length) Slot.unset).toArray = ls at hl ⊢
  have hl : lv_has ls 1 [(0, .ref a)] := hl
  have l_h0 := hW.lt h0
  refine lv_aload_n hx hb dX16_text_0 rfl (lv_at hl 0 rfl) ?_
  refine q_get hx hb hts hown hA hW iX16 h0 rfl 0 (by decide) (hts (.fieldLink RX16 7 "HighRecipesLaw$Node" "sort" "I") (by decide +kernel)) (fun _ h9 => h9) (v := .int (nI s)) rfl dX16_text_1 ?_
  refine lv_if_ne (tgt := 30) hx hb dX16_text_4 (by decide) (fun c_4 => ?_) (fun c_4 => False.elim ((fun h9 => nI_ne (b := 0) (by omega) (by decide) (by omega) h9) c_4))
  refine lv_aload_n hx hb dX16_text_30 rfl (lv_at hl 0 rfl) ?_
  refine q_get hx hb hts hown hA hW iX16 h0 rfl 0 (by decide) (hts (.fieldLink RX16 7 "HighRecipesLaw$Node" "sort" "I") (by decide +kernel)) (fun _ h9 => h9) (v := .int (nI s)) rfl dX16_text_31 ?_
  refine lv_bipush (v := 6) hx hb dX16_text_34 (by decide) ?_
  refine lv_icmp_ge (tgt := 50) hx hb dX16_text_36 (by decide) (fun c_36 => absurd c_36 (nI_ge (a := s) (b := 6) (by omega) (by decide))) (fun c_36 => ?_)
  refine va_getsN (n := "MEASURES") (v := .ref (E.2.2.2 102)) hx hb hA.2.2.1.2.2.2.2.1.1.1 hS hown (va_Nw.use rfl (hA.2.2.2.1 ("HighRecipesLaw$Node", 52, "HighRecipesLaw", "MEASURES", "[Ljava/lang/String;", "HighRecipesLaw") (by decide +kernel))) (fun _ h9 => h9) dX16_text_39 ?_
  refine lv_aload_n hx hb dX16_text_42 rfl (lv_at hl 0 rfl) ?_
  refine q_get hx hb hts hown hA hW iX16 h0 rfl 0 (by decide) (hts (.fieldLink RX16 7 "HighRecipesLaw$Node" "sort" "I") (by decide +kernel)) (fun _ h9 => h9) (v := .int (nI s)) rfl dX16_text_43 ?_
  refine lv_iconst (v := 1) hx hb dX16_text_46 (by decide) ?_
  refine lv_isub hx hb dX16_text_47 ?_
  rw [show nI s - 1 = nI (s - 1) from pk_sub (a := s) (b := 1) (by omega)]
  refine vb_tq hx hb hA.2.2.1.2.2.2.2.1.1.2 hS (vp_in_nI (by omega) (by decide)) (v := .ref (E.2.2.2 (200 + (33 + (s - 1))))) (by rw [nI_clamp (by omega)]) dX16_text_48 ?_
  exact q_aret (v := some (E.2.2.2 (200 + (33 + (s - 1))))) hx hb hr (Or.inl ⟨_, rfl⟩) hlocks hW hS ⟨(E.2.2.2 (200 + (33 + (s - 1)))), rfl, (Or.inl ⟨33 + (s - 1), by omega, rfl, congrArg kt (by omega)⟩), (fun rb h9 => (q_kn hA hW (i := 33 + (s - 1)) (by omega) h9).elim), (Nat.le_refl _), (fun q g0 => rfl)⟩ (by show _ ≤ 35; omega) (by show _ ≤ 1300; omega) dX16_text_49

set_option maxHeartbeats 4000000 in
set_option maxRecDepth 100000 in
theorem kX16_text_c0 (l : Launch) (E : q_E) (f : q_H) (n : Nat) (a s k : Nat) (x y : Option Nat) (h0 : f a = some (cNode (nI s) (nI k) x y)) (h1s : 6 ≤ s) (h2s : s ≤ 10) (hk8 : k < 8) : Met l yX16_text wsX16_text ({ frames := 16, cells := 35, slots := 1300, locals := 900 }) (q_P E [.ref a] f n) (q_Qq E (fun r0 f1 n1 => ∃ (r : Nat), some r = r0 ∧ TXT E f1 r (kt (38 + (s - 6)) ++ kt 8 ++ pT k) ∧ (∀ rb, f1 r = some (cStr rb) → n ≤ rb) ∧ n ≤ n1 ∧ ∀ z9, z9 < n → f1 z9 = f z9)) 35 1300 (q_ge E) := by
  refine Met.ofW (cc := cX16_text) (maxL := 1) (ret := (some (.object "java/lang/String"))) (by decide) rfl ?_
  intro p0_ e0_ s0_ m0_ args0_ below0_ meth0_ c0_ s1_ B hml hv
  obtain ⟨rfl, hA, hW⟩ := hv
  have hx := B.exec
  have hb := B.bytes
  have hr := B.returns
  have hts := atoms_spec (ws := wsX16_text) B.pre
  have hown : s0_.vm.findClass RX16 = some m0_.cls := findClass_of_methodNamed B.named
  have hlocks := B.notSynchronized
  have hS : va_S (q_ge E) s0_.heap s0_.heap [] := va_S.rf
  have iJ4 : ∀ w ∈ wsJ40, w ∈ wsX16_text := by decide +kernel
  have iX16 : ∀ w ∈ wsX160, w ∈ wsX16_text := by decide +kernel
  have hl := lv_entry ([.ref a]) (n := 1) (Nat.le_of_ble_eq_true rfl)
  rw [lg_entry_eq]
  generalize (lg_sl ([.ref a]) ++ List.replicate (1 - (lg_sl ([.ref a])).length) Slot.unset).toArray = ls at hl ⊢
  have hl : lv_has ls 1 [(0, .ref a)] := hl
  have l_h0 := hW.lt h0
  refine lv_aload_n hx hb dX16_text_0 rfl (lv_at hl 0 rfl) ?_
  refine q_get hx hb hts hown hA hW iX16 h0 rfl 0 (by decide) (hts (.fieldLink RX16 7 "HighRecipesLaw$Node" "sort" "I") (by decide +kernel)) (fun _ h9 => h9) (v := .int (nI s)) rfl dX16_text_1 ?_
  refine lv_if_ne (tgt := 30) hx hb dX16_text_4 (by decide) (fun c_4 => ?_) (fun c_4 => False.elim ((fun h9 => nI_ne (b := 0) (by omega) (by decide) (by omega) h9) c_4))
  refine lv_aload_n hx hb dX16_text_30 rfl (lv_at hl 0 rfl) ?_
  refine q_get hx hb hts hown hA hW iX16 h0 rfl 0 (by decide) (hts (.fieldLink RX16 7 "HighRecipesLaw$Node" "sort" "I") (by decide +kernel)) (fun _ h9 => h9) (v := .int (nI s)) rfl dX16_text_31 ?_
  refine lv_bipush (v := 6) hx hb dX16_text_34 (by decide) ?_
  refine lv_icmp_ge (tgt := 50) hx hb dX16_text_36 (by decide) (fun c_36 => ?_) (fun c_36 => absurd (nI_le (a := 6) (b := s) (by omega) (by omega)) c_36)
  refine lv_aload_n hx hb dX16_text_50 rfl (lv_at hl 0 rfl) ?_
  refine q_get hx hb hts hown hA hW iX16 h0 rfl 0 (by decide) (hts (.fieldLink RX16 7 "HighRecipesLaw$Node" "sort" "I") (by decide +kernel)) (fun _ h9 => h9) (v := .int (nI s)) rfl dX16_text_51 ?_
  refine lv_bipush (v := 11) hx hb dX16_text_54 (by decide) ?_
  refine lv_icmp_ge (tgt := 101) hx hb dX16_text_56 (by decide) (fun c_56 => absurd c_56 (nI_ge (a := s) (b := 11) (by omega) (by decide))) (fun c_56 => ?_)
  refine q_new (ci := 1) hx hb hts hown hA hW hS iJ4 tyJ4 tyJ4_ok (hts (.classLink RX16 36 RJ4) (by decide +kernel)) (hts (.instantiable RJ4 4) (by decide +kernel)) (hts (.initialized RJ4) (by decide +kernel)) rfl (fs := [.null, .int 0, .int 0, .int 0]) (by decide) (by show _ ≤ 35; omega) (by show _ ≤ 1300; omega) dX16_text_59 (fun H hW hS => ?_)
  have hW : q_W E (va_up f n (some (rSB none 0 0 0))) (n + 1) H := hW
  refine lv_dup hx hb dX16_text_62 rfl ?_
  refine q_cv (va_runI (As := []) (rest := [.ref n]) ⟨hx, hb, hml, hown, hts⟩ (kJ4_init_da8c8 l E (va_up f n (some (rSB none 0 0 0))) (n + 1) n q_eq) (cwI 0 hts gX16_text_J4_init_da8c8 rfl rfl rfl (hts (.initialized RJ4) (by decide +kernel)) (hts (.methodLink RX16 38 yJ4_init_da8c8) (by decide +kernel)) (hts (.instanceMethod yJ4_init_da8c8) (by decide +kernel)) rfl (by decide +kernel) ⟨(Nat.le_of_ble_eq_true rfl), (Nat.le_of_ble_eq_true rfl)⟩) (q_pS hA hW hS) rfl rfl hl.1 rfl (lv_room (Nat.le_of_ble_eq_true rfl)) dX16_text_63 ⟨(Nat.le_of_ble_eq_true rfl), (Nat.le_of_ble_eq_true rfl)⟩) hS (fun f_63 n_63 H locs hp hW hS => ?_)
  obtain ⟨e0_63, e1_63, en_63, hfr_63⟩ := hp
  have l_e0_63 := hW.lt e0_63
  have l_e1_63 := hW.lt e1_63
  have ha_63 : f_63 a = some (cNode (nI s) (nI k) x y) := (hfr_63 _ (by omega) (by omega)).trans (q_ne (by omega) h0)
  refine va_getsN (n := "CONTENTS") (v := .ref (E.2.2.2 103)) hx hb hA.2.2.1.2.2.2.2.1.2.1.1 hS hown (va_Nw.use rfl (hA.2.2.2.1 ("HighRecipesLaw$Node", 58, "HighRecipesLaw", "CONTENTS", "[Ljava/lang/String;", "HighRecipesLaw") (by decide +kernel))) (fun _ h9 => h9) dX16_text_66 ?_
  refine lv_aload_n hx hb dX16_text_69 rfl (lv_at hl 0 rfl) ?_
  refine q_get hx hb hts hown hA hW iX16 ha_63 rfl 0 (by decide) (hts (.fieldLink RX16 7 "HighRecipesLaw$Node" "sort" "I") (by decide +kernel)) (fun _ h9 => h9) (v := .int (nI s)) rfl dX16_text_70 ?_
  refine lv_bipush (v := 6) hx hb dX16_text_73 (by decide) ?_
  refine lv_isub hx hb dX16_text_75 ?_
  rw [show nI s - 6 = nI (s - 6) from pk_sub (a := s) (b := 6) (by omega)]
  refine vb_tq hx hb hA.2.2.1.2.2.2.2.1.2.1.2 hS (vp_in_nI (by omega) (by decide)) (v := .ref (E.2.2.2 (200 + (38 + (s - 6))))) (by rw [nI_clamp (by omega)]) dX16_text_76 ?_
  refine q_cq (va_runV (As := [.ref (E.2.2.2 (200 + (38 + (s - 6))))]) (rest := []) ⟨hx, hb, hml, hown, hts⟩ (kJ4_append_k l E f_63 n_63 n (n + 1) 16 (38 + (s - 6)) 31 ([] : List Int32) e0_63 e1_63 (by have := kt_len33 s (by omega) h2s; rw [show 38 + (s - 6) = 32 + s by omega]; simp only [List.length_nil]; omega) (by omega) (by omega) (by first | assumption | decide) (by repeat (first | exact okb_nil | assumption | exact kt_okb (by omega) | exact okb_pT (by omega) | exact dg_ok _ (by omega) | exact okb_one (by omega) | apply okb_app)) (by omega)) (cwV 1 hts gX16_text_J4_append_15ec4 rfl rfl rfl (by decide +kernel) ⟨(Nat.le_of_ble_eq_true rfl), (Nat.le_of_ble_eq_true rfl)⟩) (q_pV hA hW hS (ci := 1) rfl e0_63) rfl rfl hl.1 rfl (lv_room (Nat.le_of_ble_eq_true rfl)) dX16_text_77 ⟨(by show _ ≤ 35; omega), (by show _ ≤ 1300; omega)⟩) hS (fun r_77 f_77 n_77 H locs hp hW hS => ?_)
  obtain ⟨b1_77, m1_77, rfl, e0_77, e1_77, el_77, em4_77, eb_77, en_77, hfr_77⟩ := hp
  have l_e0_77 := hW.lt e0_77
  have l_e1_77 := hW.lt e1_77
  have ha_77 : f_77 a = some (cNode (nI s) (nI k) x y) := (hfr_77 _ (by omega) (by omega) (by omega)).trans ha_63
  refine va_ldcS (own := "HighRecipesLaw$Node") hx hb hown (q_ldk hA (i := 8) (by decide)) dX16_text_80 ?_
  refine q_cq (va_runV (As := [.ref (E.2.2.2 (200 + 8))]) (rest := []) ⟨hx, hb, hml, hown, hts⟩ (kJ4_append_k l E f_77 n_77 n b1_77 m1_77 8 31 (([] : List Int32) ++ kt (38 + (s - 6))) e0_77 e1_77 (by have := kt_len33 s (by omega) h2s; simp only [List.length_append, List.length_nil, ktl_8]; rw [show 38 + (s - 6) = 32 + s by omega]; omega) (by omega) (by omega) (by first | assumption | decide) (by repeat (first | exact okb_nil | assumption | exact kt_okb (by omega) | exact okb_pT (by omega) | exact dg_ok _ (by omega) | exact okb_one (by omega) | apply okb_app)) (by omega)) (cwV 1 hts gX16_text_J4_append_15ec4 rfl rfl rfl (by decide +kernel) ⟨(Nat.le_of_ble_eq_true rfl), (Nat.le_of_ble_eq_true rfl)⟩) (q_pV hA hW hS (ci := 1) rfl e0_77) rfl rfl hl.1 rfl (lv_room (Nat.le_of_ble_eq_true rfl)) dX16_text_82 ⟨(by show _ ≤ 35; omega), (by show _ ≤ 1300; omega)⟩) hS (fun r_82 f_82 n_82 H locs hp hW hS => ?_)
  obtain ⟨b1_82, m1_82, rfl, e0_82, e1_82, el_82, em4_82, eb_82, en_82, hfr_82⟩ := hp
  have l_e0_82 := hW.lt e0_82
  have l_e1_82 := hW.lt e1_82
  have ha_82 : f_82 a = some (cNode (nI s) (nI k) x y) := (hfr_82 _ (by omega) (by omega) (by omega)).trans ha_77
  refine lv_aload_n hx hb dX16_text_85 rfl (lv_at hl 0 rfl) ?_
  refine q_get hx hb hts hown hA hW iX16 ha_82 rfl 1 (by decide) (hts (.fieldLink RX16 13 "HighRecipesLaw$Node" "n" "I") (by decide +kernel)) (fun _ h9 => h9) (v := .int (nI k)) rfl dX16_text_86 ?_
  refine q_cq (va_runSN (As := [.int (nI k)]) (rest := [.ref n]) ⟨hx, hb, hml, hown, hts⟩ (kL_pan l E f_82 n_82 k (by omega)) ⟨va_cnB 1 hts gX16_text_L_pan_n63 rfl rfl rfl (hA.2.2.2.2.1 ("HighRecipesLaw$Node", 63, ⟨"HighRecipesLaw", "pan", "(I)Ljava/lang/String;"⟩, "HighRecipesLaw") (by decide +kernel)) (hts (.initialized RL) (by decide +kernel)) (by decide +kernel) ⟨(Nat.le_of_ble_eq_true rfl), (Nat.le_of_ble_eq_true rfl)⟩, hts (.static yL_pan) (by decide +kernel), trivial⟩ (q_pS hA hW hS) rfl rfl hl.1 rfl (lv_room (Nat.le_of_ble_eq_true rfl)) dX16_text_89 ⟨(Nat.le_of_ble_eq_true rfl), (Nat.le_of_ble_eq_true rfl)⟩) hS (fun r_89 f_89 n_89 H locs hp hW hS => ?_)
  obtain ⟨r_89, rfl, e0_89, e1_89, er_89, en_89, hfr_89⟩ := hp
  have l_e0_89 := hW.lt e0_89
  have l_e1_89 := hW.lt e1_89
  have ha_89 : f_89 a = some (cNode (nI s) (nI k) x y) := (hfr_89 _ (by omega)).trans ha_82
  have hn_89 : f_89 n = some (cSB b1_82 (nI ((([] : List Int32) ++ kt (38 + (s - 6))) ++ kt 8).length)) := (hfr_89 _ (by omega)).trans e0_82
  have hb1_82_89 : f_89 b1_82 = some (aB E m1_82 (tx ((([] : List Int32) ++ kt (38 + (s - 6))) ++ kt 8))) := (hfr_89 _ (by omega)).trans e1_82
  refine q_cq (va_runV (As := [.ref r_89]) (rest := []) ⟨hx, hb, hml, hown, hts⟩ (kJ4_append_15ec4 l E f_89 n_89 n b1_82 m1_82 r_89 (r_89 + 1) 31 ((([] : List Int32) ++ kt (38 + (s - 6))) ++ kt 8) (pT k) hn_89 hb1_82_89 e0_89 e1_89 (by have := kt_len33 s (by omega) h2s; simp only [List.length_append, List.length_nil, ktl_8, pT_len]; rw [show 38 + (s - 6) = 32 + s by omega]; omega) (by omega) (by omega) (by first | assumption | decide) (by repeat (first | exact okb_nil | assumption | exact kt_okb (by omega) | exact okb_pT (by omega) | exact dg_ok _ (by omega) | exact okb_one (by omega) | apply okb_app)) (okb_pT (by omega)) (by omega)) (cwV 1 hts gX16_text_J4_append_15ec4 rfl rfl rfl (by decide +kernel) ⟨(Nat.le_of_ble_eq_true rfl), (Nat.le_of_ble_eq_true rfl)⟩) (q_pV hA hW hS (ci := 1) rfl hn_89) rfl rfl hl.1 rfl (lv_room (Nat.le_of_ble_eq_true rfl)) dX16_text_92 ⟨(by show _ ≤ 35; omega), (by show _ ≤ 1300; omega)⟩) hS (fun r_92 f_92 n_92 H locs hp hW hS => ?_)
  obtain ⟨b1_92, m1_92, rfl, e0_92, e1_92, el_92, em4_92, eb_92, en_92, hfr_92⟩ := hp
  have l_e0_92 := hW.lt e0_92
  have l_e1_92 := hW.lt e1_92
  have ha_92 : f_92 a = some (cNode (nI s) (nI k) x y) := (hfr_92 _ (by omega) (by omega) (by omega)).trans ha_89
  have hr_89_92 : f_92 r_89 = some (cStr (r_89 + 1)) := (hfr_92 _ (by omega) (by omega) (by omega)).trans e0_89
  have hr_89___1_92 : f_92 (r_89 + 1) = some (aB E ((pT k).length) (tx (pT k))) := (hfr_92 _ (by omega) (by omega) (by omega)).trans e1_89
  refine q_cq (va_runV (As := []) (rest := []) ⟨hx, hb, hml, hown, hts⟩ (kJ4_toString_0e30d l E f_92 n_92 n b1_92 m1_92 31 (((([] : List Int32) ++ kt (38 + (s - 6))) ++ kt 8) ++ (pT k)) e0_92 e1_92 (by assumption) (by omega) (by have := kt_len33 s (by omega) h2s; simp only [List.length_append, List.length_nil, ktl_8, pT_len]; rw [show 38 + (s - 6) = 32 + s by omega]; omega) (by omega) (by repeat (first | exact okb_nil | assumption | exact kt_okb (by omega) | exact okb_pT (by omega) | exact dg_ok _ (by omega) | exact okb_one (by omega) | apply okb_app))) (cwV 0 hts gX16_text_J4_toString_0e30d rfl rfl rfl (by decide +kernel) ⟨(Nat.le_of_ble_eq_true rfl), (Nat.le_of_ble_eq_true rfl)⟩) (q_pV hA hW hS (ci := 1) rfl e0_92) rfl rfl hl.1 rfl (lv_room (Nat.le_of_ble_eq_true rfl)) dX16_text_95 ⟨(by show _ ≤ 35; omega), (by show _ ≤ 1300; omega)⟩) hS (fun r_95 f_95 n_95 H locs hp hW hS => ?_)
  obtain ⟨rfl, e0_95, e1_95, en_95, hfr_95⟩ := hp
  have l_e0_95 := hW.lt e0_95
  have l_e1_95 := hW.lt e1_95
  have ha_95 : f_95 a = some (cNode (nI s) (nI k) x y) := (hfr_95 _ (by omega)).trans ha_92
  have hr_89_95 : f_95 r_89 = some (cStr (r_89 + 1)) := (hfr_95 _ (by omega)).trans hr_89_92
  have hr_89___1_95 : f_95 (r_89 + 1) = some (aB E ((pT k).length) (tx (pT k))) := (hfr_95 _ (by omega)).trans hr_89___1_92
  have hn_95 : f_95 n = some (cSB b1_92 (nI (((([] : List Int32) ++ kt (38 + (s - 6))) ++ kt 8) ++ (pT k)).length)) := (hfr_95 _ (by omega)).trans e0_92
  have hb1_92_95 : f_95 b1_92 = some (aB E m1_92 (tx (((([] : List Int32) ++ kt (38 + (s - 6))) ++ kt 8) ++ (pT k)))) := (hfr_95 _ (by omega)).trans e1_92
  refine lv_goto (tgt := 155) hx hb dX16_text_98 (by decide) ?_
  exact q_aret (v := some n_92) hx hb hr (Or.inl ⟨_, rfl⟩) hlocks hW hS ⟨n_92, rfl, (Or.inr ⟨_, e0_95, e1_95⟩), (fun rb h9 => by rw [e0_95] at h9; cases h9; omega), (by omega), (fun q g0 => ((hfr_95 _ (by omega)).trans ((hfr_92 _ (by omega) (by omega) (by omega)).trans ((hfr_89 _ (by omega)).trans ((hfr_82 _ (by omega) (by omega) (by omega)).trans ((hfr_77 _ (by omega) (by omega) (by omega)).trans ((hfr_63 _ (by omega) (by omega)).trans (q_ne (by omega) rfl))))))))⟩ (by show _ ≤ 35; omega) (by show _ ≤ 1300; omega) dX16_text_155

set_option maxHeartbeats 4000000 in
set_option maxRecDepth 100000 in
theorem kX16_text_n1 (l : Launch) (E : q_E) (f : q_H) (n : Nat) (a k : Nat) (x y : Option Nat) (h0 : f a = some (cNode (nI 0) (nI k) x y)) (hk : k < 1000) : Met l yX16_text wsX16_text ({ frames := 18, cells := 100, slots := 4000, locals := 1100 }) (q_P E [.ref a] f n) (q_Qq E (fun r0 f1 n1 => ∃ (r : Nat), some r = r0 ∧ TXT E f1 r (dg k) ∧ (∀ rb, f1 r = some (cStr rb) → n ≤ rb) ∧ n ≤ n1 ∧ ∀ z9, z9 < n → f1 z9 = f z9)) 100 4000 (q_ge E) := by
  refine Met.ofW (cc := cX16_text) (maxL := 1) (ret := (some (.object "java/lang/String"))) (by decide) rfl ?_
  intro p0_ e0_ s0_ m0_ args0_ below0_ meth0_ c0_ s1_ B hml hv
  obtain ⟨rfl, hA, hW⟩ := hv
  have hx := B.exec
  have hb := B.bytes
  have hr := B.returns
  have hts := atoms_spec (ws := wsX16_text) B.pre
  have hown : s0_.vm.findClass RX16 = some m0_.cls := findClass_of_methodNamed B.named
  have hlocks := B.notSynchronized
  have hS : va_S (q_ge E) s0_.heap s0_.heap [] := va_S.rf
  have iJ4 : ∀ w ∈ wsJ40, w ∈ wsX16_text := by decide +kernel
  have iX16 : ∀ w ∈ wsX160, w ∈ wsX16_text := by decide +kernel
  have hl := lv_entry ([.ref a]) (n := 1) (Nat.le_of_ble_eq_true rfl)
  rw [lg_entry_eq]
  generalize (lg_sl ([.ref a]) ++ List.replicate (1 - (lg_sl ([.ref a])).length) Slot.unset).toArray = ls at hl ⊢
  have hl : lv_has ls 1 [(0, .ref a)] := hl
  have l_h0 := hW.lt h0
  have hdl9 := dg_len k
  refine lv_aload_n hx hb dX16_text_0 rfl (lv_at hl 0 rfl) ?_
  refine q_get hx hb hts hown hA hW iX16 h0 rfl 0 (by decide) (hts (.fieldLink RX16 7 "HighRecipesLaw$Node" "sort" "I") (by decide +kernel)) (fun _ h9 => h9) (v := .int (nI 0)) rfl dX16_text_1 ?_
  refine lv_if_ne (tgt := 30) hx hb dX16_text_4 (by decide) (fun c_4 => False.elim ((fun h9 => h9 rfl) c_4)) (fun c_4 => ?_)
  refine q_new (ci := 1) hx hb hts hown hA hW hS iJ4 tyJ4 tyJ4_ok (hts (.classLink RX16 36 RJ4) (by decide +kernel)) (hts (.instantiable RJ4 4) (by decide +kernel)) (hts (.initialized RJ4) (by decide +kernel)) rfl (fs := [.null, .int 0, .int 0, .int 0]) (by decide) (by show _ ≤ 100; omega) (by show _ ≤ 4000; omega) dX16_text_7 (fun H hW hS => ?_)
  have hW : q_W E (va_up f n (some (rSB none 0 0 0))) (n + 1) H := hW
  refine lv_dup hx hb dX16_text_10 rfl ?_
  refine q_cv (va_runI (As := []) (rest := [.ref n]) ⟨hx, hb, hml, hown, hts⟩ (kJ4_init_da8c8 l E (va_up f n (some (rSB none 0 0 0))) (n + 1) n q_eq) (cwI 0 hts gX16_text_J4_init_da8c8 rfl rfl rfl (hts (.initialized RJ4) (by decide +kernel)) (hts (.methodLink RX16 38 yJ4_init_da8c8) (by decide +kernel)) (hts (.instanceMethod yJ4_init_da8c8) (by decide +kernel)) rfl (by decide +kernel) ⟨(Nat.le_of_ble_eq_true rfl), (Nat.le_of_ble_eq_true rfl)⟩) (q_pS hA hW hS) rfl rfl hl.1 rfl (lv_room (Nat.le_of_ble_eq_true rfl)) dX16_text_11 ⟨(Nat.le_of_ble_eq_true rfl), (Nat.le_of_ble_eq_true rfl)⟩) hS (fun f_11 n_11 H locs hp hW hS => ?_)
  obtain ⟨e0_11, e1_11, en_11, hfr_11⟩ := hp
  have l_e0_11 := hW.lt e0_11
  have l_e1_11 := hW.lt e1_11
  have ha_11 : f_11 a = some (cNode (nI 0) (nI k) x y) := (hfr_11 _ (by omega) (by omega)).trans (q_ne (by omega) h0)
  refine va_ldcS (own := "HighRecipesLaw$Node") hx hb hown (q_ldk hA (i := 7) (by decide)) dX16_text_14 ?_
  refine q_cq (va_runV (As := [.ref (E.2.2.2 (200 + 7))]) (rest := []) ⟨hx, hb, hml, hown, hts⟩ (kJ4_append_k l E f_11 n_11 n (n + 1) 16 7 31 ([] : List Int32) e0_11 e1_11 (by (try simp only [List.length_append, List.length_nil, List.length_cons, pT_len, ktl_0, ktl_1, ktl_2, ktl_3, ktl_4, ktl_5, ktl_6, ktl_7, ktl_8, ktl_9, ktl_10, ktl_11, ktl_12, ktl_13, ktl_14, ktl_15, ktl_16, ktl_17, ktl_18, ktl_19, ktl_20, ktl_21, ktl_22, ktl_23, ktl_24, ktl_25, ktl_26, ktl_27, ktl_28, ktl_29, ktl_30, ktl_31, ktl_32, ktl_33, ktl_34, ktl_35, ktl_36, ktl_37, ktl_38, ktl_39, ktl_40, ktl_41, ktl_42, ktl_43, ktl_44, ktl_45, ktl_46, ktl_47, ktl_48, ktl_49]); omega) (by omega) (by omega) (by first | assumption | decide) (by repeat (first | exact okb_nil | assumption | exact kt_okb (by omega) | exact okb_pT (by omega) | exact dg_ok _ (by omega) | exact okb_one (by omega) | apply okb_app)) (by omega)) (cwV 1 hts gX16_text_J4_append_15ec4 rfl rfl rfl (by decide +kernel) ⟨(Nat.le_of_ble_eq_true rfl), (Nat.le_of_ble_eq_true rfl)⟩) (q_pV hA hW hS (ci := 1) rfl e0_11) rfl rfl hl.1 rfl (lv_room (Nat.le_of_ble_eq_true rfl)) dX16_text_16 ⟨(by show _ ≤ 100; omega), (by show _ ≤ 4000; omega)⟩) hS (fun r_16 f_16 n_16 H locs hp hW hS => ?_)
  obtain ⟨b1_16, m1_16, rfl, e0_16, e1_16, el_16, em4_16, eb_16, en_16, hfr_16⟩ := hp
  have l_e0_16 := hW.lt e0_16
  have l_e1_16 := hW.lt e1_16
  have ha_16 : f_16 a = some (cNode (nI 0) (nI k) x y) := (hfr_16 _ (by omega) (by omega) (by omega)).trans ha_11
  refine lv_aload_n hx hb dX16_text_19 rfl (lv_at hl 0 rfl) ?_
  refine q_get hx hb hts hown hA hW iX16 ha_16 rfl 1 (by decide) (hts (.fieldLink RX16 13 "HighRecipesLaw$Node" "n" "I") (by decide +kernel)) (fun _ h9 => h9) (v := .int (nI k)) rfl dX16_text_20 ?_
  refine q_cq (va_runV (As := [.int (nI k)]) (rest := []) ⟨hx, hb, hml, hown, hts⟩ (kJ4_append_bf812 l E f_16 n_16 n b1_16 m1_16 k 31 (([] : List Int32) ++ kt 7) e0_16 e1_16 (by (try simp only [List.length_append, List.length_nil, List.length_cons, pT_len, ktl_0, ktl_1, ktl_2, ktl_3, ktl_4, ktl_5, ktl_6, ktl_7, ktl_8, ktl_9, ktl_10, ktl_11, ktl_12, ktl_13, ktl_14, ktl_15, ktl_16, ktl_17, ktl_18, ktl_19, ktl_20, ktl_21, ktl_22, ktl_23, ktl_24, ktl_25, ktl_26, ktl_27, ktl_28, ktl_29, ktl_30, ktl_31, ktl_32, ktl_33, ktl_34, ktl_35, ktl_36, ktl_37, ktl_38, ktl_39, ktl_40, ktl_41, ktl_42, ktl_43, ktl_44, ktl_45, ktl_46, ktl_47, ktl_48, ktl_49]); omega) (by omega) (by omega) (by first | assumption | decide) (by repeat (first | exact okb_nil | assumption | exact kt_okb (by omega) | exact okb_pT (by omega) | exact dg_ok _ (by omega) | exact okb_one (by omega) | apply okb_app)) hk) (cwV 1 hts gX16_text_J4_append_bf812 rfl rfl rfl (by decide +kernel) ⟨(Nat.le_of_ble_eq_true rfl), (Nat.le_of_ble_eq_true rfl)⟩) (q_pV hA hW hS (ci := 1) rfl e0_16) rfl rfl hl.1 rfl (lv_room (Nat.le_of_ble_eq_true rfl)) dX16_text_23 ⟨(by show _ ≤ 100; omega), (by show _ ≤ 4000; omega)⟩) hS (fun r_23 f_23 n_23 H locs hp hW hS => ?_)
  obtain ⟨b1_23, m1_23, rfl, e0_23, e1_23, el_23, em4_23, eb_23, en_23, hfr_23⟩ := hp
  have l_e0_23 := hW.lt e0_23
  have l_e1_23 := hW.lt e1_23
  have ha_23 : f_23 a = some (cNode (nI 0) (nI k) x y) := (hfr_23 _ (by omega) (by omega) (by omega)).trans ha_16
  refine q_cq (va_runV (As := []) (rest := []) ⟨hx, hb, hml, hown, hts⟩ (kJ4_toString_0e30d l E f_23 n_23 n b1_23 m1_23 31 ((([] : List Int32) ++ kt 7) ++ dg k) e0_23 e1_23 (by assumption) (by omega) (by (try simp only [List.length_append, List.length_nil, List.length_cons, pT_len, ktl_0, ktl_1, ktl_2, ktl_3, ktl_4, ktl_5, ktl_6, ktl_7, ktl_8, ktl_9, ktl_10, ktl_11, ktl_12, ktl_13, ktl_14, ktl_15, ktl_16, ktl_17, ktl_18, ktl_19, ktl_20, ktl_21, ktl_22, ktl_23, ktl_24, ktl_25, ktl_26, ktl_27, ktl_28, ktl_29, ktl_30, ktl_31, ktl_32, ktl_33, ktl_34, ktl_35, ktl_36, ktl_37, ktl_38, ktl_39, ktl_40, ktl_41, ktl_42, ktl_43, ktl_44, ktl_45, ktl_46, ktl_47, ktl_48, ktl_49]); omega) (by omega) (by repeat (first | exact okb_nil | assumption | exact kt_okb (by omega) | exact okb_pT (by omega) | exact dg_ok _ (by omega) | exact okb_one (by omega) | apply okb_app))) (cwV 0 hts gX16_text_J4_toString_0e30d rfl rfl rfl (by decide +kernel) ⟨(Nat.le_of_ble_eq_true rfl), (Nat.le_of_ble_eq_true rfl)⟩) (q_pV hA hW hS (ci := 1) rfl e0_23) rfl rfl hl.1 rfl (lv_room (Nat.le_of_ble_eq_true rfl)) dX16_text_26 ⟨(by show _ ≤ 100; omega), (by show _ ≤ 4000; omega)⟩) hS (fun r_26 f_26 n_26 H locs hp hW hS => ?_)
  obtain ⟨rfl, e0_26, e1_26, en_26, hfr_26⟩ := hp
  have l_e0_26 := hW.lt e0_26
  have l_e1_26 := hW.lt e1_26
  have ha_26 : f_26 a = some (cNode (nI 0) (nI k) x y) := (hfr_26 _ (by omega)).trans ha_23
  have hn_26 : f_26 n = some (cSB b1_23 (nI ((([] : List Int32) ++ kt 7) ++ dg k).length)) := (hfr_26 _ (by omega)).trans e0_23
  have hb1_23_26 : f_26 b1_23 = some (aB E m1_23 (tx ((([] : List Int32) ++ kt 7) ++ dg k))) := (hfr_26 _ (by omega)).trans e1_23
  exact q_aret (v := some n_23) hx hb hr (Or.inl ⟨_, rfl⟩) hlocks hW hS ⟨n_23, rfl, (Or.inr ⟨_, e0_26, e1_26⟩), (fun rb h9 => by rw [e0_26] at h9; cases h9; omega), (by omega), (fun q g0 => ((hfr_26 _ (by omega)).trans ((hfr_23 _ (by omega) (by omega) (by omega)).trans ((hfr_16 _ (by omega) (by omega) (by omega)).trans ((hfr_11 _ (by omega) (by omega)).trans (q_ne (by omega) rfl))))))⟩ (by show _ ≤ 100; omega) (by show _ ≤ 4000; omega) dX16_text_29

set_option maxHeartbeats 4000000 in
set_option maxRecDepth 100000 in
theorem kX16_text_m1 (l : Launch) (E : q_E) (f : q_H) (n : Nat) (a s k : Nat) (x y : Option Nat) (h0 : f a = some (cNode (nI s) (nI k) x y)) (h1s : 1 ≤ s) (h2s : s ≤ 5) : Met l yX16_text wsX16_text ({ frames := 18, cells := 100, slots := 4000, locals := 1100 }) (q_P E [.ref a] f n) (q_Qq E (fun r0 f1 n1 => ∃ (r : Nat), some r = r0 ∧ TXT E f1 r (kt (32 + s)) ∧ (∀ rb, f1 r = some (cStr rb) → n ≤ rb) ∧ n ≤ n1 ∧ ∀ z9, z9 < n → f1 z9 = f z9)) 100 4000 (q_ge E) := by
  refine Met.ofW (cc := cX16_text) (maxL := 1) (ret := (some (.object "java/lang/String"))) (by decide) rfl ?_
  intro p0_ e0_ s0_ m0_ args0_ below0_ meth0_ c0_ s1_ B hml hv
  obtain ⟨rfl, hA, hW⟩ := hv
  have hx := B.exec
  have hb := B.bytes
  have hr := B.returns
  have hts := atoms_spec (ws := wsX16_text) B.pre
  have hown : s0_.vm.findClass RX16 = some m0_.cls := findClass_of_methodNamed B.named
  have hlocks := B.notSynchronized
  have hS : va_S (q_ge E) s0_.heap s0_.heap [] := va_S.rf
  have iX16 : ∀ w ∈ wsX160, w ∈ wsX16_text := by decide +kernel
  have hl := lv_entry ([.ref a]) (n := 1) (Nat.le_of_ble_eq_true rfl)
  rw [lg_entry_eq]
  generalize (lg_sl ([.ref a]) ++ List.replicate (1 - (lg_sl ([.ref a])).length) Slot.unset).toArray = ls at hl ⊢
  have hl : lv_has ls 1 [(0, .ref a)] := hl
  have l_h0 := hW.lt h0
  refine lv_aload_n hx hb dX16_text_0 rfl (lv_at hl 0 rfl) ?_
  refine q_get hx hb hts hown hA hW iX16 h0 rfl 0 (by decide) (hts (.fieldLink RX16 7 "HighRecipesLaw$Node" "sort" "I") (by decide +kernel)) (fun _ h9 => h9) (v := .int (nI s)) rfl dX16_text_1 ?_
  refine lv_if_ne (tgt := 30) hx hb dX16_text_4 (by decide) (fun c_4 => ?_) (fun c_4 => False.elim ((fun h9 => nI_ne (b := 0) (by omega) (by decide) (by omega) h9) c_4))
  refine lv_aload_n hx hb dX16_text_30 rfl (lv_at hl 0 rfl) ?_
  refine q_get hx hb hts hown hA hW iX16 h0 rfl 0 (by decide) (hts (.fieldLink RX16 7 "HighRecipesLaw$Node" "sort" "I") (by decide +kernel)) (fun _ h9 => h9) (v := .int (nI s)) rfl dX16_text_31 ?_
  refine lv_bipush (v := 6) hx hb dX16_text_34 (by decide) ?_
  refine lv_icmp_ge (tgt := 50) hx hb dX16_text_36 (by decide) (fun c_36 => absurd c_36 (nI_ge (a := s) (b := 6) (by omega) (by decide))) (fun c_36 => ?_)
  refine va_getsN (n := "MEASURES") (v := .ref (E.2.2.2 102)) hx hb hA.2.2.1.2.2.2.2.1.1.1 hS hown (va_Nw.use rfl (hA.2.2.2.1 ("HighRecipesLaw$Node", 52, "HighRecipesLaw", "MEASURES", "[Ljava/lang/String;", "HighRecipesLaw") (by decide +kernel))) (fun _ h9 => h9) dX16_text_39 ?_
  refine lv_aload_n hx hb dX16_text_42 rfl (lv_at hl 0 rfl) ?_
  refine q_get hx hb hts hown hA hW iX16 h0 rfl 0 (by decide) (hts (.fieldLink RX16 7 "HighRecipesLaw$Node" "sort" "I") (by decide +kernel)) (fun _ h9 => h9) (v := .int (nI s)) rfl dX16_text_43 ?_
  refine lv_iconst (v := 1) hx hb dX16_text_46 (by decide) ?_
  refine lv_isub hx hb dX16_text_47 ?_
  rw [show nI s - 1 = nI (s - 1) from pk_sub (a := s) (b := 1) (by omega)]
  refine vb_tq hx hb hA.2.2.1.2.2.2.2.1.1.2 hS (vp_in_nI (by omega) (by decide)) (v := .ref (E.2.2.2 (200 + (33 + (s - 1))))) (by rw [nI_clamp (by omega)]) dX16_text_48 ?_
  exact q_aret (v := some (E.2.2.2 (200 + (33 + (s - 1))))) hx hb hr (Or.inl ⟨_, rfl⟩) hlocks hW hS ⟨(E.2.2.2 (200 + (33 + (s - 1)))), rfl, (Or.inl ⟨33 + (s - 1), by omega, rfl, congrArg kt (by omega)⟩), (fun rb h9 => (q_kn hA hW (i := 33 + (s - 1)) (by omega) h9).elim), (Nat.le_refl _), (fun q g0 => rfl)⟩ (by show _ ≤ 100; omega) (by show _ ≤ 4000; omega) dX16_text_49

set_option maxHeartbeats 4000000 in
set_option maxRecDepth 100000 in
theorem kX16_text_c1 (l : Launch) (E : q_E) (f : q_H) (n : Nat) (a s k : Nat) (x y : Option Nat) (h0 : f a = some (cNode (nI s) (nI k) x y)) (h1s : 6 ≤ s) (h2s : s ≤ 10) (hk8 : k < 8) : Met l yX16_text wsX16_text ({ frames := 18, cells := 100, slots := 4000, locals := 1100 }) (q_P E [.ref a] f n) (q_Qq E (fun r0 f1 n1 => ∃ (r : Nat), some r = r0 ∧ TXT E f1 r (kt (38 + (s - 6)) ++ kt 8 ++ pT k) ∧ (∀ rb, f1 r = some (cStr rb) → n ≤ rb) ∧ n ≤ n1 ∧ ∀ z9, z9 < n → f1 z9 = f z9)) 100 4000 (q_ge E) := by
  refine Met.ofW (cc := cX16_text) (maxL := 1) (ret := (some (.object "java/lang/String"))) (by decide) rfl ?_
  intro p0_ e0_ s0_ m0_ args0_ below0_ meth0_ c0_ s1_ B hml hv
  obtain ⟨rfl, hA, hW⟩ := hv
  have hx := B.exec
  have hb := B.bytes
  have hr := B.returns
  have hts := atoms_spec (ws := wsX16_text) B.pre
  have hown : s0_.vm.findClass RX16 = some m0_.cls := findClass_of_methodNamed B.named
  have hlocks := B.notSynchronized
  have hS : va_S (q_ge E) s0_.heap s0_.heap [] := va_S.rf
  have iJ4 : ∀ w ∈ wsJ40, w ∈ wsX16_text := by decide +kernel
  have iX16 : ∀ w ∈ wsX160, w ∈ wsX16_text := by decide +kernel
  have hl := lv_entry ([.ref a]) (n := 1) (Nat.le_of_ble_eq_true rfl)
  rw [lg_entry_eq]
  generalize (lg_sl ([.ref a]) ++ List.replicate (1 - (lg_sl ([.ref a])).length) Slot.unset).toArray = ls at hl ⊢
  have hl : lv_has ls 1 [(0, .ref a)] := hl
  have l_h0 := hW.lt h0
  refine lv_aload_n hx hb dX16_text_0 rfl (lv_at hl 0 rfl) ?_
  refine q_get hx hb hts hown hA hW iX16 h0 rfl 0 (by decide) (hts (.fieldLink RX16 7 "HighRecipesLaw$Node" "sort" "I") (by decide +kernel)) (fun _ h9 => h9) (v := .int (nI s)) rfl dX16_text_1 ?_
  refine lv_if_ne (tgt := 30) hx hb dX16_text_4 (by decide) (fun c_4 => ?_) (fun c_4 => False.elim ((fun h9 => nI_ne (b := 0) (by omega) (by decide) (by omega) h9) c_4))
  refine lv_aload_n hx hb dX16_text_30 rfl (lv_at hl 0 rfl) ?_
  refine q_get hx hb hts hown hA hW iX16 h0 rfl 0 (by decide) (hts (.fieldLink RX16 7 "HighRecipesLaw$Node" "sort" "I") (by decide +kernel)) (fun _ h9 => h9) (v := .int (nI s)) rfl dX16_text_31 ?_
  refine lv_bipush (v := 6) hx hb dX16_text_34 (by decide) ?_
  refine lv_icmp_ge (tgt := 50) hx hb dX16_text_36 (by decide) (fun c_36 => ?_) (fun c_36 => absurd (nI_le (a := 6) (b := s) (by omega) (by omega)) c_36)
  refine lv_aload_n hx hb dX16_text_50 rfl (lv_at hl 0 rfl) ?_
  refine q_get hx hb hts hown hA hW iX16 h0 rfl 0 (by decide) (hts (.fieldLink RX16 7 "HighRecipesLaw$Node" "sort" "I") (by decide +kernel)) (fun _ h9 => h9) (v := .int (nI s)) rfl dX16_text_51 ?_
  refine lv_bipush (v := 11) hx hb dX16_text_54 (by decide) ?_
  refine lv_icmp_ge (tgt := 101) hx hb dX16_text_56 (by decide) (fun c_56 => absurd c_56 (nI_ge (a := s) (b := 11) (by omega) (by decide))) (fun c_56 => ?_)
  refine q_new (ci := 1) hx hb hts hown hA hW hS iJ4 tyJ4 tyJ4_ok (hts (.classLink RX16 36 RJ4) (by decide +kernel)) (hts (.instantiable RJ4 4) (by decide +kernel)) (hts (.initialized RJ4) (by decide +kernel)) rfl (fs := [.null, .int 0, .int 0, .int 0]) (by decide) (by show _ ≤ 100; omega) (by show _ ≤ 4000; omega) dX16_text_59 (fun H hW hS => ?_)
  have hW : q_W E (va_up f n (some (rSB none 0 0 0))) (n + 1) H := hW
  refine lv_dup hx hb dX16_text_62 rfl ?_
  refine q_cv (va_runI (As := []) (rest := [.ref n]) ⟨hx, hb, hml, hown, hts⟩ (kJ4_init_da8c8 l E (va_up f n (some (rSB none 0 0 0))) (n + 1) n q_eq) (cwI 0 hts gX16_text_J4_init_da8c8 rfl rfl rfl (hts (.initialized RJ4) (by decide +kernel)) (hts (.methodLink RX16 38 yJ4_init_da8c8) (by decide +kernel)) (hts (.instanceMethod yJ4_init_da8c8) (by decide +kernel)) rfl (by decide +kernel) ⟨(Nat.le_of_ble_eq_true rfl), (Nat.le_of_ble_eq_true rfl)⟩) (q_pS hA hW hS) rfl rfl hl.1 rfl (lv_room (Nat.le_of_ble_eq_true rfl)) dX16_text_63 ⟨(Nat.le_of_ble_eq_true rfl), (Nat.le_of_ble_eq_true rfl)⟩) hS (fun f_63 n_63 H locs hp hW hS => ?_)
  obtain ⟨e0_63, e1_63, en_63, hfr_63⟩ := hp
  have l_e0_63 := hW.lt e0_63
  have l_e1_63 := hW.lt e1_63
  have ha_63 : f_63 a = some (cNode (nI s) (nI k) x y) := (hfr_63 _ (by omega) (by omega)).trans (q_ne (by omega) h0)
  refine va_getsN (n := "CONTENTS") (v := .ref (E.2.2.2 103)) hx hb hA.2.2.1.2.2.2.2.1.2.1.1 hS hown (va_Nw.use rfl (hA.2.2.2.1 ("HighRecipesLaw$Node", 58, "HighRecipesLaw", "CONTENTS", "[Ljava/lang/String;", "HighRecipesLaw") (by decide +kernel))) (fun _ h9 => h9) dX16_text_66 ?_
  refine lv_aload_n hx hb dX16_text_69 rfl (lv_at hl 0 rfl) ?_
  refine q_get hx hb hts hown hA hW iX16 ha_63 rfl 0 (by decide) (hts (.fieldLink RX16 7 "HighRecipesLaw$Node" "sort" "I") (by decide +kernel)) (fun _ h9 => h9) (v := .int (nI s)) rfl dX16_text_70 ?_
  refine lv_bipush (v := 6) hx hb dX16_text_73 (by decide) ?_
  refine lv_isub hx hb dX16_text_75 ?_
  rw [show nI s - 6 = nI (s - 6) from pk_sub (a := s) (b := 6) (by omega)]
  refine vb_tq hx hb hA.2.2.1.2.2.2.2.1.2.1.2 hS (vp_in_nI (by omega) (by decide)) (v := .ref (E.2.2.2 (200 + (38 + (s - 6))))) (by rw [nI_clamp (by omega)]) dX16_text_76 ?_
  refine q_cq (va_runV (As := [.ref (E.2.2.2 (200 + (38 + (s - 6))))]) (rest := []) ⟨hx, hb, hml, hown, hts⟩ (kJ4_append_k l E f_63 n_63 n (n + 1) 16 (38 + (s - 6)) 31 ([] : List Int32) e0_63 e1_63 (by have := kt_len33 s (by omega) h2s; rw [show 38 + (s - 6) = 32 + s by omega]; simp only [List.length_nil]; omega) (by omega) (by omega) (by first | assumption | decide) (by repeat (first | exact okb_nil | assumption | exact kt_okb (by omega) | exact okb_pT (by omega) | exact dg_ok _ (by omega) | exact okb_one (by omega) | apply okb_app)) (by omega)) (cwV 1 hts gX16_text_J4_append_15ec4 rfl rfl rfl (by decide +kernel) ⟨(Nat.le_of_ble_eq_true rfl), (Nat.le_of_ble_eq_true rfl)⟩) (q_pV hA hW hS (ci := 1) rfl e0_63) rfl rfl hl.1 rfl (lv_room (Nat.le_of_ble_eq_true rfl)) dX16_text_77 ⟨(by show _ ≤ 100; omega), (by show _ ≤ 4000; omega)⟩) hS (fun r_77 f_77 n_77 H locs hp hW hS => ?_)
  obtain ⟨b1_77, m1_77, rfl, e0_77, e1_77, el_77, em4_77, eb_77, en_77, hfr_77⟩ := hp
  have l_e0_77 := hW.lt e0_77
  have l_e1_77 := hW.lt e1_77
  have ha_77 : f_77 a = some (cNode (nI s) (nI k) x y) := (hfr_77 _ (by omega) (by omega) (by omega)).trans ha_63
  refine va_ldcS (own := "HighRecipesLaw$Node") hx hb hown (q_ldk hA (i := 8) (by decide)) dX16_text_80 ?_
  refine q_cq (va_runV (As := [.ref (E.2.2.2 (200 + 8))]) (rest := []) ⟨hx, hb, hml, hown, hts⟩ (kJ4_append_k l E f_77 n_77 n b1_77 m1_77 8 31 (([] : List Int32) ++ kt (38 + (s - 6))) e0_77 e1_77 (by have := kt_len33 s (by omega) h2s; simp only [List.length_append, List.length_nil, ktl_8]; rw [show 38 + (s - 6) = 32 + s by omega]; omega) (by omega) (by omega) (by first | assumption | decide) (by repeat (first | exact okb_nil | assumption | exact kt_okb (by omega) | exact okb_pT (by omega) | exact dg_ok _ (by omega) | exact okb_one (by omega) | apply okb_app)) (by omega)) (cwV 1 hts gX16_text_J4_append_15ec4 rfl rfl rfl (by decide +kernel) ⟨(Nat.le_of_ble_eq_true rfl), (Nat.le_of_ble_eq_true rfl)⟩) (q_pV hA hW hS (ci := 1) rfl e0_77) rfl rfl hl.1 rfl (lv_room (Nat.le_of_ble_eq_true rfl)) dX16_text_82 ⟨(by show _ ≤ 100; omega), (by show _ ≤ 4000; omega)⟩) hS (fun r_82 f_82 n_82 H locs hp hW hS => ?_)
  obtain ⟨b1_82, m1_82, rfl, e0_82, e1_82, el_82, em4_82, eb_82, en_82, hfr_82⟩ := hp
  have l_e0_82 := hW.lt e0_82
  have l_e1_82 := hW.lt e1_82
  have ha_82 : f_82 a = some (cNode (nI s) (nI k) x y) := (hfr_82 _ (by omega) (by omega) (by omega)).trans ha_77
  refine lv_aload_n hx hb dX16_text_85 rfl (lv_at hl 0 rfl) ?_
  refine q_get hx hb hts hown hA hW iX16 ha_82 rfl 1 (by decide) (hts (.fieldLink RX16 13 "HighRecipesLaw$Node" "n" "I") (by decide +kernel)) (fun _ h9 => h9) (v := .int (nI k)) rfl dX16_text_86 ?_
  refine q_cq (va_runSN (As := [.int (nI k)]) (rest := [.ref n]) ⟨hx, hb, hml, hown, hts⟩ (kL_pan l E f_82 n_82 k (by omega)) ⟨va_cnB 1 hts gX16_text_L_pan_n63 rfl rfl rfl (hA.2.2.2.2.1 ("HighRecipesLaw$Node", 63, ⟨"HighRecipesLaw", "pan", "(I)Ljava/lang/String;"⟩, "HighRecipesLaw") (by decide +kernel)) (hts (.initialized RL) (by decide +kernel)) (by decide +kernel) ⟨(Nat.le_of_ble_eq_true rfl), (Nat.le_of_ble_eq_true rfl)⟩, hts (.static yL_pan) (by decide +kernel), trivial⟩ (q_pS hA hW hS) rfl rfl hl.1 rfl (lv_room (Nat.le_of_ble_eq_true rfl)) dX16_text_89 ⟨(Nat.le_of_ble_eq_true rfl), (Nat.le_of_ble_eq_true rfl)⟩) hS (fun r_89 f_89 n_89 H locs hp hW hS => ?_)
  obtain ⟨r_89, rfl, e0_89, e1_89, er_89, en_89, hfr_89⟩ := hp
  have l_e0_89 := hW.lt e0_89
  have l_e1_89 := hW.lt e1_89
  have ha_89 : f_89 a = some (cNode (nI s) (nI k) x y) := (hfr_89 _ (by omega)).trans ha_82
  have hn_89 : f_89 n = some (cSB b1_82 (nI ((([] : List Int32) ++ kt (38 + (s - 6))) ++ kt 8).length)) := (hfr_89 _ (by omega)).trans e0_82
  have hb1_82_89 : f_89 b1_82 = some (aB E m1_82 (tx ((([] : List Int32) ++ kt (38 + (s - 6))) ++ kt 8))) := (hfr_89 _ (by omega)).trans e1_82
  refine q_cq (va_runV (As := [.ref r_89]) (rest := []) ⟨hx, hb, hml, hown, hts⟩ (kJ4_append_15ec4 l E f_89 n_89 n b1_82 m1_82 r_89 (r_89 + 1) 31 ((([] : List Int32) ++ kt (38 + (s - 6))) ++ kt 8) (pT k) hn_89 hb1_82_89 e0_89 e1_89 (by have := kt_len33 s (by omega) h2s; simp only [List.length_append, List.length_nil, ktl_8, pT_len]; rw [show 38 + (s - 6) = 32 + s by omega]; omega) (by omega) (by omega) (by first | assumption | decide) (by repeat (first | exact okb_nil | assumption | exact kt_okb (by omega) | exact okb_pT (by omega) | exact dg_ok _ (by omega) | exact okb_one (by omega) | apply okb_app)) (okb_pT (by omega)) (by omega)) (cwV 1 hts gX16_text_J4_append_15ec4 rfl rfl rfl (by decide +kernel) ⟨(Nat.le_of_ble_eq_true rfl), (Nat.le_of_ble_eq_true rfl)⟩) (q_pV hA hW hS (ci := 1) rfl hn_89) rfl rfl hl.1 rfl (lv_room (Nat.le_of_ble_eq_true rfl)) dX16_text_92 ⟨(by show _ ≤ 100; omega), (by show _ ≤ 4000; omega)⟩) hS (fun r_92 f_92 n_92 H locs hp hW hS => ?_)
  obtain ⟨b1_92, m1_92, rfl, e0_92, e1_92, el_92, em4_92, eb_92, en_92, hfr_92⟩ := hp
  have l_e0_92 := hW.lt e0_92
  have l_e1_92 := hW.lt e1_92
  have ha_92 : f_92 a = some (cNode (nI s) (nI k) x y) := (hfr_92 _ (by omega) (by omega) (by omega)).trans ha_89
  have hr_89_92 : f_92 r_89 = some (cStr (r_89 + 1)) := (hfr_92 _ (by omega) (by omega) (by omega)).trans e0_89
  have hr_89___1_92 : f_92 (r_89 + 1) = some (aB E ((pT k).length) (tx (pT k))) := (hfr_92 _ (by omega) (by omega) (by omega)).trans e1_89
  refine q_cq (va_runV (As := []) (rest := []) ⟨hx, hb, hml, hown, hts⟩ (kJ4_toString_0e30d l E f_92 n_92 n b1_92 m1_92 31 (((([] : List Int32) ++ kt (38 + (s - 6))) ++ kt 8) ++ (pT k)) e0_92 e1_92 (by assumption) (by omega) (by have := kt_len33 s (by omega) h2s; simp only [List.length_append, List.length_nil, ktl_8, pT_len]; rw [show 38 + (s - 6) = 32 + s by omega]; omega) (by omega) (by repeat (first | exact okb_nil | assumption | exact kt_okb (by omega) | exact okb_pT (by omega) | exact dg_ok _ (by omega) | exact okb_one (by omega) | apply okb_app))) (cwV 0 hts gX16_text_J4_toString_0e30d rfl rfl rfl (by decide +kernel) ⟨(Nat.le_of_ble_eq_true rfl), (Nat.le_of_ble_eq_true rfl)⟩) (q_pV hA hW hS (ci := 1) rfl e0_92) rfl rfl hl.1 rfl (lv_room (Nat.le_of_ble_eq_true rfl)) dX16_text_95 ⟨(by show _ ≤ 100; omega), (by show _ ≤ 4000; omega)⟩) hS (fun r_95 f_95 n_95 H locs hp hW hS => ?_)
  obtain ⟨rfl, e0_95, e1_95, en_95, hfr_95⟩ := hp
  have l_e0_95 := hW.lt e0_95
  have l_e1_95 := hW.lt e1_95
  have ha_95 : f_95 a = some (cNode (nI s) (nI k) x y) := (hfr_95 _ (by omega)).trans ha_92
  have hr_89_95 : f_95 r_89 = some (cStr (r_89 + 1)) := (hfr_95 _ (by omega)).trans hr_89_92
  have hr_89___1_95 : f_95 (r_89 + 1) = some (aB E ((pT k).length) (tx (pT k))) := (hfr_95 _ (by omega)).trans hr_89___1_92
  have hn_95 : f_95 n = some (cSB b1_92 (nI (((([] : List Int32) ++ kt (38 + (s - 6))) ++ kt 8) ++ (pT k)).length)) := (hfr_95 _ (by omega)).trans e0_92
  have hb1_92_95 : f_95 b1_92 = some (aB E m1_92 (tx (((([] : List Int32) ++ kt (38 + (s - 6))) ++ kt 8) ++ (pT k)))) := (hfr_95 _ (by omega)).trans e1_92
  refine lv_goto (tgt := 155) hx hb dX16_text_98 (by decide) ?_
  exact q_aret (v := some n_92) hx hb hr (Or.inl ⟨_, rfl⟩) hlocks hW hS ⟨n_92, rfl, (Or.inr ⟨_, e0_95, e1_95⟩), (fun rb h9 => by rw [e0_95] at h9; cases h9; omega), (by omega), (fun q g0 => ((hfr_95 _ (by omega)).trans ((hfr_92 _ (by omega) (by omega) (by omega)).trans ((hfr_89 _ (by omega)).trans ((hfr_82 _ (by omega) (by omega) (by omega)).trans ((hfr_77 _ (by omega) (by omega) (by omega)).trans ((hfr_63 _ (by omega) (by omega)).trans (q_ne (by omega) rfl))))))))⟩ (by show _ ≤ 100; omega) (by show _ ≤ 4000; omega) dX16_text_155

theorem kX16_text_0 (l : Launch) (E : q_E) (f : q_H) (n : Nat) (a pn : Nat) (P : Nat → Prop) (D : q_D) (V : List Int32) (hN : NODE pn P f 0 a D V) (hpn : pn ≤ 8) : Met l yX16_text wsX16_text ({ frames := 16, cells := 35, slots := 1300, locals := 900 }) (q_P E [.ref a] f n) (q_Qq E (fun r0 f1 n1 => ∃ (r : Nat), some r = r0 ∧ TXT E f1 r V ∧ (∀ rb, f1 r = some (cStr rb) → n ≤ rb) ∧ n ≤ n1 ∧ ∀ z9, z9 < n → f1 z9 = f z9)) 35 1300 (q_ge E) := by
  obtain ⟨-, s, k, x, y, h0, hl⟩ := hN
  rcases hl with ⟨rfl, hk, -, rfl⟩ | ⟨h1, h2, -, rfl⟩ | ⟨h1, h2, h3, -, rfl⟩
  · exact kX16_text_n0 l E f n a k x y h0 hk
  · exact kX16_text_m0 l E f n a s k x y h0 h1 h2
  · rw [show 32 + s = 38 + (s - 6) by omega]
    exact kX16_text_c0 l E f n a s k x y h0 h1 h2 (by omega)

theorem NODE.cell {pn : Nat} {P : Nat → Prop} {f : q_H} : ∀ {d a : Nat} {D : q_D} {V : List Int32}, NODE pn P f d a D V → P a ∧ ∃ so k x y, f a = some (cNode so k x y)
  | 0, _, _, _, ⟨hp, _, _, _, _, e, _⟩ => ⟨hp, _, _, _, _, e⟩
  | _ + 1, _, _, _, Or.inl ⟨hp, _, _, _, _, e, _⟩ => ⟨hp, _, _, _, _, e⟩
  | _ + 1, _, _, _, Or.inr ⟨hp, _, _, _, _, _, _, _, _, _, e, _⟩ => ⟨hp, _, _, _, _, e⟩

set_option maxHeartbeats 4000000 in
set_option maxRecDepth 100000 in
theorem kX16_text_b (l : Launch) (E : q_E) (f : q_H) (n : Nat) (a pn s x y : Nat) (P : Nat → Prop) (D1 D2 : q_D) (V1 V2 : List Int32) (h0 : f a = some (cNode (nI s) 0 (some x) (some y))) (h1s : 11 ≤ s) (h2s : s ≤ 14) (hpn : pn ≤ 8) (hP : ∀ q, P q → q < n) (hn1 : NODE pn P f 0 x D1 V1) (hn2 : NODE pn P f 0 y D2 V2) : Met l yX16_text wsX16_text ({ frames := 18, cells := 100, slots := 4000, locals := 1100 }) (q_P E [.ref a] f n) (q_Qq E (fun r0 f1 n1 => ∃ (r : Nat), some r = r0 ∧ TXT E f1 r (kt 9 ++ V1 ++ kt (43 + (s - 11)) ++ V2 ++ kt 10) ∧ (∀ rb, f1 r = some (cStr rb) → n ≤ rb) ∧ n ≤ n1 ∧ ∀ z9, z9 < n → f1 z9 = f z9)) 100 4000 (q_ge E) := by
  refine Met.ofW (cc := cX16_text) (maxL := 1) (ret := (some (.object "java/lang/String"))) (by decide) rfl ?_
  intro p0_ e0_ s0_ m0_ args0_ below0_ meth0_ c0_ s1_ B hml hv
  obtain ⟨rfl, hA, hW⟩ := hv
  have hx := B.exec
  have hb := B.bytes
  have hr := B.returns
  have hts := atoms_spec (ws := wsX16_text) B.pre
  have hown : s0_.vm.findClass RX16 = some m0_.cls := findClass_of_methodNamed B.named
  have hlocks := B.notSynchronized
  have hS : va_S (q_ge E) s0_.heap s0_.heap [] := va_S.rf
  have iJ4 : ∀ w ∈ wsJ40, w ∈ wsX16_text := by decide +kernel
  have iX16 : ∀ w ∈ wsX160, w ∈ wsX16_text := by decide +kernel
  have hl := lv_entry ([.ref a]) (n := 1) (Nat.le_of_ble_eq_true rfl)
  rw [lg_entry_eq]
  generalize (lg_sl ([.ref a]) ++ List.replicate (1 - (lg_sl ([.ref a])).length) Slot.unset).toArray = ls at hl ⊢
  have hl : lv_has ls 1 [(0, .ref a)] := hl
  have l_h0 := hW.lt h0
  obtain ⟨-, so1, k1, x1, y1, hcx⟩ := hn1.cell
  obtain ⟨-, so2, k2, x2, y2, hcy⟩ := hn2.cell
  have l_cx := hW.lt hcx
  have l_cy := hW.lt hcy
  refine lv_aload_n hx hb dX16_text_0 rfl (lv_at hl 0 rfl) ?_
  refine q_get hx hb hts hown hA hW iX16 h0 rfl 0 (by decide) (hts (.fieldLink RX16 7 "HighRecipesLaw$Node" "sort" "I") (by decide +kernel)) (fun _ h9 => h9) (v := .int (nI s)) rfl dX16_text_1 ?_
  refine lv_if_ne (tgt := 30) hx hb dX16_text_4 (by decide) (fun c_4 => ?_) (fun c_4 => False.elim ((fun h9 => nI_ne (b := 0) (by omega) (by decide) (by omega) h9) c_4))
  refine lv_aload_n hx hb dX16_text_30 rfl (lv_at hl 0 rfl) ?_
  refine q_get hx hb hts hown hA hW iX16 h0 rfl 0 (by decide) (hts (.fieldLink RX16 7 "HighRecipesLaw$Node" "sort" "I") (by decide +kernel)) (fun _ h9 => h9) (v := .int (nI s)) rfl dX16_text_31 ?_
  refine lv_bipush (v := 6) hx hb dX16_text_34 (by decide) ?_
  refine lv_icmp_ge (tgt := 50) hx hb dX16_text_36 (by decide) (fun c_36 => ?_) (fun c_36 => absurd (nI_le (a := 6) (b := s) (by omega) (by omega)) c_36)
  refine lv_aload_n hx hb dX16_text_50 rfl (lv_at hl 0 rfl) ?_
  refine q_get hx hb hts hown hA hW iX16 h0 rfl 0 (by decide) (hts (.fieldLink RX16 7 "HighRecipesLaw$Node" "sort" "I") (by decide +kernel)) (fun _ h9 => h9) (v := .int (nI s)) rfl dX16_text_51 ?_
  refine lv_bipush (v := 11) hx hb dX16_text_54 (by decide) ?_
  refine lv_icmp_ge (tgt := 101) hx hb dX16_text_56 (by decide) (fun c_56 => ?_) (fun c_56 => absurd (nI_le (a := 11) (b := s) (by omega) (by omega)) c_56)
  refine q_new (ci := 1) hx hb hts hown hA hW hS iJ4 tyJ4 tyJ4_ok (hts (.classLink RX16 36 RJ4) (by decide +kernel)) (hts (.instantiable RJ4 4) (by decide +kernel)) (hts (.initialized RJ4) (by decide +kernel)) rfl (fs := [.null, .int 0, .int 0, .int 0]) (by decide) (by show _ ≤ 100; omega) (by show _ ≤ 4000; omega) dX16_text_101 (fun H hW hS => ?_)
  have hW : q_W E (va_up f n (some (rSB none 0 0 0))) (n + 1) H := hW
  refine lv_dup hx hb dX16_text_104 rfl ?_
  refine q_cv (va_runI (As := []) (rest := [.ref n]) ⟨hx, hb, hml, hown, hts⟩ (kJ4_init_da8c8 l E (va_up f n (some (rSB none 0 0 0))) (n + 1) n q_eq) (cwI 0 hts gX16_text_J4_init_da8c8 rfl rfl rfl (hts (.initialized RJ4) (by decide +kernel)) (hts (.methodLink RX16 38 yJ4_init_da8c8) (by decide +kernel)) (hts (.instanceMethod yJ4_init_da8c8) (by decide +kernel)) rfl (by decide +kernel) ⟨(Nat.le_of_ble_eq_true rfl), (Nat.le_of_ble_eq_true rfl)⟩) (q_pS hA hW hS) rfl rfl hl.1 rfl (lv_room (Nat.le_of_ble_eq_true rfl)) dX16_text_105 ⟨(Nat.le_of_ble_eq_true rfl), (Nat.le_of_ble_eq_true rfl)⟩) hS (fun f_105 n_105 H locs hp hW hS => ?_)
  obtain ⟨e0_105, e1_105, en_105, hfr_105⟩ := hp
  have l_e0_105 := hW.lt e0_105
  have l_e1_105 := hW.lt e1_105
  have ha_105 : f_105 a = some (cNode (nI s) 0 (some x) (some y)) := (hfr_105 _ (by omega) (by omega)).trans (q_ne (by omega) h0)
  have hx_105 : f_105 x = some (cNode so1 k1 x1 y1) := (hfr_105 _ (by omega) (by omega)).trans (q_ne (by omega) hcx)
  have hy_105 : f_105 y = some (cNode so2 k2 x2 y2) := (hfr_105 _ (by omega) (by omega)).trans (q_ne (by omega) hcy)
  refine va_ldcS (own := "HighRecipesLaw$Node") hx hb hown (q_ldk hA (i := 9) (by decide)) dX16_text_108 ?_
  refine q_cq (va_runV (As := [.ref (E.2.2.2 (200 + 9))]) (rest := []) ⟨hx, hb, hml, hown, hts⟩ (kJ4_append_k l E f_105 n_105 n (n + 1) 16 9 31 ([] : List Int32) e0_105 e1_105 (by (try simp only [List.length_append, List.length_nil, List.length_cons, pT_len, ktl_0, ktl_1, ktl_2, ktl_3, ktl_4, ktl_5, ktl_6, ktl_7, ktl_8, ktl_9, ktl_10, ktl_11, ktl_12, ktl_13, ktl_14, ktl_15, ktl_16, ktl_17, ktl_18, ktl_19, ktl_20, ktl_21, ktl_22, ktl_23, ktl_24, ktl_25, ktl_26, ktl_27, ktl_28, ktl_29, ktl_30, ktl_31, ktl_32, ktl_33, ktl_34, ktl_35, ktl_36, ktl_37, ktl_38, ktl_39, ktl_40, ktl_41, ktl_42, ktl_43, ktl_44, ktl_45, ktl_46, ktl_47, ktl_48, ktl_49]); omega) (by omega) (by omega) (by first | assumption | decide) (by repeat (first | exact okb_nil | assumption | exact kt_okb (by omega) | exact okb_pT (by omega) | exact dg_ok _ (by omega) | exact okb_one (by omega) | apply okb_app)) (by omega)) (cwV 1 hts gX16_text_J4_append_15ec4 rfl rfl rfl (by decide +kernel) ⟨(Nat.le_of_ble_eq_true rfl), (Nat.le_of_ble_eq_true rfl)⟩) (q_pV hA hW hS (ci := 1) rfl e0_105) rfl rfl hl.1 rfl (lv_room (Nat.le_of_ble_eq_true rfl)) dX16_text_110 ⟨(by show _ ≤ 100; omega), (by show _ ≤ 4000; omega)⟩) hS (fun r_110 f_110 n_110 H locs hp hW hS => ?_)
  obtain ⟨b1_110, m1_110, rfl, e0_110, e1_110, el_110, em4_110, eb_110, en_110, hfr_110⟩ := hp
  have l_e0_110 := hW.lt e0_110
  have l_e1_110 := hW.lt e1_110
  have ha_110 : f_110 a = some (cNode (nI s) 0 (some x) (some y)) := (hfr_110 _ (by omega) (by omega) (by omega)).trans ha_105
  have hx_110 : f_110 x = some (cNode so1 k1 x1 y1) := (hfr_110 _ (by omega) (by omega) (by omega)).trans hx_105
  have hy_110 : f_110 y = some (cNode so2 k2 x2 y2) := (hfr_110 _ (by omega) (by omega) (by omega)).trans hy_105
  refine lv_aload_n hx hb dX16_text_113 rfl (lv_at hl 0 rfl) ?_
  refine q_get hx hb hts hown hA hW iX16 ha_110 rfl 2 (by decide) (hts (.fieldLink RX16 16 "HighRecipesLaw$Node" "a" "LHighRecipesLaw$Node;") (by decide +kernel)) (fun _ h9 => h9) (v := .ref x) rfl dX16_text_114 ?_
  refine q_cq (va_runV (As := []) (rest := [.ref n]) ⟨hx, hb, hml, hown, hts⟩ (kX16_text_0 l E f_110 n_110 x pn P _ V1 (NODE.to (fun q hq => have h8 := hP q hq; ⟨hq, ((hfr_110 _ (by omega) (by omega) (by omega)).trans ((hfr_105 _ (by omega) (by omega)).trans (q_ne (by omega) rfl)))⟩) hn1) hpn) (cwV 0 hts gX16_text_X16_text rfl rfl rfl (by decide +kernel) ⟨(Nat.le_of_ble_eq_true rfl), (Nat.le_of_ble_eq_true rfl)⟩) (q_pV hA hW hS (ci := 16) rfl hx_110) rfl rfl hl.1 rfl (lv_room (Nat.le_of_ble_eq_true rfl)) dX16_text_117 ⟨(Nat.le_of_ble_eq_true rfl), (Nat.le_of_ble_eq_true rfl)⟩) hS (fun r_117 f_117 n_117 H locs hp hW hS => ?_)
  obtain ⟨r_117, rfl, eT_117, ef_117, en_117, hfr_117⟩ := hp
  have ha_117 : f_117 a = some (cNode (nI s) 0 (some x) (some y)) := (hfr_117 _ (by omega)).trans ha_110
  have hx_117 : f_117 x = some (cNode so1 k1 x1 y1) := (hfr_117 _ (by omega)).trans hx_110
  have hy_117 : f_117 y = some (cNode so2 k2 x2 y2) := (hfr_117 _ (by omega)).trans hy_110
  have hn_117 : f_117 n = some (cSB b1_110 (nI (([] : List Int32) ++ kt 9).length)) := (hfr_117 _ (by omega)).trans e0_110
  have hb1_110_117 : f_117 b1_110 = some (aB E m1_110 (tx (([] : List Int32) ++ kt 9))) := (hfr_117 _ (by omega)).trans e1_110
  refine q_cq (va_runV (As := [.ref r_117]) (rest := []) ⟨hx, hb, hml, hown, hts⟩ (kJ4_append_S l E f_117 n_117 n b1_110 m1_110 r_117 31 (([] : List Int32) ++ kt 9) V1 hn_117 hb1_110_117 (by have := hn1.len0; have := hn2.len0; have := kt_len43 s h1s h2s; (try rw [show 43 + (s - 11) = 32 + s by omega]); simp only [List.length_append, List.length_nil, ktl_9, ktl_10]; omega) (by omega) (by omega) (by first | assumption | decide) (by have := hn1.okb hpn; have := hn2.okb hpn; repeat (first | exact okb_nil | assumption | exact kt_okb (by omega) | apply okb_app)) (by have := hn1.okb hpn; have := hn2.okb hpn; repeat (first | exact okb_nil | assumption | exact kt_okb (by omega) | apply okb_app)) eT_117 (fun rb h9 => by have := ef_117 rb h9; omega)) (cwV 1 hts gX16_text_J4_append_15ec4 rfl rfl rfl (by decide +kernel) ⟨(Nat.le_of_ble_eq_true rfl), (Nat.le_of_ble_eq_true rfl)⟩) (q_pV hA hW hS (ci := 1) rfl hn_117) rfl rfl hl.1 rfl (lv_room (Nat.le_of_ble_eq_true rfl)) dX16_text_120 ⟨(by show _ ≤ 100; omega), (by show _ ≤ 4000; omega)⟩) hS (fun r_120 f_120 n_120 H locs hp hW hS => ?_)
  obtain ⟨b1_120, m1_120, rfl, e0_120, e1_120, el_120, em4_120, eb_120, en_120, hfr_120⟩ := hp
  have l_e0_120 := hW.lt e0_120
  have l_e1_120 := hW.lt e1_120
  have ha_120 : f_120 a = some (cNode (nI s) 0 (some x) (some y)) := (hfr_120 _ (by omega) (by omega) (by omega)).trans ha_117
  have hx_120 : f_120 x = some (cNode so1 k1 x1 y1) := (hfr_120 _ (by omega) (by omega) (by omega)).trans hx_117
  have hy_120 : f_120 y = some (cNode so2 k2 x2 y2) := (hfr_120 _ (by omega) (by omega) (by omega)).trans hy_117
  refine va_getsN (n := "SIGNS") (v := .ref (E.2.2.2 104)) hx hb hA.2.2.1.2.2.2.2.1.2.2.1.1 hS hown (va_Nw.use rfl (hA.2.2.2.1 ("HighRecipesLaw$Node", 72, "HighRecipesLaw", "SIGNS", "[Ljava/lang/String;", "HighRecipesLaw") (by decide +kernel))) (fun _ h9 => h9) dX16_text_123 ?_
  refine lv_aload_n hx hb dX16_text_126 rfl (lv_at hl 0 rfl) ?_
  refine q_get hx hb hts hown hA hW iX16 ha_120 rfl 0 (by decide) (hts (.fieldLink RX16 7 "HighRecipesLaw$Node" "sort" "I") (by decide +kernel)) (fun _ h9 => h9) (v := .int (nI s)) rfl dX16_text_127 ?_
  refine lv_bipush (v := 11) hx hb dX16_text_130 (by decide) ?_
  refine lv_isub hx hb dX16_text_132 ?_
  rw [show nI s - 11 = nI (s - 11) from pk_sub (a := s) (b := 11) (by omega)]
  refine vb_tq hx hb hA.2.2.1.2.2.2.2.1.2.2.1.2 hS (vp_in_nI (by omega) (by decide)) (v := .ref (E.2.2.2 (200 + (43 + (s - 11))))) (by rw [nI_clamp (by omega)]) dX16_text_133 ?_
  refine q_cq (va_runV (As := [.ref (E.2.2.2 (200 + (43 + (s - 11))))]) (rest := []) ⟨hx, hb, hml, hown, hts⟩ (kJ4_append_k l E f_120 n_120 n b1_120 m1_120 (43 + (s - 11)) 31 ((([] : List Int32) ++ kt 9) ++ V1) e0_120 e1_120 (by have := hn1.len0; have := hn2.len0; have := kt_len43 s h1s h2s; (try rw [show 43 + (s - 11) = 32 + s by omega]); simp only [List.length_append, List.length_nil, ktl_9, ktl_10]; omega) (by omega) (by omega) (by first | assumption | decide) (by have := hn1.okb hpn; have := hn2.okb hpn; repeat (first | exact okb_nil | assumption | exact kt_okb (by omega) | apply okb_app)) (by omega)) (cwV 1 hts gX16_text_J4_append_15ec4 rfl rfl rfl (by decide +kernel) ⟨(Nat.le_of_ble_eq_true rfl), (Nat.le_of_ble_eq_true rfl)⟩) (q_pV hA hW hS (ci := 1) rfl e0_120) rfl rfl hl.1 rfl (lv_room (Nat.le_of_ble_eq_true rfl)) dX16_text_134 ⟨(by show _ ≤ 100; omega), (by show _ ≤ 4000; omega)⟩) hS (fun r_134 f_134 n_134 H locs hp hW hS => ?_)
  obtain ⟨b1_134, m1_134, rfl, e0_134, e1_134, el_134, em4_134, eb_134, en_134, hfr_134⟩ := hp
  have l_e0_134 := hW.lt e0_134
  have l_e1_134 := hW.lt e1_134
  have ha_134 : f_134 a = some (cNode (nI s) 0 (some x) (some y)) := (hfr_134 _ (by omega) (by omega) (by omega)).trans ha_120
  have hx_134 : f_134 x = some (cNode so1 k1 x1 y1) := (hfr_134 _ (by omega) (by omega) (by omega)).trans hx_120
  have hy_134 : f_134 y = some (cNode so2 k2 x2 y2) := (hfr_134 _ (by omega) (by omega) (by omega)).trans hy_120
  refine lv_aload_n hx hb dX16_text_137 rfl (lv_at hl 0 rfl) ?_
  refine q_get hx hb hts hown hA hW iX16 ha_134 rfl 3 (by decide) (hts (.fieldLink RX16 20 "HighRecipesLaw$Node" "b" "LHighRecipesLaw$Node;") (by decide +kernel)) (fun _ h9 => h9) (v := .ref y) rfl dX16_text_138 ?_
  refine q_cq (va_runV (As := []) (rest := [.ref n]) ⟨hx, hb, hml, hown, hts⟩ (kX16_text_0 l E f_134 n_134 y pn P _ V2 (NODE.to (fun q hq => have h8 := hP q hq; ⟨hq, ((hfr_134 _ (by omega) (by omega) (by omega)).trans ((hfr_120 _ (by omega) (by omega) (by omega)).trans ((hfr_117 _ (by omega)).trans ((hfr_110 _ (by omega) (by omega) (by omega)).trans ((hfr_105 _ (by omega) (by omega)).trans (q_ne (by omega) rfl))))))⟩) hn2) hpn) (cwV 0 hts gX16_text_X16_text rfl rfl rfl (by decide +kernel) ⟨(Nat.le_of_ble_eq_true rfl), (Nat.le_of_ble_eq_true rfl)⟩) (q_pV hA hW hS (ci := 16) rfl hy_134) rfl rfl hl.1 rfl (lv_room (Nat.le_of_ble_eq_true rfl)) dX16_text_141 ⟨(Nat.le_of_ble_eq_true rfl), (Nat.le_of_ble_eq_true rfl)⟩) hS (fun r_141 f_141 n_141 H locs hp hW hS => ?_)
  obtain ⟨r_141, rfl, eT_141, ef_141, en_141, hfr_141⟩ := hp
  have ha_141 : f_141 a = some (cNode (nI s) 0 (some x) (some y)) := (hfr_141 _ (by omega)).trans ha_134
  have hx_141 : f_141 x = some (cNode so1 k1 x1 y1) := (hfr_141 _ (by omega)).trans hx_134
  have hy_141 : f_141 y = some (cNode so2 k2 x2 y2) := (hfr_141 _ (by omega)).trans hy_134
  have hn_141 : f_141 n = some (cSB b1_134 (nI (((([] : List Int32) ++ kt 9) ++ V1) ++ kt (43 + (s - 11))).length)) := (hfr_141 _ (by omega)).trans e0_134
  have hb1_134_141 : f_141 b1_134 = some (aB E m1_134 (tx (((([] : List Int32) ++ kt 9) ++ V1) ++ kt (43 + (s - 11))))) := (hfr_141 _ (by omega)).trans e1_134
  refine q_cq (va_runV (As := [.ref r_141]) (rest := []) ⟨hx, hb, hml, hown, hts⟩ (kJ4_append_S l E f_141 n_141 n b1_134 m1_134 r_141 31 (((([] : List Int32) ++ kt 9) ++ V1) ++ kt (43 + (s - 11))) V2 hn_141 hb1_134_141 (by have := hn1.len0; have := hn2.len0; have := kt_len43 s h1s h2s; (try rw [show 43 + (s - 11) = 32 + s by omega]); simp only [List.length_append, List.length_nil, ktl_9, ktl_10]; omega) (by omega) (by omega) (by first | assumption | decide) (by have := hn1.okb hpn; have := hn2.okb hpn; repeat (first | exact okb_nil | assumption | exact kt_okb (by omega) | apply okb_app)) (by have := hn1.okb hpn; have := hn2.okb hpn; repeat (first | exact okb_nil | assumption | exact kt_okb (by omega) | apply okb_app)) eT_141 (fun rb h9 => by have := ef_141 rb h9; omega)) (cwV 1 hts gX16_text_J4_append_15ec4 rfl rfl rfl (by decide +kernel) ⟨(Nat.le_of_ble_eq_true rfl), (Nat.le_of_ble_eq_true rfl)⟩) (q_pV hA hW hS (ci := 1) rfl hn_141) rfl rfl hl.1 rfl (lv_room (Nat.le_of_ble_eq_true rfl)) dX16_text_144 ⟨(by show _ ≤ 100; omega), (by show _ ≤ 4000; omega)⟩) hS (fun r_144 f_144 n_144 H locs hp hW hS => ?_)
  obtain ⟨b1_144, m1_144, rfl, e0_144, e1_144, el_144, em4_144, eb_144, en_144, hfr_144⟩ := hp
  have l_e0_144 := hW.lt e0_144
  have l_e1_144 := hW.lt e1_144
  have ha_144 : f_144 a = some (cNode (nI s) 0 (some x) (some y)) := (hfr_144 _ (by omega) (by omega) (by omega)).trans ha_141
  have hx_144 : f_144 x = some (cNode so1 k1 x1 y1) := (hfr_144 _ (by omega) (by omega) (by omega)).trans hx_141
  have hy_144 : f_144 y = some (cNode so2 k2 x2 y2) := (hfr_144 _ (by omega) (by omega) (by omega)).trans hy_141
  refine va_ldcS (own := "HighRecipesLaw$Node") hx hb hown (q_ldk hA (i := 10) (by decide)) dX16_text_147 ?_
  refine q_cq (va_runV (As := [.ref (E.2.2.2 (200 + 10))]) (rest := []) ⟨hx, hb, hml, hown, hts⟩ (kJ4_append_k l E f_144 n_144 n b1_144 m1_144 10 31 ((((([] : List Int32) ++ kt 9) ++ V1) ++ kt (43 + (s - 11))) ++ V2) e0_144 e1_144 (by have := hn1.len0; have := hn2.len0; have := kt_len43 s h1s h2s; (try rw [show 43 + (s - 11) = 32 + s by omega]); simp only [List.length_append, List.length_nil, ktl_9, ktl_10]; omega) (by omega) (by omega) (by first | assumption | decide) (by have := hn1.okb hpn; have := hn2.okb hpn; repeat (first | exact okb_nil | assumption | exact kt_okb (by omega) | apply okb_app)) (by omega)) (cwV 1 hts gX16_text_J4_append_15ec4 rfl rfl rfl (by decide +kernel) ⟨(Nat.le_of_ble_eq_true rfl), (Nat.le_of_ble_eq_true rfl)⟩) (q_pV hA hW hS (ci := 1) rfl e0_144) rfl rfl hl.1 rfl (lv_room (Nat.le_of_ble_eq_true rfl)) dX16_text_149 ⟨(by show _ ≤ 100; omega), (by show _ ≤ 4000; omega)⟩) hS (fun r_149 f_149 n_149 H locs hp hW hS => ?_)
  obtain ⟨b1_149, m1_149, rfl, e0_149, e1_149, el_149, em4_149, eb_149, en_149, hfr_149⟩ := hp
  have l_e0_149 := hW.lt e0_149
  have l_e1_149 := hW.lt e1_149
  have ha_149 : f_149 a = some (cNode (nI s) 0 (some x) (some y)) := (hfr_149 _ (by omega) (by omega) (by omega)).trans ha_144
  have hx_149 : f_149 x = some (cNode so1 k1 x1 y1) := (hfr_149 _ (by omega) (by omega) (by omega)).trans hx_144
  have hy_149 : f_149 y = some (cNode so2 k2 x2 y2) := (hfr_149 _ (by omega) (by omega) (by omega)).trans hy_144
  refine q_cq (va_runV (As := []) (rest := []) ⟨hx, hb, hml, hown, hts⟩ (kJ4_toString_0e30d l E f_149 n_149 n b1_149 m1_149 31 (((((([] : List Int32) ++ kt 9) ++ V1) ++ kt (43 + (s - 11))) ++ V2) ++ kt 10) e0_149 e1_149 (by assumption) (by omega) (by have := hn1.len0; have := hn2.len0; have := kt_len43 s h1s h2s; (try rw [show 43 + (s - 11) = 32 + s by omega]); simp only [List.length_append, List.length_nil, ktl_9, ktl_10]; omega) (by omega) (by have := hn1.okb hpn; have := hn2.okb hpn; repeat (first | exact okb_nil | assumption | exact kt_okb (by omega) | apply okb_app))) (cwV 0 hts gX16_text_J4_toString_0e30d rfl rfl rfl (by decide +kernel) ⟨(Nat.le_of_ble_eq_true rfl), (Nat.le_of_ble_eq_true rfl)⟩) (q_pV hA hW hS (ci := 1) rfl e0_149) rfl rfl hl.1 rfl (lv_room (Nat.le_of_ble_eq_true rfl)) dX16_text_152 ⟨(by show _ ≤ 100; omega), (by show _ ≤ 4000; omega)⟩) hS (fun r_152 f_152 n_152 H locs hp hW hS => ?_)
  obtain ⟨rfl, e0_152, e1_152, en_152, hfr_152⟩ := hp
  have l_e0_152 := hW.lt e0_152
  have l_e1_152 := hW.lt e1_152
  have ha_152 : f_152 a = some (cNode (nI s) 0 (some x) (some y)) := (hfr_152 _ (by omega)).trans ha_149
  have hx_152 : f_152 x = some (cNode so1 k1 x1 y1) := (hfr_152 _ (by omega)).trans hx_149
  have hy_152 : f_152 y = some (cNode so2 k2 x2 y2) := (hfr_152 _ (by omega)).trans hy_149
  have hn_152 : f_152 n = some (cSB b1_149 (nI (((((([] : List Int32) ++ kt 9) ++ V1) ++ kt (43 + (s - 11))) ++ V2) ++ kt 10).length)) := (hfr_152 _ (by omega)).trans e0_149
  have hb1_149_152 : f_152 b1_149 = some (aB E m1_149 (tx (((((([] : List Int32) ++ kt 9) ++ V1) ++ kt (43 + (s - 11))) ++ V2) ++ kt 10))) := (hfr_152 _ (by omega)).trans e1_149
  exact q_aret (v := some n_149) hx hb hr (Or.inl ⟨_, rfl⟩) hlocks hW hS ⟨n_149, rfl, (Or.inr ⟨_, e0_152, e1_152⟩), (fun rb h9 => by rw [e0_152] at h9; cases h9; omega), (by omega), (fun q g0 => ((hfr_152 _ (by omega)).trans ((hfr_149 _ (by omega) (by omega) (by omega)).trans ((hfr_144 _ (by omega) (by omega) (by omega)).trans ((hfr_141 _ (by omega)).trans ((hfr_134 _ (by omega) (by omega) (by omega)).trans ((hfr_120 _ (by omega) (by omega) (by omega)).trans ((hfr_117 _ (by omega)).trans ((hfr_110 _ (by omega) (by omega) (by omega)).trans ((hfr_105 _ (by omega) (by omega)).trans (q_ne (by omega) rfl)))))))))))⟩ (by show _ ≤ 100; omega) (by show _ ≤ 4000; omega) dX16_text_155

theorem kX16_text_1 (l : Launch) (E : q_E) (f : q_H) (n : Nat) (a pn : Nat) (P : Nat → Prop) (D : q_D) (V : List Int32) (hN : NODE pn P f 1 a D V) (hpn : pn ≤ 8) (hP : ∀ q, P q → q < n) : Met l yX16_text wsX16_text ({ frames := 18, cells := 100, slots := 4000, locals := 1100 }) (q_P E [.ref a] f n) (q_Qq E (fun r0 f1 n1 => ∃ (r : Nat), some r = r0 ∧ TXT E f1 r V ∧ (∀ rb, f1 r = some (cStr rb) → n ≤ rb) ∧ n ≤ n1 ∧ ∀ z9, z9 < n → f1 z9 = f z9)) 100 4000 (q_ge E) := by
  rcases hN with ⟨hp, s, k, x, y, h0, hl⟩ | ⟨hp, s, x, y, D1, D2, V1, V2, e1, e2, h0, n1, n2, -, rfl⟩
  · rcases hl with ⟨rfl, hk, -, rfl⟩ | ⟨h1, h2, -, rfl⟩ | ⟨h1, h2, h3, -, rfl⟩
    · exact kX16_text_n1 l E f n a k x y h0 hk
    · exact kX16_text_m1 l E f n a s k x y h0 h1 h2
    · rw [show 32 + s = 38 + (s - 6) by omega]
      exact kX16_text_c1 l E f n a s k x y h0 h1 h2 (by omega)
  · rw [show 32 + s = 43 + (s - 11) by omega]
    exact kX16_text_b l E f n a pn s x y P D1 D2 V1 V2 h0 e1 e2 hpn hP n1 n2

