section KI
variable {E : q_E} {f : q_H} {k bk a : Nat} {hd v : Nat → Int32} {x : Option va_E}
theorem kO_iu (h : kOut k a) : va_up (kO E f k bk hd v) a x = kO E (va_up f a x) k bk hd v := by
  funext q
  by_cases hq : q = a
  · subst hq; rw [va_up_self, kO_out h, va_up_self]
  · rw [va_up_ne _ _ hq]
    by_cases h1 : kOut k q
    · rw [kO_out h1, kO_out h1, va_up_ne _ _ hq]
    · rw [kO_in h1, kO_in h1]
theorem KIT.g0 (h : KIT E f k bk hd v) : f k = some (cKit k bk v) := by rw [h.eq]; exact kO_0
theorem KIT.g1 (h : KIT E f k bk hd v) : f (k + 1) = some (aQ E 4 8 (pA k)) := by rw [h.eq]; exact kO_1
theorem KIT.g2 (h : KIT E f k bk hd v) : f (k + 2) = some (cHis (k + 2) (v 4)) := by rw [h.eq]; exact kO_2
theorem KIT.g3 (h : KIT E f k bk hd v) : f (k + 3) = some (aI E 20 (z_row v 12 20)) := by rw [h.eq]; exact kO_3
theorem KIT.g4 (h : KIT E f k bk hd v) : f (k + 4) = some (cHis (k + 4) (v 5)) := by rw [h.eq]; exact kO_4
theorem KIT.g5 (h : KIT E f k bk hd v) : f (k + 5) = some (aI E 20 (z_row v 32 20)) := by rw [h.eq]; exact kO_5
theorem KIT.g6 (h : KIT E f k bk hd v) : f (k + 6) = some (aI E 6 (z_row v 6 6)) := by rw [h.eq]; exact kO_6
theorem KIT.gp {i : Nat} (h : KIT E f k bk hd v) (hi : i < 8) : f (k + 12 + i) = some (cPan (hd i) (v (52 + 4 * i)) (v (53 + 4 * i)) (v (54 + 4 * i)) (v (55 + 4 * i))) := by rw [h.eq]; exact kO_p hi
theorem z_pan_id {j : Nat} : z_pan v j (v (52 + 4 * j)) (v (53 + 4 * j)) (v (54 + 4 * j)) (v (55 + 4 * j)) = v := by
  funext q
  unfold z_pan
  split
  · next e => rw [e]
  · split
    · next e => rw [e]
    · split
      · next e => rw [e]
      · split
        · next e => rw [e]
        · rfl
end KI

set_option maxHeartbeats 4000000 in
set_option maxRecDepth 100000 in
theorem kX2_spoonsOf (l : Launch) (E : q_E) (f : q_H) (n : Nat) (b : Nat) (pc rc ac : Int32) (g : Nat → Int32) (i : Nat) (h0 : f b = some (cBook b pc rc ac)) (h1 : f (b + 2) = some (aI E 8 g)) (hi : i < 8) : Met l yX2_spoonsOf wsX2_spoonsOf ({ frames := 0, cells := 0, slots := 0, locals := 0 }) (q_P E [.ref b, .int (nI i)] f n) (q_Qi E (fun r f1 n1 => g i = r ∧ f = f1 ∧ n = n1)) 0 0 (q_ge E) := by
  refine Met.ofW (cc := cX2_spoonsOf) (maxL := 2) (ret := (some .int)) (by decide) rfl ?_
  intro p e s m args below meth c s₁ B hml hv
  obtain ⟨rfl, hA, hW⟩ := hv
  have hx := B.exec
  have hb := B.bytes
  have hr := B.returns
  have hts := atoms_spec (ws := wsX2_spoonsOf) B.pre
  have hown : s.vm.findClass RX2 = some m.cls := findClass_of_methodNamed B.named
  have hlocks := B.notSynchronized
  have hS : va_S (q_ge E) s.heap s.heap [] := va_S.rf
  have iX2 : ∀ w ∈ wsX20, w ∈ wsX2_spoonsOf := by decide +kernel
  have hl := lv_entry ([.ref b, .int (nI i)]) (n := 2) (Nat.le_of_ble_eq_true rfl)
  rw [lg_entry_eq]
  generalize (lg_sl ([.ref b, .int (nI i)]) ++ List.replicate (2 - (lg_sl ([.ref b, .int (nI i)])).length) Slot.unset).toArray = ls at hl ⊢
  have hl : lv_has ls 2 [(0, .ref b), (1, .int (nI i))] := hl
  refine lv_iload_n hx hb dX2_spoonsOf_0 rfl (lv_at hl 1 rfl) ?_
  refine lv_if_lt (tgt := 22) hx hb dX2_spoonsOf_1 (by decide) (fun c_1 => absurd c_1 (nI_pos (by omega))) (fun c_1 => ?_)
  refine lv_iload_n hx hb dX2_spoonsOf_4 rfl (lv_at hl 1 rfl) ?_
  refine lv_aload_n hx hb dX2_spoonsOf_5 rfl (lv_at hl 0 rfl) ?_
  refine q_get hx hb hts hown hA hW iX2 h0 rfl 1 (by decide) (hts (.fieldLink RX2 13 "HighRecipes$Book" "holds" "[I") (by decide +kernel)) (fun _ h9 => h9) (v := .ref (b + 2)) rfl dX2_spoonsOf_6 ?_
  refine q_alen hx hb hA hW 0 rfl h1 (v := Int32.ofNat 8) rfl dX2_spoonsOf_9 ?_
  refine lv_icmp_ge (tgt := 22) hx hb dX2_spoonsOf_10 (by decide) (fun c_10 => absurd c_10 (nI_ge hi (by decide))) (fun c_10 => ?_)
  refine lv_aload_n hx hb dX2_spoonsOf_13 rfl (lv_at hl 0 rfl) ?_
  refine q_get hx hb hts hown hA hW iX2 h0 rfl 1 (by decide) (hts (.fieldLink RX2 13 "HighRecipes$Book" "holds" "[I") (by decide +kernel)) (fun _ h9 => h9) (v := .ref (b + 2)) rfl dX2_spoonsOf_14 ?_
  refine lv_iload_n hx hb dX2_spoonsOf_17 rfl (lv_at hl 1 rfl) ?_
  refine q_iald hx hb hA hW h1 (vp_in_nI hi (by decide)) dX2_spoonsOf_18 ?_
  rw [nI_clamp (by omega)]
  refine lv_goto (tgt := 23) hx hb dX2_spoonsOf_19 (by decide) ?_
  exact q_iret hx hb hr hlocks hW hS ⟨rfl, rfl, rfl⟩ (Nat.le_of_ble_eq_true rfl) (Nat.le_of_ble_eq_true rfl) dX2_spoonsOf_23

set_option maxHeartbeats 4000000 in
set_option maxRecDepth 100000 in
theorem kX2_blockOf (l : Launch) (E : q_E) (f : q_H) (n : Nat) (b : Nat) (pc rc ac : Int32) (g : Nat → Option Nat) (i : Nat) (h0 : f b = some (cBook b pc rc ac)) (h1 : f (b + 4) = some (aQ E 3 6 g)) (hi : i < 6) : Met l yX2_blockOf wsX2_blockOf ({ frames := 0, cells := 0, slots := 0, locals := 0 }) (q_P E [.ref b, .int (nI i)] f n) (q_Qq E (fun r f1 n1 => g i = r ∧ f = f1 ∧ n = n1)) 0 0 (q_ge E) := by
  refine Met.ofW (cc := cX2_blockOf) (maxL := 2) (ret := (some (.object "HighRecipes$Act"))) (by decide) rfl ?_
  intro p e s m args below meth c s₁ B hml hv
  obtain ⟨rfl, hA, hW⟩ := hv
  have hx := B.exec
  have hb := B.bytes
  have hr := B.returns
  have hts := atoms_spec (ws := wsX2_blockOf) B.pre
  have hown : s.vm.findClass RX2 = some m.cls := findClass_of_methodNamed B.named
  have hlocks := B.notSynchronized
  have hS : va_S (q_ge E) s.heap s.heap [] := va_S.rf
  have iX2 : ∀ w ∈ wsX20, w ∈ wsX2_blockOf := by decide +kernel
  have hl := lv_entry ([.ref b, .int (nI i)]) (n := 2) (Nat.le_of_ble_eq_true rfl)
  rw [lg_entry_eq]
  generalize (lg_sl ([.ref b, .int (nI i)]) ++ List.replicate (2 - (lg_sl ([.ref b, .int (nI i)])).length) Slot.unset).toArray = ls at hl ⊢
  have hl : lv_has ls 2 [(0, .ref b), (1, .int (nI i))] := hl
  refine lv_iload_n hx hb dX2_blockOf_0 rfl (lv_at hl 1 rfl) ?_
  refine lv_if_lt (tgt := 22) hx hb dX2_blockOf_1 (by decide) (fun c_1 => absurd c_1 (nI_pos (by omega))) (fun c_1 => ?_)
  refine lv_iload_n hx hb dX2_blockOf_4 rfl (lv_at hl 1 rfl) ?_
  refine lv_aload_n hx hb dX2_blockOf_5 rfl (lv_at hl 0 rfl) ?_
  refine q_get hx hb hts hown hA hW iX2 h0 rfl 3 (by decide) (hts (.fieldLink RX2 22 "HighRecipes$Book" "blocks" "[LHighRecipes$Act;") (by decide +kernel)) (fun _ h9 => h9) (v := .ref (b + 4)) rfl dX2_blockOf_6 ?_
  refine q_alen hx hb hA hW 3 rfl h1 (v := Int32.ofNat 6) rfl dX2_blockOf_9 ?_
  refine lv_icmp_ge (tgt := 22) hx hb dX2_blockOf_10 (by decide) (fun c_10 => absurd c_10 (nI_ge hi (by decide))) (fun c_10 => ?_)
  refine lv_aload_n hx hb dX2_blockOf_13 rfl (lv_at hl 0 rfl) ?_
  refine q_get hx hb hts hown hA hW iX2 h0 rfl 3 (by decide) (hts (.fieldLink RX2 22 "HighRecipes$Book" "blocks" "[LHighRecipes$Act;") (by decide +kernel)) (fun _ h9 => h9) (v := .ref (b + 4)) rfl dX2_blockOf_14 ?_
  refine lv_iload_n hx hb dX2_blockOf_17 rfl (lv_at hl 1 rfl) ?_
  refine q_aald hx hb hA hW 3 rfl h1 (vp_in_nI hi (by decide)) dX2_blockOf_18 ?_
  rw [nI_clamp (by omega)]
  refine lv_goto (tgt := 23) hx hb dX2_blockOf_19 (by decide) ?_
  exact q_aret (v := g i) hx hb hr (Or.inl ⟨_, rfl⟩) hlocks hW hS ⟨rfl, rfl, rfl⟩ (Nat.le_of_ble_eq_true rfl) (Nat.le_of_ble_eq_true rfl) dX2_blockOf_23

def z_hdn (hd g : Nat → Int32) (j : Nat) : Nat → Int32 := fun i => if i < j then g i else hd i
theorem z_hdn_0 {hd g : Nat → Int32} : z_hdn hd g 0 = hd := by
  funext i
  unfold z_hdn
  rw [if_neg (Nat.not_lt_zero _)]
theorem z_hdn_s {hd g : Nat → Int32} {j : Nat} : upd (z_hdn hd g j) j (g j) = z_hdn hd g (j + 1) := by
  funext i
  by_cases h : i = j
  · subst h; rw [z_us]; unfold z_hdn; rw [if_pos (by omega)]
  · rw [z_un h]; unfold z_hdn
    by_cases h2 : i < j
    · rw [if_pos h2, if_pos (by omega)]
    · rw [if_neg h2, if_neg (by omega)]
def z_bgn (v : Nat → Int32) (j : Nat) : Nat → Int32 := fun q => if q = 1 then 4 else if q = 2 then 1 else if q < 12 then 0 else if 52 ≤ q ∧ q < 52 + 4 * j then (if q % 4 = 2 then 20 else 0) else v q
theorem z_bgn_0 {v : Nat → Int32} : z_forget (upd (upd (upd (upd v 0 0) 1 4) 2 1) 3 0) = z_bgn v 0 := by
  funext q
  show z_fg _ 6 q = _
  unfold z_fg z_bgn
  by_cases h : q < 12
  · rcases (by omega : q = 0 ∨ q = 1 ∨ q = 2 ∨ q = 3 ∨ q = 4 ∨ q = 5 ∨ q = 6 ∨ q = 7 ∨ q = 8 ∨ q = 9 ∨ q = 10 ∨ q = 11) with e | e | e | e | e | e | e | e | e | e | e | e <;> subst e <;> rfl
  · rw [if_neg (by omega), if_neg (by omega), if_neg (by omega), if_neg h, if_neg (by omega), z_un (by omega), z_un (by omega), z_un (by omega), z_un (by omega)]
theorem z_bgn_s {v : Nat → Int32} {j : Nat} : z_pan (z_bgn v j) j 0 0 20 0 = z_bgn v (j + 1) := by
  funext q
  unfold z_pan
  split
  · next e => subst e; unfold z_bgn; rw [if_neg (by omega), if_neg (by omega), if_neg (by omega), if_pos (by omega), if_neg (by omega)]
  · split
    · next e => subst e; unfold z_bgn; rw [if_neg (by omega), if_neg (by omega), if_neg (by omega), if_pos (by omega), if_neg (by omega)]
    · split
      · next e => subst e; unfold z_bgn; rw [if_neg (by omega), if_neg (by omega), if_neg (by omega), if_pos (by omega), if_pos (by omega)]
      · split
        · next e => subst e; unfold z_bgn; rw [if_neg (by omega), if_neg (by omega), if_neg (by omega), if_pos (by omega), if_neg (by omega)]
        · unfold z_bgn
          by_cases h1 : q = 1
          · rw [if_pos h1, if_pos h1]
          · rw [if_neg h1, if_neg h1]
            by_cases h2 : q = 2
            · rw [if_pos h2, if_pos h2]
            · rw [if_neg h2, if_neg h2]
              by_cases h3 : q < 12
              · rw [if_pos h3, if_pos h3]
              · rw [if_neg h3, if_neg h3]
                by_cases h4 : 52 ≤ q ∧ q < 52 + 4 * j
                · rw [if_pos h4, if_pos (show 52 ≤ q ∧ q < 52 + 4 * (j + 1) by omega)]
                · rw [if_neg h4, if_neg (show ¬ (52 ≤ q ∧ q < 52 + 4 * (j + 1)) by omega)]

set_option maxHeartbeats 4000000 in
set_option maxRecDepth 100000 in
theorem kX6_begin (l : Launch) (E : q_E) (f : q_H) (n : Nat) (k bk : Nat) (hd v : Nat → Int32) (nb pn : Nat) (rc ac : Int32) (g : Nat → Int32) (hB : f nb = some (cBook nb (nI pn) rc ac)) (hH : f (nb + 2) = some (aI E 8 g)) (hk : KIT E f k bk hd v) (hbo : kOut k nb) (hbo2 : kOut k (nb + 2)) (hpn : pn ≤ 8) : Met l yX6_begin wsX6_begin ({ frames := 2, cells := 0, slots := 0, locals := 41 }) (q_P E [.ref k, .ref nb] f n) (q_Qv E (fun f1 n1 => kO E f k nb (z_hdn hd g pn) (z_bgn v pn) = f1 ∧ n = n1)) 0 0 (q_ge E) := by
  refine Met.ofW (cc := cX6_begin) (maxL := 4) (ret := none) (by decide) rfl ?_
  intro p e s m args below meth c s₁ B hml hv
  obtain ⟨rfl, hA, hW⟩ := hv
  have hx := B.exec
  have hb := B.bytes
  have hr := B.returns
  have hts := atoms_spec (ws := wsX6_begin) B.pre
  have hown : s.vm.findClass RX6 = some m.cls := findClass_of_methodNamed B.named
  have hlocks := B.notSynchronized
  have hS : va_S (q_ge E) s.heap s.heap [] := va_S.rf
  have iX2 : ∀ w ∈ wsX20, w ∈ wsX6_begin := by decide +kernel
  have iX6 : ∀ w ∈ wsX60, w ∈ wsX6_begin := by decide +kernel
  have iX7 : ∀ w ∈ wsX70, w ∈ wsX6_begin := by decide +kernel
  have hl := lv_entry ([.ref k, .ref nb]) (n := 4) (Nat.le_of_ble_eq_true rfl)
  rw [lg_entry_eq]
  generalize (lg_sl ([.ref k, .ref nb]) ++ List.replicate (4 - (lg_sl ([.ref k, .ref nb])).length) Slot.unset).toArray = ls at hl ⊢
  have hl : lv_has ls 4 [(0, .ref k), (1, .ref nb)] := hl
  rw [hk.eq] at hW
  refine lv_aload_n hx hb dX6_begin_0 rfl (lv_at hl 0 rfl) ?_
  refine lv_aload_n hx hb dX6_begin_1 rfl (lv_at hl 1 rfl) ?_
  refine q_put hx hb hts hown hA hW hS iX6 tyX6 tyX6_ok nmX6 kO_0 rfl 4 (by decide) (hts (.fieldLink RX6 34 "HighRecipes$Kitchen" "book" "LHighRecipes$Book;") (by decide +kernel)) (fun _ h9 => h9) rfl rfl rfl (Nat.le_of_ble_eq_true rfl) dX6_begin_2 (fun H locs hW hS => ?_)
  have hW : q_W E (va_up (kO E f k bk hd v) k (some (cKit k nb v))) n H := hW
  rw [kO_s0 (fun j hj => rfl)] at hW
  refine lv_aload_n hx hb dX6_begin_5 rfl (lv_at hl 0 rfl) ?_
  refine lv_iconst (v := 0) hx hb dX6_begin_6 (by decide) ?_
  refine q_put hx hb hts hown hA hW hS iX6 tyX6 tyX6_ok nmX6 kO_0 rfl 5 (by decide) (hts (.fieldLink RX6 46 "HighRecipes$Kitchen" "altitude" "I") (by decide +kernel)) (fun _ h9 => h9) rfl rfl rfl (Nat.le_of_ble_eq_true rfl) dX6_begin_7 (fun H locs hW hS => ?_)
  have hW : q_W E (va_up (kO E f k nb hd v) k (some (cKit k nb (upd v 0 0)))) n H := hW
  rw [kO_s0 (fun j hj => z_un (by omega))] at hW
  refine lv_aload_n hx hb dX6_begin_10 rfl (lv_at hl 0 rfl) ?_
  refine lv_iconst (v := 4) hx hb dX6_begin_11 (by decide) ?_
  refine q_put hx hb hts hown hA hW hS iX6 tyX6 tyX6_ok nmX6 kO_0 rfl 6 (by decide) (hts (.fieldLink RX6 38 "HighRecipes$Kitchen" "servings" "I") (by decide +kernel)) (fun _ h9 => h9) rfl rfl rfl (Nat.le_of_ble_eq_true rfl) dX6_begin_12 (fun H locs hW hS => ?_)
  have hW : q_W E (va_up (kO E f k nb hd (upd v 0 0)) k (some (cKit k nb (upd (upd v 0 0) 1 4)))) n H := hW
  rw [kO_s0 (fun j hj => z_un (by omega))] at hW
  refine lv_aload_n hx hb dX6_begin_15 rfl (lv_at hl 0 rfl) ?_
  refine lv_iconst (v := 1) hx hb dX6_begin_16 (by decide) ?_
  refine q_put hx hb hts hown hA hW hS iX6 tyX6 tyX6_ok nmX6 kO_0 rfl 7 (by decide) (hts (.fieldLink RX6 42 "HighRecipes$Kitchen" "spoon" "I") (by decide +kernel)) (fun _ h9 => h9) rfl rfl rfl (Nat.le_of_ble_eq_true rfl) dX6_begin_17 (fun H locs hW hS => ?_)
  have hW : q_W E (va_up (kO E f k nb hd (upd (upd v 0 0) 1 4)) k (some (cKit k nb (upd (upd (upd v 0 0) 1 4) 2 1)))) n H := hW
  rw [kO_s0 (fun j hj => z_un (by omega))] at hW
  refine lv_aload_n hx hb dX6_begin_20 rfl (lv_at hl 0 rfl) ?_
  refine lv_iconst (v := 0) hx hb dX6_begin_21 (by decide) ?_
  refine q_put hx hb hts hown hA hW hS iX6 tyX6 tyX6_ok nmX6 kO_0 rfl 8 (by decide) (hts (.fieldLink RX6 49 "HighRecipes$Kitchen" "minute" "I") (by decide +kernel)) (fun _ h9 => h9) rfl rfl rfl (Nat.le_of_ble_eq_true rfl) dX6_begin_22 (fun H locs hW hS => ?_)
  have hW : q_W E (va_up (kO E f k nb hd (upd (upd (upd v 0 0) 1 4) 2 1)) k (some (cKit k nb (upd (upd (upd (upd v 0 0) 1 4) 2 1) 3 0)))) n H := hW
  rw [kO_s0 (fun j hj => z_un (by omega))] at hW
  refine lv_aload_n hx hb dX6_begin_25 rfl (lv_at hl 0 rfl) ?_
  refine q_cv (va_runV (As := []) (rest := []) ⟨hx, hb, hml, hown, hts⟩ (kX6_forget l E (kO E f k nb hd (upd (upd (upd (upd v 0 0) 1 4) 2 1) 3 0)) n k nb hd (upd (upd (upd (upd v 0 0) 1 4) 2 1) 3 0) kO_K) (cwV 0 hts gX6_begin_X6_forget rfl rfl rfl (by decide +kernel) ⟨(Nat.le_of_ble_eq_true rfl), (Nat.le_of_ble_eq_true rfl)⟩) (q_pV hA hW hS (ci := 6) rfl kO_0) rfl rfl hl.1 rfl (lv_room (Nat.le_of_ble_eq_true rfl)) dX6_begin_26 ⟨Nat.le_of_ble_eq_true rfl, Nat.le_of_ble_eq_true rfl⟩) hS (fun f_26 n_26 H locs hp hW hS => ?_)
  obtain ⟨rfl, rfl⟩ := hp
  rw [kO_kO] at hW
  have hW : q_W E (kO E f k nb hd (z_forget (upd (upd (upd (upd v 0 0) 1 4) 2 1) 3 0))) n H := hW
  refine lv_iconst (v := 0) hx hb dX6_begin_29 (by decide) ?_
  refine lv_istore_n (lv' := [(2, .int 0), (0, .ref k), (1, .ref nb)]) hx hb dX6_begin_30 rfl hl (by decide) rfl (fun ls hl => ?_)
  have K31 : ∀ (fu : Nat) (j : Nat) (hj : j ≤ pn) (hm : pn - j < fu) (H : Heap) (locs : List Loc) (ls : Array Slot), q_W E (kO E f k nb (z_hdn hd g j) (z_bgn v j)) n H → va_S (q_ge E) s.heap H locs → lv_has ls 4 [(0, .ref k), (1, .ref nb), (2, .int (nI j))] → W p l e (headSpec wsX6_begin ({ frames := 2, cells := 0, slots := 0, locals := 41 })).room s m ([.ref k, .ref nb] : List Value).toArray below meth c H locs 0 0 (MQ below (q_Qv E (fun f1 n1 => kO E f k nb (z_hdn hd g pn) (z_bgn v pn) = f1 ∧ n = n1)) ([.ref k, .ref nb] : List Value).toArray s 0 0 (q_ge E)) (F0 m 31 ls []) := by
    intro fu
    induction fu with
    | zero =>
      intro j hj hm
      exact absurd hm (Nat.not_lt_zero _)
    | succ fu ih =>
      intro j hj hm H locs ls hW hS hl
      refine lv_iload_n hx hb dX6_begin_31 rfl (lv_at hl 2 rfl) ?_
      refine lv_aload_n hx hb dX6_begin_32 rfl (lv_at hl 0 rfl) ?_
      refine q_get hx hb hts hown hA hW iX6 kO_0 rfl 4 (by decide) (hts (.fieldLink RX6 34 "HighRecipes$Kitchen" "book" "LHighRecipes$Book;") (by decide +kernel)) (fun _ h9 => h9) (v := .ref nb) rfl dX6_begin_33 ?_
      refine q_getN hx hb hts hown hA hW iX2 ((kO_out hbo).trans hB) rfl 4 (by decide) (va_Nw.use rfl (hA.2.2.2.1 ("HighRecipes$Kitchen", 55, "HighRecipes$Book", "panCount", "I", "HighRecipes") (by decide +kernel))) (fun _ h9 => h9) (v := .int (nI pn)) rfl dX6_begin_36 ?_
      refine lv_icmp_ge (tgt := 74) hx hb dX6_begin_39 (by decide) (fun c_39 => ?_) (fun c_39 => ?_)
      · have ej : j = pn := by rcases Nat.lt_or_ge j pn with h9 | h9; exact absurd c_39 (nI_ge h9 (by omega)); omega
        subst ej
        exact q_vret hx hb hr hlocks hW hS ⟨rfl, rfl⟩ (Nat.le_of_ble_eq_true rfl) (Nat.le_of_ble_eq_true rfl) dX6_begin_74
      · have hlt : j < pn := by rcases Nat.lt_or_ge j pn with h9 | h9; exact h9; exact absurd (nI_le h9 (by omega)) c_39
        refine lv_aload_n hx hb dX6_begin_42 rfl (lv_at hl 0 rfl) ?_
        refine lv_iload_n hx hb dX6_begin_43 rfl (lv_at hl 2 rfl) ?_
        refine q_cq (va_runV (As := [.int (nI j)]) (rest := []) ⟨hx, hb, hml, hown, hts⟩ (kX6_panAt l E (kO E f k nb (z_hdn hd g j) (z_bgn v j)) n k nb (z_hdn hd g j) (z_bgn v j) pn rc ac j ((kO_out hbo).trans hB) kO_K (by assumption) (by assumption) hlt) (cwV 1 hts gX6_begin_X6_panAt rfl rfl rfl (by decide +kernel) ⟨(Nat.le_of_ble_eq_true rfl), (Nat.le_of_ble_eq_true rfl)⟩) (q_pV hA hW hS (ci := 6) rfl kO_0) rfl rfl hl.1 rfl (lv_room (Nat.le_of_ble_eq_true rfl)) dX6_begin_44 ⟨Nat.le_of_ble_eq_true rfl, Nat.le_of_ble_eq_true rfl⟩) hS (fun r_44 f_44 n_44 H locs hp hW hS => ?_)
        obtain ⟨rfl, rfl, rfl⟩ := hp
        have hW : q_W E (kO E f k nb (z_hdn hd g j) (z_bgn v j)) n H := hW
        refine lv_astore_n (lv' := [(3, .ref (k + 12 + j)), (0, .ref k), (1, .ref nb), (2, .int (nI j))]) hx hb dX6_begin_47 rfl hl (by decide) rfl (fun ls hl => ?_)
        refine lv_aload_n hx hb dX6_begin_48 rfl (lv_at hl 0 rfl) ?_
        refine lv_ifnull hx hb dX6_begin_49 ?_
        refine lv_aload_n hx hb dX6_begin_52 rfl (lv_at hl 0 rfl) ?_
        refine q_cv (va_runV (As := []) (rest := []) ⟨hx, hb, hml, hown, hts⟩ (kX7_clear l E (kO E f k nb (z_hdn hd g j) (z_bgn v j)) n (k + 12 + j) ((z_hdn hd g j) j) ((z_bgn v j) (52 + 4 * j)) ((z_bgn v j) (53 + 4 * j)) ((z_bgn v j) (54 + 4 * j)) ((z_bgn v j) (55 + 4 * j)) (kO_p (by omega))) (cwV 0 hts gX6_begin_X7_clear rfl rfl rfl (by decide +kernel) ⟨(Nat.le_of_ble_eq_true rfl), (Nat.le_of_ble_eq_true rfl)⟩) (q_pV hA hW hS (ci := 7) rfl (kO_p (by omega))) rfl rfl hl.1 rfl (lv_room (Nat.le_of_ble_eq_true rfl)) dX6_begin_53 ⟨Nat.le_of_ble_eq_true rfl, Nat.le_of_ble_eq_true rfl⟩) hS (fun f_53 n_53 H locs hp hW hS => ?_)
        obtain ⟨rfl, rfl⟩ := hp
        have hW : q_W E (va_up (kO E f k nb (z_hdn hd g j) (z_bgn v j)) (k + 12 + j) (some (cPan ((z_hdn hd g j) j) 0 0 20 0))) n H := hW
        rw [kO_sq (by omega)] at hW
        have hW : q_W E (kO E f k nb (z_hdn hd g j) (z_pan (z_bgn v j) j 0 0 20 0)) n H := hW
        refine lv_aload_n hx hb dX6_begin_56 rfl (lv_at hl 0 rfl) ?_
        refine lv_aload_n hx hb dX6_begin_57 rfl (lv_at hl 1 rfl) ?_
        refine q_get hx hb hts hown hA hW iX6 kO_0 rfl 4 (by decide) (hts (.fieldLink RX6 34 "HighRecipes$Kitchen" "book" "LHighRecipes$Book;") (by decide +kernel)) (fun _ h9 => h9) (v := .ref nb) rfl dX6_begin_58 ?_
        refine lv_iload_n hx hb dX6_begin_61 rfl (lv_at hl 3 rfl) ?_
        refine q_ci (va_runV (As := [.int (nI j)]) (rest := [.ref (k + 12 + j)]) ⟨hx, hb, hml, hown, hts⟩ (kX2_spoonsOf l E (kO E f k nb (z_hdn hd g j) (z_pan (z_bgn v j) j 0 0 20 0)) n nb (nI pn) rc ac g j ((kO_out hbo).trans hB) ((kO_out hbo2).trans hH) (q_8 hlt hpn)) (cwV 1 hts gX6_begin_X2_spoonsOf rfl rfl rfl (by decide +kernel) ⟨(Nat.le_of_ble_eq_true rfl), (Nat.le_of_ble_eq_true rfl)⟩) (q_pV hA hW hS (ci := 3) rfl ((kO_out hbo).trans hB)) rfl rfl hl.1 rfl (lv_room (Nat.le_of_ble_eq_true rfl)) dX6_begin_62 ⟨Nat.le_of_ble_eq_true rfl, Nat.le_of_ble_eq_true rfl⟩) hS (fun r_62 f_62 n_62 H locs hp hW hS => ?_)
        obtain ⟨rfl, rfl, rfl⟩ := hp
        have hW : q_W E (kO E f k nb (z_hdn hd g j) (z_pan (z_bgn v j) j 0 0 20 0)) n H := hW
        refine q_putN hx hb hts hown hA hW hS iX7 tyX7 tyX7_ok nmX7 (kO_p (by omega)) rfl 0 (by decide) (va_Nw.use rfl (hA.2.2.2.1 ("HighRecipes$Kitchen", 69, "HighRecipes$Pan", "holds", "I", "HighRecipes") (by decide +kernel))) (fun _ h9 => h9) rfl rfl rfl (Nat.le_of_ble_eq_true rfl) dX6_begin_65 (fun H locs hW hS => ?_)
        have hW : q_W E (va_up (kO E f k nb (z_hdn hd g j) (z_pan (z_bgn v j) j 0 0 20 0)) (k + 12 + j) (some (cPan (g j) ((z_pan (z_bgn v j) j 0 0 20 0) (52 + 4 * j)) ((z_pan (z_bgn v j) j 0 0 20 0) (53 + 4 * j)) ((z_pan (z_bgn v j) j 0 0 20 0) (54 + 4 * j)) ((z_pan (z_bgn v j) j 0 0 20 0) (55 + 4 * j))))) n H := hW
        rw [kO_sp (by omega)] at hW
        refine lv_iinc (v := nI (j + 1)) (lv' := [(2, .int (nI (j + 1))), (3, .ref (k + 12 + j)), (0, .ref k), (1, .ref nb)]) hx hb dX6_begin_68 hl (k := 3) rfl (nI_1 j) (by decide) rfl (fun ls hl => ?_)
        refine lv_goto (tgt := 31) hx hb dX6_begin_71 (by decide) ?_
        rw [z_pan_id, z_bgn_s, z_hdn_s] at hW
        exact ih (j + 1) hlt (by omega) _ _ _ hW hS (lv_sub hl [2, 3, 0] rfl)
  rw [z_bgn_0, ← z_hdn_0 (hd := hd) (g := g)] at hW
  exact K31 _ 0 (Nat.zero_le _) (Nat.lt_succ_self _) _ _ _ hW hS (lv_sub hl [1, 2, 0] rfl)

def z_bec (v v2 : Nat → Int32) (j : Nat) : Nat → Int32 := fun q => if q < 4 then v2 q else if q < 12 then 0 else if 52 ≤ q ∧ q < 52 + 4 * j then v2 q else v q
theorem z_bec_0 {v v2 : Nat → Int32} : z_forget (upd (upd (upd (upd v 0 (v2 0)) 1 (v2 1)) 2 (v2 2)) 3 (v2 3)) = z_bec v v2 0 := by
  funext q
  show z_fg _ 6 q = _
  unfold z_fg z_bec
  by_cases h : q < 12
  · rcases (by omega : q = 0 ∨ q = 1 ∨ q = 2 ∨ q = 3 ∨ q = 4 ∨ q = 5 ∨ q = 6 ∨ q = 7 ∨ q = 8 ∨ q = 9 ∨ q = 10 ∨ q = 11) with e | e | e | e | e | e | e | e | e | e | e | e <;> subst e <;> rfl
  · rw [if_neg (by omega), if_neg (by omega), if_neg h, if_neg (by omega), z_un (by omega), z_un (by omega), z_un (by omega), z_un (by omega)]
theorem z_bec_s {v v2 : Nat → Int32} {j : Nat} : z_pan (z_bec v v2 j) j (v2 (52 + 4 * j)) (v2 (53 + 4 * j)) (v2 (54 + 4 * j)) (v2 (55 + 4 * j)) = z_bec v v2 (j + 1) := by
  funext q
  unfold z_pan
  split
  · next e => subst e; unfold z_bec; rw [if_neg (by omega), if_neg (by omega), if_pos (by omega)]
  · split
    · next e => subst e; unfold z_bec; rw [if_neg (by omega), if_neg (by omega), if_pos (by omega)]
    · split
      · next e => subst e; unfold z_bec; rw [if_neg (by omega), if_neg (by omega), if_pos (by omega)]
      · split
        · next e => subst e; unfold z_bec; rw [if_neg (by omega), if_neg (by omega), if_pos (by omega)]
        · unfold z_bec
          by_cases h1 : q < 4
          · rw [if_pos h1, if_pos h1]
          · rw [if_neg h1, if_neg h1]
            by_cases h3 : q < 12
            · rw [if_pos h3, if_pos h3]
            · rw [if_neg h3, if_neg h3]
              by_cases h4 : 52 ≤ q ∧ q < 52 + 4 * j
              · rw [if_pos h4, if_pos (by omega)]
              · rw [if_neg h4, if_neg (by omega)]

set_option maxHeartbeats 4000000 in
set_option maxRecDepth 100000 in
theorem kX6_become (l : Launch) (E : q_E) (f : q_H) (n : Nat) (k bk : Nat) (hd v : Nat → Int32) (k2 bk2 : Nat) (hd2 v2 : Nat → Int32) (pn : Nat) (rc ac : Int32) (hB : f bk2 = some (cBook bk2 (nI pn) rc ac)) (hk : KIT E f k bk hd v) (hk2 : KIT E f k2 bk2 hd2 v2) (hbo : kOut k bk2) (hbo2 : kOut k2 bk2) (hdis : k + 20 ≤ k2 ∨ k2 + 20 ≤ k) (hpn : pn ≤ 8) : Met l yX6_become wsX6_become ({ frames := 2, cells := 0, slots := 0, locals := 41 }) (q_P E [.ref k, .ref k2] f n) (q_Qv E (fun f1 n1 => kO E f k bk2 (z_hdn hd hd2 pn) (z_bec v v2 pn) = f1 ∧ n = n1)) 0 0 (q_ge E) := by
  refine Met.ofW (cc := cX6_become) (maxL := 5) (ret := none) (by decide) rfl ?_
  intro p e s m args below meth c s₁ B hml hv
  obtain ⟨rfl, hA, hW⟩ := hv
  have hx := B.exec
  have hb := B.bytes
  have hr := B.returns
  have hts := atoms_spec (ws := wsX6_become) B.pre
  have hown : s.vm.findClass RX6 = some m.cls := findClass_of_methodNamed B.named
  have hlocks := B.notSynchronized
  have hS : va_S (q_ge E) s.heap s.heap [] := va_S.rf
  have iX2 : ∀ w ∈ wsX20, w ∈ wsX6_become := by decide +kernel
  have iX6 : ∀ w ∈ wsX60, w ∈ wsX6_become := by decide +kernel
  have hl := lv_entry ([.ref k, .ref k2]) (n := 5) (Nat.le_of_ble_eq_true rfl)
  rw [lg_entry_eq]
  generalize (lg_sl ([.ref k, .ref k2]) ++ List.replicate (5 - (lg_sl ([.ref k, .ref k2])).length) Slot.unset).toArray = ls at hl ⊢
  have hl : lv_has ls 5 [(0, .ref k), (1, .ref k2)] := hl
  rw [hk.eq] at hW
  refine lv_aload_n hx hb dX6_become_0 rfl (lv_at hl 0 rfl) ?_
  refine lv_aload_n hx hb dX6_become_1 rfl (lv_at hl 1 rfl) ?_
  refine q_get hx hb hts hown hA hW iX6 ((kO_out (by unfold kOut; omega)).trans hk2.g0) rfl 4 (by decide) (hts (.fieldLink RX6 34 "HighRecipes$Kitchen" "book" "LHighRecipes$Book;") (by decide +kernel)) (fun _ h9 => h9) (v := .ref bk2) rfl dX6_become_2 ?_
  refine q_put hx hb hts hown hA hW hS iX6 tyX6 tyX6_ok nmX6 kO_0 rfl 4 (by decide) (hts (.fieldLink RX6 34 "HighRecipes$Kitchen" "book" "LHighRecipes$Book;") (by decide +kernel)) (fun _ h9 => h9) rfl rfl rfl (Nat.le_of_ble_eq_true rfl) dX6_become_5 (fun H locs hW hS => ?_)
  have hW : q_W E (va_up (kO E f k bk hd v) k (some (cKit k bk2 v))) n H := hW
  rw [kO_s0 (fun j hj => rfl)] at hW
  refine lv_aload_n hx hb dX6_become_8 rfl (lv_at hl 0 rfl) ?_
  refine lv_aload_n hx hb dX6_become_9 rfl (lv_at hl 1 rfl) ?_
  refine q_get hx hb hts hown hA hW iX6 ((kO_out (by unfold kOut; omega)).trans hk2.g0) rfl 5 (by decide) (hts (.fieldLink RX6 46 "HighRecipes$Kitchen" "altitude" "I") (by decide +kernel)) (fun _ h9 => h9) (v := .int (v2 0)) rfl dX6_become_10 ?_
  refine q_put hx hb hts hown hA hW hS iX6 tyX6 tyX6_ok nmX6 kO_0 rfl 5 (by decide) (hts (.fieldLink RX6 46 "HighRecipes$Kitchen" "altitude" "I") (by decide +kernel)) (fun _ h9 => h9) rfl rfl rfl (Nat.le_of_ble_eq_true rfl) dX6_become_13 (fun H locs hW hS => ?_)
  have hW : q_W E (va_up (kO E f k bk2 hd v) k (some (cKit k bk2 (upd v 0 (v2 0))))) n H := hW
  rw [kO_s0 (fun j hj => z_un (by omega))] at hW
  refine lv_aload_n hx hb dX6_become_16 rfl (lv_at hl 0 rfl) ?_
  refine lv_aload_n hx hb dX6_become_17 rfl (lv_at hl 1 rfl) ?_
  refine q_get hx hb hts hown hA hW iX6 ((kO_out (by unfold kOut; omega)).trans hk2.g0) rfl 6 (by decide) (hts (.fieldLink RX6 38 "HighRecipes$Kitchen" "servings" "I") (by decide +kernel)) (fun _ h9 => h9) (v := .int (v2 1)) rfl dX6_become_18 ?_
  refine q_put hx hb hts hown hA hW hS iX6 tyX6 tyX6_ok nmX6 kO_0 rfl 6 (by decide) (hts (.fieldLink RX6 38 "HighRecipes$Kitchen" "servings" "I") (by decide +kernel)) (fun _ h9 => h9) rfl rfl rfl (Nat.le_of_ble_eq_true rfl) dX6_become_21 (fun H locs hW hS => ?_)
  have hW : q_W E (va_up (kO E f k bk2 hd (upd v 0 (v2 0))) k (some (cKit k bk2 (upd (upd v 0 (v2 0)) 1 (v2 1))))) n H := hW
  rw [kO_s0 (fun j hj => z_un (by omega))] at hW
  refine lv_aload_n hx hb dX6_become_24 rfl (lv_at hl 0 rfl) ?_
  refine lv_aload_n hx hb dX6_become_25 rfl (lv_at hl 1 rfl) ?_
  refine q_get hx hb hts hown hA hW iX6 ((kO_out (by unfold kOut; omega)).trans hk2.g0) rfl 7 (by decide) (hts (.fieldLink RX6 42 "HighRecipes$Kitchen" "spoon" "I") (by decide +kernel)) (fun _ h9 => h9) (v := .int (v2 2)) rfl dX6_become_26 ?_
  refine q_put hx hb hts hown hA hW hS iX6 tyX6 tyX6_ok nmX6 kO_0 rfl 7 (by decide) (hts (.fieldLink RX6 42 "HighRecipes$Kitchen" "spoon" "I") (by decide +kernel)) (fun _ h9 => h9) rfl rfl rfl (Nat.le_of_ble_eq_true rfl) dX6_become_29 (fun H locs hW hS => ?_)
  have hW : q_W E (va_up (kO E f k bk2 hd (upd (upd v 0 (v2 0)) 1 (v2 1))) k (some (cKit k bk2 (upd (upd (upd v 0 (v2 0)) 1 (v2 1)) 2 (v2 2))))) n H := hW
  rw [kO_s0 (fun j hj => z_un (by omega))] at hW
  refine lv_aload_n hx hb dX6_become_32 rfl (lv_at hl 0 rfl) ?_
  refine lv_aload_n hx hb dX6_become_33 rfl (lv_at hl 1 rfl) ?_
  refine q_get hx hb hts hown hA hW iX6 ((kO_out (by unfold kOut; omega)).trans hk2.g0) rfl 8 (by decide) (hts (.fieldLink RX6 49 "HighRecipes$Kitchen" "minute" "I") (by decide +kernel)) (fun _ h9 => h9) (v := .int (v2 3)) rfl dX6_become_34 ?_
  refine q_put hx hb hts hown hA hW hS iX6 tyX6 tyX6_ok nmX6 kO_0 rfl 8 (by decide) (hts (.fieldLink RX6 49 "HighRecipes$Kitchen" "minute" "I") (by decide +kernel)) (fun _ h9 => h9) rfl rfl rfl (Nat.le_of_ble_eq_true rfl) dX6_become_37 (fun H locs hW hS => ?_)
  have hW : q_W E (va_up (kO E f k bk2 hd (upd (upd (upd v 0 (v2 0)) 1 (v2 1)) 2 (v2 2))) k (some (cKit k bk2 (upd (upd (upd (upd v 0 (v2 0)) 1 (v2 1)) 2 (v2 2)) 3 (v2 3))))) n H := hW
  rw [kO_s0 (fun j hj => z_un (by omega))] at hW
  refine lv_aload_n hx hb dX6_become_40 rfl (lv_at hl 0 rfl) ?_
  refine q_cv (va_runV (As := []) (rest := []) ⟨hx, hb, hml, hown, hts⟩ (kX6_forget l E (kO E f k bk2 hd (upd (upd (upd (upd v 0 (v2 0)) 1 (v2 1)) 2 (v2 2)) 3 (v2 3))) n k bk2 hd (upd (upd (upd (upd v 0 (v2 0)) 1 (v2 1)) 2 (v2 2)) 3 (v2 3)) kO_K) (cwV 0 hts gX6_become_X6_forget rfl rfl rfl (by decide +kernel) ⟨(Nat.le_of_ble_eq_true rfl), (Nat.le_of_ble_eq_true rfl)⟩) (q_pV hA hW hS (ci := 6) rfl kO_0) rfl rfl hl.1 rfl (lv_room (Nat.le_of_ble_eq_true rfl)) dX6_become_41 ⟨Nat.le_of_ble_eq_true rfl, Nat.le_of_ble_eq_true rfl⟩) hS (fun f_41 n_41 H locs hp hW hS => ?_)
  obtain ⟨rfl, rfl⟩ := hp
  rw [kO_kO] at hW
  have hW : q_W E (kO E f k bk2 hd (z_forget (upd (upd (upd (upd v 0 (v2 0)) 1 (v2 1)) 2 (v2 2)) 3 (v2 3)))) n H := hW
  refine lv_iconst (v := 0) hx hb dX6_become_44 (by decide) ?_
  refine lv_istore_n (lv' := [(2, .int 0), (0, .ref k), (1, .ref k2)]) hx hb dX6_become_45 rfl hl (by decide) rfl (fun ls hl => ?_)
  have K46 : ∀ (fu : Nat) (j : Nat) (hj : j ≤ pn) (hm : pn - j < fu) (H : Heap) (locs : List Loc) (ls : Array Slot), q_W E (kO E f k bk2 (z_hdn hd hd2 j) (z_bec v v2 j)) n H → va_S (q_ge E) s.heap H locs → lv_has ls 5 [(0, .ref k), (1, .ref k2), (2, .int (nI j))] → W p l e (headSpec wsX6_become ({ frames := 2, cells := 0, slots := 0, locals := 41 })).room s m ([.ref k, .ref k2] : List Value).toArray below meth c H locs 0 0 (MQ below (q_Qv E (fun f1 n1 => kO E f k bk2 (z_hdn hd hd2 pn) (z_bec v v2 pn) = f1 ∧ n = n1)) ([.ref k, .ref k2] : List Value).toArray s 0 0 (q_ge E)) (F0 m 46 ls []) := by
    intro fu
    induction fu with
    | zero =>
      intro j hj hm
      exact absurd hm (Nat.not_lt_zero _)
    | succ fu ih =>
      intro j hj hm H locs ls hW hS hl
      refine lv_iload_n hx hb dX6_become_46 rfl (lv_at hl 2 rfl) ?_
      refine lv_aload_n hx hb dX6_become_47 rfl (lv_at hl 0 rfl) ?_
      refine q_get hx hb hts hown hA hW iX6 kO_0 rfl 4 (by decide) (hts (.fieldLink RX6 34 "HighRecipes$Kitchen" "book" "LHighRecipes$Book;") (by decide +kernel)) (fun _ h9 => h9) (v := .ref bk2) rfl dX6_become_48 ?_
      refine q_getN hx hb hts hown hA hW iX2 ((kO_out hbo).trans hB) rfl 4 (by decide) (va_Nw.use rfl (hA.2.2.2.1 ("HighRecipes$Kitchen", 55, "HighRecipes$Book", "panCount", "I", "HighRecipes") (by decide +kernel))) (fun _ h9 => h9) (v := .int (nI pn)) rfl dX6_become_51 ?_
      refine lv_icmp_ge (tgt := 91) hx hb dX6_become_54 (by decide) (fun c_54 => ?_) (fun c_54 => ?_)
      · have ej : j = pn := by rcases Nat.lt_or_ge j pn with h9 | h9; exact absurd c_54 (nI_ge h9 (by omega)); omega
        subst ej
        exact q_vret hx hb hr hlocks hW hS ⟨rfl, rfl⟩ (Nat.le_of_ble_eq_true rfl) (Nat.le_of_ble_eq_true rfl) dX6_become_91
      · have hlt : j < pn := by rcases Nat.lt_or_ge j pn with h9 | h9; exact h9; exact absurd (nI_le h9 (by omega)) c_54
        refine lv_aload_n hx hb dX6_become_57 rfl (lv_at hl 0 rfl) ?_
        refine lv_iload_n hx hb dX6_become_58 rfl (lv_at hl 2 rfl) ?_
        refine q_cq (va_runV (As := [.int (nI j)]) (rest := []) ⟨hx, hb, hml, hown, hts⟩ (kX6_panAt l E (kO E f k bk2 (z_hdn hd hd2 j) (z_bec v v2 j)) n k bk2 (z_hdn hd hd2 j) (z_bec v v2 j) pn rc ac j ((kO_out hbo).trans hB) kO_K (by assumption) (by assumption) hlt) (cwV 1 hts gX6_become_X6_panAt rfl rfl rfl (by decide +kernel) ⟨(Nat.le_of_ble_eq_true rfl), (Nat.le_of_ble_eq_true rfl)⟩) (q_pV hA hW hS (ci := 6) rfl kO_0) rfl rfl hl.1 rfl (lv_room (Nat.le_of_ble_eq_true rfl)) dX6_become_59 ⟨Nat.le_of_ble_eq_true rfl, Nat.le_of_ble_eq_true rfl⟩) hS (fun r_59 f_59 n_59 H locs hp hW hS => ?_)
        obtain ⟨rfl, rfl, rfl⟩ := hp
        have hW : q_W E (kO E f k bk2 (z_hdn hd hd2 j) (z_bec v v2 j)) n H := hW
        refine lv_astore_n (lv' := [(3, .ref (k + 12 + j)), (0, .ref k), (1, .ref k2), (2, .int (nI j))]) hx hb dX6_become_62 rfl hl (by decide) rfl (fun ls hl => ?_)
        refine lv_aload_n hx hb dX6_become_63 rfl (lv_at hl 2 rfl) ?_
        refine lv_iload_n hx hb dX6_become_64 rfl (lv_at hl 3 rfl) ?_
        refine q_cq (va_runV (As := [.int (nI j)]) (rest := []) ⟨hx, hb, hml, hown, hts⟩ (kX6_panAt l E (kO E f k bk2 (z_hdn hd hd2 j) (z_bec v v2 j)) n k2 bk2 hd2 v2 pn rc ac j ((kO_out hbo).trans hB) (hk2.other (fun q hq => kO_out (by unfold kOut at *; omega))) hbo2 (by assumption) hlt) (cwV 1 hts gX6_become_X6_panAt rfl rfl rfl (by decide +kernel) ⟨(Nat.le_of_ble_eq_true rfl), (Nat.le_of_ble_eq_true rfl)⟩) (q_pV hA hW hS (ci := 6) rfl ((kO_out (by unfold kOut; omega)).trans hk2.g0)) rfl rfl hl.1 rfl (lv_room (Nat.le_of_ble_eq_true rfl)) dX6_become_65 ⟨Nat.le_of_ble_eq_true rfl, Nat.le_of_ble_eq_true rfl⟩) hS (fun r_65 f_65 n_65 H locs hp hW hS => ?_)
        obtain ⟨rfl, rfl, rfl⟩ := hp
        have hW : q_W E (kO E f k bk2 (z_hdn hd hd2 j) (z_bec v v2 j)) n H := hW
        refine lv_astore (lv' := [(4, .ref (k2 + 12 + j)), (3, .ref (k + 12 + j)), (0, .ref k), (1, .ref k2), (2, .int (nI j))]) hx hb dX6_become_68 hl (by decide) rfl (fun ls hl => ?_)
        refine lv_aload_n hx hb dX6_become_70 rfl (lv_at hl 1 rfl) ?_
        refine lv_ifnull hx hb dX6_become_71 ?_
        refine lv_aload hx hb dX6_become_74 (lv_at hl 0 rfl) ?_
        refine lv_ifnull hx hb dX6_become_76 ?_
        refine lv_aload_n hx hb dX6_become_79 rfl (lv_at hl 1 rfl) ?_
        refine lv_aload hx hb dX6_become_80 (lv_at hl 0 rfl) ?_
        refine q_cv (va_runV (As := [.ref (k2 + 12 + j)]) (rest := []) ⟨hx, hb, hml, hown, hts⟩ (kX7_become l E (kO E f k bk2 (z_hdn hd hd2 j) (z_bec v v2 j)) n (k + 12 + j) (k2 + 12 + j) ((z_hdn hd hd2 j) j) ((z_bec v v2 j) (52 + 4 * j)) ((z_bec v v2 j) (53 + 4 * j)) ((z_bec v v2 j) (54 + 4 * j)) ((z_bec v v2 j) (55 + 4 * j)) (hd2 j) (v2 (52 + 4 * j)) (v2 (53 + 4 * j)) (v2 (54 + 4 * j)) (v2 (55 + 4 * j)) (kO_p (by omega)) ((kO_out (by unfold kOut; omega)).trans (hk2.gp (q_8 hlt hpn))) (by omega)) (cwV 1 hts gX6_become_X7_become rfl rfl rfl (by decide +kernel) ⟨(Nat.le_of_ble_eq_true rfl), (Nat.le_of_ble_eq_true rfl)⟩) (q_pV hA hW hS (ci := 7) rfl (kO_p (by omega))) rfl rfl hl.1 rfl (lv_room (Nat.le_of_ble_eq_true rfl)) dX6_become_82 ⟨Nat.le_of_ble_eq_true rfl, Nat.le_of_ble_eq_true rfl⟩) hS (fun f_82 n_82 H locs hp hW hS => ?_)
        obtain ⟨rfl, rfl⟩ := hp
        have hW : q_W E (va_up (kO E f k bk2 (z_hdn hd hd2 j) (z_bec v v2 j)) (k + 12 + j) (some (cPan (hd2 j) (v2 (52 + 4 * j)) (v2 (53 + 4 * j)) (v2 (54 + 4 * j)) (v2 (55 + 4 * j))))) n H := hW
        rw [kO_sp (by omega)] at hW
        have hW : q_W E (kO E f k bk2 (upd (z_hdn hd hd2 j) j (hd2 j)) (z_pan (z_bec v v2 j) j (v2 (52 + 4 * j)) (v2 (53 + 4 * j)) (v2 (54 + 4 * j)) (v2 (55 + 4 * j)))) n H := hW
        refine lv_iinc (v := nI (j + 1)) (lv' := [(2, .int (nI (j + 1))), (4, .ref (k2 + 12 + j)), (3, .ref (k + 12 + j)), (0, .ref k), (1, .ref k2)]) hx hb dX6_become_85 hl (k := 4) rfl (nI_1 j) (by decide) rfl (fun ls hl => ?_)
        refine lv_goto (tgt := 46) hx hb dX6_become_88 (by decide) ?_
        rw [z_bec_s, z_hdn_s] at hW
        exact ih (j + 1) hlt (by omega) _ _ _ hW hS (lv_sub hl [3, 4, 0] rfl)
  rw [z_bec_0, ← z_hdn_0 (hd := hd) (g := hd2)] at hW
  exact K46 _ 0 (Nat.zero_le _) (Nat.lt_succ_self _) _ _ _ hW hS (lv_sub hl [1, 2, 0] rfl)

