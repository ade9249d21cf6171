/-! the reference's face, but for its book -/
section QCP
variable {p : Program} {l : Launch} {e : Env} {R : Room} {s : State} {m : MethodId} {args : Array Value} {below : List Frame} {meth : Method} {c : Code} {H : Heap} {locs : List Loc} {cells slots : Nat} {Q : State → Prop}
variable {cc : ByteArray} {pc : Nat} {ls : Array Slot} {rest : List Value} {E : q_E} {f : q_H} {n a : Nat}
/-- a whole row of ints over another of its length -/
theorem q_cpy (hx : p.tables.exec = Jvm.exec) (hb : c.code = cc) (hml : c.maxLocals = ls.size) {own : String} {index : Nat} (hown : s.vm.findClass own = some m.cls) (hlink : (Cond.methodLink own index arraycopyName).before args s = true) (hnat : (Cond.native arraycopyName).before args s = true) (hstat : (Cond.static arraycopyName).before args s = true) (hini : (Cond.initialized "java/lang/System").before args s = true)
    (hA : q_A E s) (hW : q_W E f n H) (hS : va_S (q_ge E) s.heap H locs) {a0 N : Nat} {g0 g : Nat → Int32} (he0 : f a0 = some (aI E N g0)) (he : f a = some (aI E N g)) {k : Int32} (hk : k = nI N) (hN : N < 2 ^ 31)
    (hframes : 1 ≤ R.frames) (hlocals : (rest.map fun v => v.category).sum + (nativeFrameWords "java/lang/System" "arraycopy" 5 + 11) ≤ R.locals) (hdg : decode cc pc = .ok (.invokestatic index, 3))
    (kk : ∀ (H1 : Heap) (locs1 : List Loc), q_W E (va_up f a (some (aI E N g0))) n H1 → va_S (q_ge E) s.heap H1 locs1 → W p l e R s m args below meth c H1 locs1 cells slots Q (F0 m (pc + 3) ls rest)) : W p l e R s m args below meth c H locs cells slots Q (F0 m pc ls (.int k :: .int 0 :: .ref a :: .int 0 :: .ref a0 :: rest)) := by
  subst hk
  intro T hT X
  have hc0 : H[a0]? = some (vp_cell (E.2.1 0) (N, .inl g0)) := (hW.2.2 a0 _ he0).2
  have hc1 : H[a]? = some (vp_cell (E.2.1 0) (N, .inl g)) := (hW.2.2 a _ he).2
  obtain ⟨-, k0, hk0, cm0, hkk0⟩ := (hA.1.2 0 _ rfl).1 N (fun j => .int (g0 j))
  obtain ⟨-, k1, hk1, cm1, hkk1⟩ := (hA.1.2 0 _ rfl).1 N (fun j => .int (g j))
  have ek : (nI N).toNatClampNeg = N := nI_clamp hN
  have ei : (nI N).toInt = (N : Int) := nI_toInt hN
  obtain ⟨vm', X', step⟩ := X.arraycopy hx hown hlink hnat hstat hini (src := a0) (dst := a) (cs := vp_cell (E.2.1 0) (N, .inl g0)) (cd := vp_cell (E.2.1 0) (N, .inl g)) (srcPos := 0) (destPos := 0) (n := nI N) (by rw [hT]; exact hc0) (by rw [hT]; exact hc1)
    (fun _ h => by cases h) (fun _ h => by cases h) (fun h => by cases h) (fun h => by cases h) hk0 hk1 hkk0 hkk1 (by simp [refKind]) (by decide) (by decide) (nI_pos hN)
    (by rw [ei, show (0 : Int32).toInt = 0 from rfl]; show ¬ _ > ((arrV _ N (fun j => .int (g0 j))).slots.size : Int); rw [arrV_size]; omega)
    (by rw [ei, show (0 : Int32).toInt = 0 from rfl]; show ¬ _ > ((arrV _ N (fun j => .int (g j))).slots.size : Int); rw [arrV_size]; omega)
    (fun vm₁ _ i hi => by
      rw [ek] at hi
      have z : (0 : Int32).toNatClampNeg = 0 := rfl
      have e : (vp_cell (E.2.1 0) (N, .inl g0)).slots.getD ((0 : Int32).toNatClampNeg + i) .null = .int (g0 i) := by
        show (arrV _ N (fun j => .int (g0 j))).slots.getD _ _ = _
        rw [z, Nat.zero_add, Array.getD_eq_getD_getElem?, arrV_read _ _ hi]
        rfl
      refine ⟨?_, ?_⟩
      · rw [e]
        rfl
      · rw [e]
        exact trivial)
    (g := F0 m pc ls (.int (nI N) :: .int 0 :: .ref a :: .int 0 :: .ref a0 :: rest)) rfl (by rw [hml]) (rest := rest) rfl (by rw [hb]; exact hdg) hframes (by show 2 * 0 + _ + _ ≤ _; omega)
  have e1 : copied (vp_cell (E.2.1 0) (N, .inl g0)) (vp_cell (E.2.1 0) (N, .inl g)) 0 0 (nI N) = vp_cell (E.2.1 0) (N, .inl g0) := by
    have z : copied (vp_cell (E.2.1 0) (N, .inl g0)) (vp_cell (E.2.1 0) (N, .inl g)) 0 0 (nI N) = vp_cell (E.2.1 0) (N, .inl (va_cpy g0 g (0 : Int32).toNatClampNeg (0 : Int32).toNatClampNeg (nI N).toNatClampNeg)) := va_copied (fun z => .int z) (E.2.1 0) (E.2.1 0) g0 g (show (0 : Int32).toNatClampNeg + (nI N).toNatClampNeg ≤ N by rw [ek]; show 0 + N ≤ N; omega)
    refine z.trans ?_
    rw [vp_cell_i, vp_cell_i]
    refine arrV_cong (fun i hi => ?_)
    show Value.int (va_cpy g0 g 0 0 (nI N).toNatClampNeg i) = Value.int (g0 i)
    rw [ek, pk_cpy_in (by omega) (by omega)]
    congr 2
    omega
  rw [e1] at X' step
  have hl : a < H.size := (Array.getElem?_eq_some_iff.mp hc1).1
  have hheap : ((T.setVm vm').setCell a (vp_cell (E.2.1 0) (N, .inl g0))).heap = H.setIfInBounds a (vp_cell (E.2.1 0) (N, .inl g0)) := by rw [← hT]; rfl
  have oq : ∀ q : Nat, q ≠ a → (H.setIfInBounds a (vp_cell (E.2.1 0) (N, .inl g0)))[q]? = H[q]? := fun q hq => by simp [Array.getElem?_setIfInBounds, Ne.symm hq]
  have hz : (H.setIfInBounds a (vp_cell (E.2.1 0) (N, .inl g0))).size = H.size := by simp
  obtain ⟨t, a1, b1⟩ := kk _ _ (hW.set he (show (H.setIfInBounds a _)[a]? = some _ by simp [Array.getElem?_setIfInBounds, hl]) hz oq) ⟨by rw [hz]; exact hS.1, fun q g1 g2 => by
      rw [oq q (fun e => g2 (by rw [e]; exact hW.ge he))]
      exact hS.2.1 q g1 g2, fun q hq => by
      rcases List.mem_append.mp hq with h | h
      · exact hS.2.2 q h
      · obtain ⟨z, -, hz⟩ := List.mem_map.mp h
        rw [← hz]
        exact hW.ge he⟩ _ hheap X'
  exact ⟨t, step t a1, b1⟩
end QCP
theorem b_in_T {x lo hi : Int32} (h : b_in x lo hi = true) : ¬ x < lo ∧ ¬ hi < x := by simpa [b_in] using h
theorem b_in_ix {i pn : Nat} (hi : i < pn) (hp : pn ≤ 2 ^ 20) : b_in (nI i) 0 (nI pn - 1) = true := by
  rw [show (1 : Int32) = nI 1 from rfl, pk_sub (by omega)]
  unfold b_in
  rw [decide_eq_false (nI_pos (by omega)), decide_eq_false (nI_nlt (by omega) (by omega))]
  rfl
theorem b_in_no {x : Int32} {pn : Nat} (h : x < 0 ∨ nI pn ≤ x) (hp : pn ≤ 2 ^ 20) : b_in x 0 (nI pn - 1) = false := by
  unfold b_in
  rcases h with h | h
  · rw [decide_eq_true h]; rfl
  · rcases Nat.eq_zero_or_pos pn with e | e
    · subst e
      by_cases h0 : x < 0
      · rw [decide_eq_true h0]; rfl
      · rw [decide_eq_true (show nI 0 - 1 < x from Int32.lt_of_lt_of_le (by decide) (Int32.not_lt.mp h0))]; simp
    · rw [show (1 : Int32) = nI 1 from rfl, pk_sub e, decide_eq_true (Int32.lt_of_lt_of_le (nI_lt (a := pn - 1) (by omega) (by omega)) h)]
      simp
theorem b01_T {b : Bool} (h : b = true) : ¬ b01 b = 0 := by subst h; decide
theorem b01_F {b : Bool} (h : b = false) : b01 b = 0 := by subst h; rfl

set_option maxHeartbeats 4000000 in
set_option maxRecDepth 100000 in
theorem kX14_keep (l : Launch) (E : q_E) (f : q_H) (n : Nat) (M : Nat) (r : q_R)  (hm : RM E f M r) : Met l yX14_keep wsX14_keep ({ frames := 1, cells := 0, slots := 0, locals := 60 }) (q_P E [.ref M] f n) (q_Qv E (fun f1 n1 => rO E f M (rp r 43 (r 42)) = f1 ∧ n = n1)) 0 0 (q_ge E) := by
  refine Met.ofW (cc := cX14_keep) (maxL := 1) (ret := none) (by decide) rfl ?_
  intro p e s m args below meth c s₁ B hml hv
  obtain ⟨rfl, hA, hW⟩ := hv
  have hx := B.exec
  have hb := B.bytes
  have hr := B.returns
  have hts := atoms_spec (ws := wsX14_keep) B.pre
  have hown : s.vm.findClass RX14 = some m.cls := findClass_of_methodNamed B.named
  have hlocks := B.notSynchronized
  have hS : va_S (q_ge E) s.heap s.heap [] := va_S.rf
  have iX14 : ∀ w ∈ wsX140, w ∈ wsX14_keep := by decide +kernel
  have hl := lv_entry ([.ref M]) (n := 1) (Nat.le_of_ble_eq_true rfl)
  rw [lg_entry_eq]
  generalize (lg_sl ([.ref M]) ++ List.replicate (1 - (lg_sl ([.ref M])).length) Slot.unset).toArray = ls at hl ⊢
  have hl : lv_has ls 1 [(0, .ref M)] := hl
  have hmE := hm.eq
  rw [hm.eq] at hW
  refine lv_aload_n hx hb dX14_keep_0 rfl (lv_at hl 0 rfl) ?_
  refine q_get hx hb hts hown hA hW iX14 rO_0 rfl 19 (by decide) (hts (.fieldLink RX14 45 "HighRecipesModel" "now" "[I") (by decide +kernel)) (fun _ h9 => h9) (v := .ref (M + 42)) rfl dX14_keep_1 ?_
  refine lv_iconst (v := 0) hx hb dX14_keep_4 (by decide) ?_
  refine lv_aload_n hx hb dX14_keep_5 rfl (lv_at hl 0 rfl) ?_
  refine q_get hx hb hts hown hA hW iX14 rO_0 rfl 20 (by decide) (hts (.fieldLink RX14 48 "HighRecipesModel" "kept" "[I") (by decide +kernel)) (fun _ h9 => h9) (v := .ref (M + 43)) rfl dX14_keep_6 ?_
  refine lv_iconst (v := 0) hx hb dX14_keep_9 (by decide) ?_
  refine lv_bipush (v := 84) hx hb dX14_keep_10 (by decide) ?_
  refine q_cpy hx hb (hml.trans hl.1.symm) hown (hts (.methodLink RX14 353 arraycopyName) (by decide +kernel)) (hts (.native arraycopyName) (by decide +kernel)) (hts (.static arraycopyName) (by decide +kernel)) (hts (.initialized "java/lang/System") (by decide +kernel)) hA hW hS (rO_42 rfl) (rO_43 rfl) rfl (by decide) (Nat.le_of_ble_eq_true rfl) (by decide +kernel) dX14_keep_12 (fun H locs hW hS => ?_)
  have hW := q_sa 43 hW rfl rfl
  exact q_vret hx hb hr hlocks hW hS ⟨rfl, rfl⟩ (Nat.le_of_ble_eq_true rfl) (Nat.le_of_ble_eq_true rfl) dX14_keep_15

set_option maxHeartbeats 4000000 in
set_option maxRecDepth 100000 in
theorem kX14_bringBack (l : Launch) (E : q_E) (f : q_H) (n : Nat) (M : Nat) (r : q_R)  (hm : RM E f M r) : Met l yX14_bringBack wsX14_bringBack ({ frames := 1, cells := 0, slots := 0, locals := 60 }) (q_P E [.ref M] f n) (q_Qv E (fun f1 n1 => rO E f M (rp r 42 (r 43)) = f1 ∧ n = n1)) 0 0 (q_ge E) := by
  refine Met.ofW (cc := cX14_bringBack) (maxL := 1) (ret := none) (by decide) rfl ?_
  intro p e s m args below meth c s₁ B hml hv
  obtain ⟨rfl, hA, hW⟩ := hv
  have hx := B.exec
  have hb := B.bytes
  have hr := B.returns
  have hts := atoms_spec (ws := wsX14_bringBack) B.pre
  have hown : s.vm.findClass RX14 = some m.cls := findClass_of_methodNamed B.named
  have hlocks := B.notSynchronized
  have hS : va_S (q_ge E) s.heap s.heap [] := va_S.rf
  have iX14 : ∀ w ∈ wsX140, w ∈ wsX14_bringBack := by decide +kernel
  have hl := lv_entry ([.ref M]) (n := 1) (Nat.le_of_ble_eq_true rfl)
  rw [lg_entry_eq]
  generalize (lg_sl ([.ref M]) ++ List.replicate (1 - (lg_sl ([.ref M])).length) Slot.unset).toArray = ls at hl ⊢
  have hl : lv_has ls 1 [(0, .ref M)] := hl
  have hmE := hm.eq
  rw [hm.eq] at hW
  refine lv_aload_n hx hb dX14_bringBack_0 rfl (lv_at hl 0 rfl) ?_
  refine q_get hx hb hts hown hA hW iX14 rO_0 rfl 20 (by decide) (hts (.fieldLink RX14 48 "HighRecipesModel" "kept" "[I") (by decide +kernel)) (fun _ h9 => h9) (v := .ref (M + 43)) rfl dX14_bringBack_1 ?_
  refine lv_iconst (v := 0) hx hb dX14_bringBack_4 (by decide) ?_
  refine lv_aload_n hx hb dX14_bringBack_5 rfl (lv_at hl 0 rfl) ?_
  refine q_get hx hb hts hown hA hW iX14 rO_0 rfl 19 (by decide) (hts (.fieldLink RX14 45 "HighRecipesModel" "now" "[I") (by decide +kernel)) (fun _ h9 => h9) (v := .ref (M + 42)) rfl dX14_bringBack_6 ?_
  refine lv_iconst (v := 0) hx hb dX14_bringBack_9 (by decide) ?_
  refine lv_bipush (v := 84) hx hb dX14_bringBack_10 (by decide) ?_
  refine q_cpy hx hb (hml.trans hl.1.symm) hown (hts (.methodLink RX14 353 arraycopyName) (by decide +kernel)) (hts (.native arraycopyName) (by decide +kernel)) (hts (.static arraycopyName) (by decide +kernel)) (hts (.initialized "java/lang/System") (by decide +kernel)) hA hW hS (rO_43 rfl) (rO_42 rfl) rfl (by decide) (Nat.le_of_ble_eq_true rfl) (by decide +kernel) dX14_bringBack_12 (fun H locs hW hS => ?_)
  have hW := q_sa 42 hW rfl rfl
  exact q_vret hx hb hr hlocks hW hS ⟨rfl, rfl⟩ (Nat.le_of_ble_eq_true rfl) (Nat.le_of_ble_eq_true rfl) dX14_bringBack_15

set_option maxHeartbeats 4000000 in
set_option maxRecDepth 100000 in
theorem kX14_isPan (l : Launch) (E : q_E) (f : q_H) (n : Nat) (M : Nat) (r : q_R) (pn : Nat) (x : Int32)  (hm : RM E f M r) (hpn9 : (r 120 0) = nI pn) : Met l yX14_isPan wsX14_isPan ({ frames := 1, cells := 0, slots := 0, locals := 22 }) (q_P E [.ref M, .int x] f n) (q_Qi E (fun r0 f1 n1 => b01 (b_in x 0 (nI pn - 1)) = r0 ∧ f = f1 ∧ n = n1)) 0 0 (q_ge E) := by
  refine Met.ofW (cc := cX14_isPan) (maxL := 2) (ret := (some .boolean)) (by decide) rfl ?_
  intro p e s m args below meth c s₁ B hml hv
  obtain ⟨rfl, hA, hW⟩ := hv
  have hx := B.exec
  have hb := B.bytes
  have hr := B.returns
  have hts := atoms_spec (ws := wsX14_isPan) B.pre
  have hown : s.vm.findClass RX14 = some m.cls := findClass_of_methodNamed B.named
  have hlocks := B.notSynchronized
  have hS : va_S (q_ge E) s.heap s.heap [] := va_S.rf
  have iX13 : ∀ w ∈ wsX130, w ∈ wsX14_isPan := by decide +kernel
  have iX14 : ∀ w ∈ wsX140, w ∈ wsX14_isPan := by decide +kernel
  have hl := lv_entry ([.ref M, .int x]) (n := 2) (Nat.le_of_ble_eq_true rfl)
  rw [lg_entry_eq]
  generalize (lg_sl ([.ref M, .int x]) ++ List.replicate (2 - (lg_sl ([.ref M, .int x])).length) Slot.unset).toArray = ls at hl ⊢
  have hl : lv_has ls 2 [(0, .ref M), (1, .int x)] := hl
  have hmE := hm.eq
  rw [hm.eq] at hW
  refine lv_iload_n hx hb dX14_isPan_0 rfl (lv_at hl 1 rfl) ?_
  refine lv_iconst (v := 0) hx hb dX14_isPan_1 (by decide) ?_
  refine lv_aload_n hx hb dX14_isPan_2 rfl (lv_at hl 0 rfl) ?_
  refine q_get hx hb hts hown hA hW iX14 rO_0 rfl 17 (by decide) (hts (.fieldLink RX14 38 "HighRecipesModel" "told" "LHighRecipesModel$Book;") (by decide +kernel)) (fun _ h9 => h9) (v := .ref (M + 8)) rfl dX14_isPan_3 ?_
  refine q_getN hx hb hts hown hA hW iX13 rO_8 rfl 0 (by decide) (va_Nw.use rfl (hA.2.2.2.1 ("HighRecipesModel", 150, "HighRecipesModel$Book", "pans", "I", "HighRecipesModel") (by decide +kernel))) (fun _ h9 => h9) (v := .int (nI pn)) (congrArg (fun z => some (Value.int z)) hpn9) dX14_isPan_6 ?_
  refine lv_iconst (v := 1) hx hb dX14_isPan_9 (by decide) ?_
  refine lv_isub hx hb dX14_isPan_10 ?_
  refine q_ci (va_runS (As := [.int x, .int 0, .int ((nI pn) - 1)]) (rest := []) ⟨hx, hb, hml, hown, hts⟩ (kX14_isIn l E (rO E f M r) n x 0 ((nI pn) - 1)) (va_cwS 3 hts gX14_isPan_X14_isIn rfl rfl rfl (by decide +kernel) ⟨(Nat.le_of_ble_eq_true rfl), (Nat.le_of_ble_eq_true rfl)⟩) (q_pS hA hW hS) rfl rfl hl.1 rfl (lv_room (Nat.le_of_ble_eq_true rfl)) dX14_isPan_11 ⟨Nat.le_of_ble_eq_true rfl, Nat.le_of_ble_eq_true rfl⟩) hS (fun r_11 f_11 n_11 H locs hp hW hS => ?_)
  obtain ⟨rfl, rfl, rfl⟩ := hp
  have hW : q_W E (rO E f M r) n H := hW
  exact q_zret hx hb hr hlocks hW hS (by cases b_in x 0 (nI pn - 1) <;> rfl) ⟨rfl, hmE, rfl⟩ (Nat.le_of_ble_eq_true rfl) (Nat.le_of_ble_eq_true rfl) dX14_isPan_14

set_option maxHeartbeats 4000000 in
set_option maxRecDepth 100000 in
theorem kX14_isRecipe (l : Launch) (E : q_E) (f : q_H) (n : Nat) (M : Nat) (r : q_R) (rc : Nat) (x : Int32)  (hm : RM E f M r) (hrc9 : (r 121 0) = nI rc) : Met l yX14_isRecipe wsX14_isRecipe ({ frames := 1, cells := 0, slots := 0, locals := 22 }) (q_P E [.ref M, .int x] f n) (q_Qi E (fun r0 f1 n1 => b01 (b_in x 0 (nI rc - 1)) = r0 ∧ f = f1 ∧ n = n1)) 0 0 (q_ge E) := by
  refine Met.ofW (cc := cX14_isRecipe) (maxL := 2) (ret := (some .boolean)) (by decide) rfl ?_
  intro p e s m args below meth c s₁ B hml hv
  obtain ⟨rfl, hA, hW⟩ := hv
  have hx := B.exec
  have hb := B.bytes
  have hr := B.returns
  have hts := atoms_spec (ws := wsX14_isRecipe) B.pre
  have hown : s.vm.findClass RX14 = some m.cls := findClass_of_methodNamed B.named
  have hlocks := B.notSynchronized
  have hS : va_S (q_ge E) s.heap s.heap [] := va_S.rf
  have iX13 : ∀ w ∈ wsX130, w ∈ wsX14_isRecipe := by decide +kernel
  have iX14 : ∀ w ∈ wsX140, w ∈ wsX14_isRecipe := by decide +kernel
  have hl := lv_entry ([.ref M, .int x]) (n := 2) (Nat.le_of_ble_eq_true rfl)
  rw [lg_entry_eq]
  generalize (lg_sl ([.ref M, .int x]) ++ List.replicate (2 - (lg_sl ([.ref M, .int x])).length) Slot.unset).toArray = ls at hl ⊢
  have hl : lv_has ls 2 [(0, .ref M), (1, .int x)] := hl
  have hmE := hm.eq
  rw [hm.eq] at hW
  refine lv_iload_n hx hb dX14_isRecipe_0 rfl (lv_at hl 1 rfl) ?_
  refine lv_iconst (v := 0) hx hb dX14_isRecipe_1 (by decide) ?_
  refine lv_aload_n hx hb dX14_isRecipe_2 rfl (lv_at hl 0 rfl) ?_
  refine q_get hx hb hts hown hA hW iX14 rO_0 rfl 17 (by decide) (hts (.fieldLink RX14 38 "HighRecipesModel" "told" "LHighRecipesModel$Book;") (by decide +kernel)) (fun _ h9 => h9) (v := .ref (M + 8)) rfl dX14_isRecipe_3 ?_
  refine q_getN hx hb hts hown hA hW iX13 rO_8 rfl 2 (by decide) (va_Nw.use rfl (hA.2.2.2.1 ("HighRecipesModel", 156, "HighRecipesModel$Book", "recipes", "I", "HighRecipesModel") (by decide +kernel))) (fun _ h9 => h9) (v := .int (nI rc)) (congrArg (fun z => some (Value.int z)) hrc9) dX14_isRecipe_6 ?_
  refine lv_iconst (v := 1) hx hb dX14_isRecipe_9 (by decide) ?_
  refine lv_isub hx hb dX14_isRecipe_10 ?_
  refine q_ci (va_runS (As := [.int x, .int 0, .int ((nI rc) - 1)]) (rest := []) ⟨hx, hb, hml, hown, hts⟩ (kX14_isIn l E (rO E f M r) n x 0 ((nI rc) - 1)) (va_cwS 3 hts gX14_isRecipe_X14_isIn rfl rfl rfl (by decide +kernel) ⟨(Nat.le_of_ble_eq_true rfl), (Nat.le_of_ble_eq_true rfl)⟩) (q_pS hA hW hS) rfl rfl hl.1 rfl (lv_room (Nat.le_of_ble_eq_true rfl)) dX14_isRecipe_11 ⟨Nat.le_of_ble_eq_true rfl, Nat.le_of_ble_eq_true rfl⟩) hS (fun r_11 f_11 n_11 H locs hp hW hS => ?_)
  obtain ⟨rfl, rfl, rfl⟩ := hp
  have hW : q_W E (rO E f M r) n H := hW
  exact q_zret hx hb hr hlocks hW hS (by cases b_in x 0 (nI rc - 1) <;> rfl) ⟨rfl, hmE, rfl⟩ (Nat.le_of_ble_eq_true rfl) (Nat.le_of_ble_eq_true rfl) dX14_isRecipe_14

set_option maxHeartbeats 4000000 in
set_option maxRecDepth 100000 in
theorem kX14_isAltitude (l : Launch) (E : q_E) (f : q_H) (n : Nat) (x : Int32)  : Met l yX14_isAltitude wsX14_isAltitude ({ frames := 1, cells := 0, slots := 0, locals := 22 }) (q_P E [.int x] f n) (q_Qi E (fun r f1 n1 => b01 (b_in x 0 60) = r ∧ f = f1 ∧ n = n1)) 0 0 (q_ge E) := by
  refine Met.ofW (cc := cX14_isAltitude) (maxL := 1) (ret := (some .boolean)) (by decide) rfl ?_
  intro p e s m args below meth c s₁ B hml hv
  obtain ⟨rfl, hA, hW⟩ := hv
  have hx := B.exec
  have hb := B.bytes
  have hr := B.returns
  have hts := atoms_spec (ws := wsX14_isAltitude) B.pre
  have hown : s.vm.findClass RX14 = some m.cls := findClass_of_methodNamed B.named
  have hlocks := B.notSynchronized
  have hS : va_S (q_ge E) s.heap s.heap [] := va_S.rf
  have hl := lv_entry ([.int x]) (n := 1) (Nat.le_of_ble_eq_true rfl)
  rw [lg_entry_eq]
  generalize (lg_sl ([.int x]) ++ List.replicate (1 - (lg_sl ([.int x])).length) Slot.unset).toArray = ls at hl ⊢
  have hl : lv_has ls 1 [(0, .int x)] := hl
  refine lv_iload_n hx hb dX14_isAltitude_0 rfl (lv_at hl 0 rfl) ?_
  refine lv_iconst (v := 0) hx hb dX14_isAltitude_1 (by decide) ?_
  refine lv_bipush (v := 60) hx hb dX14_isAltitude_2 (by decide) ?_
  refine q_ci (va_runS (As := [.int x, .int 0, .int 60]) (rest := []) ⟨hx, hb, hml, hown, hts⟩ (kX14_isIn l E f n x 0 60) (va_cwS 3 hts gX14_isAltitude_X14_isIn rfl rfl rfl (by decide +kernel) ⟨(Nat.le_of_ble_eq_true rfl), (Nat.le_of_ble_eq_true rfl)⟩) (q_pS hA hW hS) rfl rfl hl.1 rfl (lv_room (Nat.le_of_ble_eq_true rfl)) dX14_isAltitude_4 ⟨Nat.le_of_ble_eq_true rfl, Nat.le_of_ble_eq_true rfl⟩) hS (fun r_4 f_4 n_4 H locs hp hW hS => ?_)
  obtain ⟨rfl, rfl, rfl⟩ := hp
  have hW : q_W E (f) n H := hW
  exact q_zret hx hb hr hlocks hW hS (by cases b_in x 0 60 <;> rfl) ⟨rfl, rfl, rfl⟩ (Nat.le_of_ble_eq_true rfl) (Nat.le_of_ble_eq_true rfl) dX14_isAltitude_7

set_option maxHeartbeats 4000000 in
set_option maxRecDepth 100000 in
theorem kX14_altitude (l : Launch) (E : q_E) (f : q_H) (n : Nat) (M : Nat) (r : q_R)  (hm : RM E f M r) : Met l yX14_altitude wsX14_altitude ({ frames := 1, cells := 0, slots := 0, locals := 21 }) (q_P E [.ref M] f n) (q_Qi E (fun r0 f1 n1 => (r 42) 0 = r0 ∧ rO E f M (rp r 100 (fun _ => 0)) = f1 ∧ n = n1)) 0 0 (q_ge E) := by
  refine Met.ofW (cc := cX14_altitude) (maxL := 1) (ret := (some .int)) (by decide) rfl ?_
  intro p e s m args below meth c s₁ B hml hv
  obtain ⟨rfl, hA, hW⟩ := hv
  have hx := B.exec
  have hb := B.bytes
  have hr := B.returns
  have hts := atoms_spec (ws := wsX14_altitude) B.pre
  have hown : s.vm.findClass RX14 = some m.cls := findClass_of_methodNamed B.named
  have hlocks := B.notSynchronized
  have hS : va_S (q_ge E) s.heap s.heap [] := va_S.rf
  have iX14 : ∀ w ∈ wsX140, w ∈ wsX14_altitude := by decide +kernel
  have hl := lv_entry ([.ref M]) (n := 1) (Nat.le_of_ble_eq_true rfl)
  rw [lg_entry_eq]
  generalize (lg_sl ([.ref M]) ++ List.replicate (1 - (lg_sl ([.ref M])).length) Slot.unset).toArray = ls at hl ⊢
  have hl : lv_has ls 1 [(0, .ref M)] := hl
  have hmE := hm.eq
  rw [hm.eq] at hW
  refine lv_aload_n hx hb dX14_altitude_0 rfl (lv_at hl 0 rfl) ?_
  refine lv_aload_n hx hb dX14_altitude_1 rfl (lv_at hl 0 rfl) ?_
  refine q_get hx hb hts hown hA hW iX14 rO_0 rfl 19 (by decide) (hts (.fieldLink RX14 45 "HighRecipesModel" "now" "[I") (by decide +kernel)) (fun _ h9 => h9) (v := .ref (M + 42)) rfl dX14_altitude_2 ?_
  refine lv_iconst (v := 0) hx hb dX14_altitude_5 (by decide) ?_
  refine q_ald hx hb hA hW (rO_42 (g := r 42) rfl) 0 rfl (by decide) (by decide) (x := (r 42) 0) rfl dX14_altitude_6 ?_
  refine q_ci (va_runV (As := [.int ((r 42) 0)]) (rest := []) ⟨hx, hb, hml, hown, hts⟩ (kX14_ok l E (rO E f M r) n M r ((r 42) 0) rO_K) (cwV 1 hts gX14_altitude_X14_ok rfl rfl rfl (by decide +kernel) ⟨(Nat.le_of_ble_eq_true rfl), (Nat.le_of_ble_eq_true rfl)⟩) (q_pV hA hW hS (ci := 12) rfl rO_0) rfl rfl hl.1 rfl (lv_room (Nat.le_of_ble_eq_true rfl)) dX14_altitude_7 ⟨Nat.le_of_ble_eq_true rfl, Nat.le_of_ble_eq_true rfl⟩) hS (fun r_7 f_7 n_7 H locs hp hW hS => ?_)
  obtain ⟨rfl, rfl, rfl⟩ := hp
  have hW : q_W E (rO E f M (rp r 100 (fun _ => 0))) n H := by rw [rO_rO] at hW; exact hW
  have hW : q_W E (rO E f M (rp r 100 (fun _ => 0))) n H := hW
  exact q_iret hx hb hr hlocks hW hS ⟨rfl, rfl, rfl⟩ (Nat.le_of_ble_eq_true rfl) (Nat.le_of_ble_eq_true rfl) dX14_altitude_10

set_option maxHeartbeats 4000000 in
set_option maxRecDepth 100000 in
theorem kX14_boilingPoint (l : Launch) (E : q_E) (f : q_H) (n : Nat) (M : Nat) (r : q_R)  (hm : RM E f M r) : Met l yX14_boilingPoint wsX14_boilingPoint ({ frames := 2, cells := 0, slots := 0, locals := 40 }) (q_P E [.ref M] f n) (q_Qi E (fun r0 f1 n1 => z_boil ((r 42) 0) = r0 ∧ rO E f M (rp r 100 (fun _ => 0)) = f1 ∧ n = n1)) 0 0 (q_ge E) := by
  refine Met.ofW (cc := cX14_boilingPoint) (maxL := 1) (ret := (some .int)) (by decide) rfl ?_
  intro p e s m args below meth c s₁ B hml hv
  obtain ⟨rfl, hA, hW⟩ := hv
  have hx := B.exec
  have hb := B.bytes
  have hr := B.returns
  have hts := atoms_spec (ws := wsX14_boilingPoint) B.pre
  have hown : s.vm.findClass RX14 = some m.cls := findClass_of_methodNamed B.named
  have hlocks := B.notSynchronized
  have hS : va_S (q_ge E) s.heap s.heap [] := va_S.rf
  have hl := lv_entry ([.ref M]) (n := 1) (Nat.le_of_ble_eq_true rfl)
  rw [lg_entry_eq]
  generalize (lg_sl ([.ref M]) ++ List.replicate (1 - (lg_sl ([.ref M])).length) Slot.unset).toArray = ls at hl ⊢
  have hl : lv_has ls 1 [(0, .ref M)] := hl
  have hmE := hm.eq
  rw [hm.eq] at hW
  refine lv_aload_n hx hb dX14_boilingPoint_0 rfl (lv_at hl 0 rfl) ?_
  refine lv_aload_n hx hb dX14_boilingPoint_1 rfl (lv_at hl 0 rfl) ?_
  refine q_ci (va_runV (As := []) (rest := [.ref M]) ⟨hx, hb, hml, hown, hts⟩ (kX14_boiling l E (rO E f M r) n M r rO_K) (cwV 0 hts gX14_boilingPoint_X14_boiling rfl rfl rfl (by decide +kernel) ⟨(Nat.le_of_ble_eq_true rfl), (Nat.le_of_ble_eq_true rfl)⟩) (q_pV hA hW hS (ci := 12) rfl rO_0) rfl rfl hl.1 rfl (lv_room (Nat.le_of_ble_eq_true rfl)) dX14_boilingPoint_2 ⟨Nat.le_of_ble_eq_true rfl, Nat.le_of_ble_eq_true rfl⟩) hS (fun r_2 f_2 n_2 H locs hp hW hS => ?_)
  obtain ⟨rfl, rfl, rfl⟩ := hp
  have hW : q_W E (rO E f M r) n H := hW
  refine q_ci (va_runV (As := [.int (z_boil ((r 42) 0))]) (rest := []) ⟨hx, hb, hml, hown, hts⟩ (kX14_ok l E (rO E f M r) n M r (z_boil ((r 42) 0)) rO_K) (cwV 1 hts gX14_boilingPoint_X14_ok rfl rfl rfl (by decide +kernel) ⟨(Nat.le_of_ble_eq_true rfl), (Nat.le_of_ble_eq_true rfl)⟩) (q_pV hA hW hS (ci := 12) rfl rO_0) rfl rfl hl.1 rfl (lv_room (Nat.le_of_ble_eq_true rfl)) dX14_boilingPoint_5 ⟨Nat.le_of_ble_eq_true rfl, Nat.le_of_ble_eq_true rfl⟩) hS (fun r_5 f_5 n_5 H locs hp hW hS => ?_)
  obtain ⟨rfl, rfl, rfl⟩ := hp
  have hW : q_W E (rO E f M (rp r 100 (fun _ => 0))) n H := by rw [rO_rO] at hW; exact hW
  have hW : q_W E (rO E f M (rp r 100 (fun _ => 0))) n H := hW
  exact q_iret hx hb hr hlocks hW hS ⟨rfl, rfl, rfl⟩ (Nat.le_of_ble_eq_true rfl) (Nat.le_of_ble_eq_true rfl) dX14_boilingPoint_8

set_option maxHeartbeats 4000000 in
set_option maxRecDepth 100000 in
theorem kX14_servings (l : Launch) (E : q_E) (f : q_H) (n : Nat) (M : Nat) (r : q_R)  (hm : RM E f M r) : Met l yX14_servings wsX14_servings ({ frames := 1, cells := 0, slots := 0, locals := 21 }) (q_P E [.ref M] f n) (q_Qi E (fun r0 f1 n1 => (r 42) 1 = r0 ∧ rO E f M (rp r 100 (fun _ => 0)) = f1 ∧ n = n1)) 0 0 (q_ge E) := by
  refine Met.ofW (cc := cX14_servings) (maxL := 1) (ret := (some .int)) (by decide) rfl ?_
  intro p e s m args below meth c s₁ B hml hv
  obtain ⟨rfl, hA, hW⟩ := hv
  have hx := B.exec
  have hb := B.bytes
  have hr := B.returns
  have hts := atoms_spec (ws := wsX14_servings) B.pre
  have hown : s.vm.findClass RX14 = some m.cls := findClass_of_methodNamed B.named
  have hlocks := B.notSynchronized
  have hS : va_S (q_ge E) s.heap s.heap [] := va_S.rf
  have iX14 : ∀ w ∈ wsX140, w ∈ wsX14_servings := by decide +kernel
  have hl := lv_entry ([.ref M]) (n := 1) (Nat.le_of_ble_eq_true rfl)
  rw [lg_entry_eq]
  generalize (lg_sl ([.ref M]) ++ List.replicate (1 - (lg_sl ([.ref M])).length) Slot.unset).toArray = ls at hl ⊢
  have hl : lv_has ls 1 [(0, .ref M)] := hl
  have hmE := hm.eq
  rw [hm.eq] at hW
  refine lv_aload_n hx hb dX14_servings_0 rfl (lv_at hl 0 rfl) ?_
  refine lv_aload_n hx hb dX14_servings_1 rfl (lv_at hl 0 rfl) ?_
  refine q_get hx hb hts hown hA hW iX14 rO_0 rfl 19 (by decide) (hts (.fieldLink RX14 45 "HighRecipesModel" "now" "[I") (by decide +kernel)) (fun _ h9 => h9) (v := .ref (M + 42)) rfl dX14_servings_2 ?_
  refine lv_iconst (v := 1) hx hb dX14_servings_5 (by decide) ?_
  refine q_ald hx hb hA hW (rO_42 (g := r 42) rfl) 1 rfl (by decide) (by decide) (x := (r 42) 1) rfl dX14_servings_6 ?_
  refine q_ci (va_runV (As := [.int ((r 42) 1)]) (rest := []) ⟨hx, hb, hml, hown, hts⟩ (kX14_ok l E (rO E f M r) n M r ((r 42) 1) rO_K) (cwV 1 hts gX14_servings_X14_ok rfl rfl rfl (by decide +kernel) ⟨(Nat.le_of_ble_eq_true rfl), (Nat.le_of_ble_eq_true rfl)⟩) (q_pV hA hW hS (ci := 12) rfl rO_0) rfl rfl hl.1 rfl (lv_room (Nat.le_of_ble_eq_true rfl)) dX14_servings_7 ⟨Nat.le_of_ble_eq_true rfl, Nat.le_of_ble_eq_true rfl⟩) hS (fun r_7 f_7 n_7 H locs hp hW hS => ?_)
  obtain ⟨rfl, rfl, rfl⟩ := hp
  have hW : q_W E (rO E f M (rp r 100 (fun _ => 0))) n H := by rw [rO_rO] at hW; exact hW
  have hW : q_W E (rO E f M (rp r 100 (fun _ => 0))) n H := hW
  exact q_iret hx hb hr hlocks hW hS ⟨rfl, rfl, rfl⟩ (Nat.le_of_ble_eq_true rfl) (Nat.le_of_ble_eq_true rfl) dX14_servings_10

set_option maxHeartbeats 4000000 in
set_option maxRecDepth 100000 in
theorem kX14_spoon (l : Launch) (E : q_E) (f : q_H) (n : Nat) (M : Nat) (r : q_R)  (hm : RM E f M r) : Met l yX14_spoon wsX14_spoon ({ frames := 1, cells := 0, slots := 0, locals := 21 }) (q_P E [.ref M] f n) (q_Qi E (fun r0 f1 n1 => (r 42) 2 = r0 ∧ rO E f M (rp r 100 (fun _ => 0)) = f1 ∧ n = n1)) 0 0 (q_ge E) := by
  refine Met.ofW (cc := cX14_spoon) (maxL := 1) (ret := (some .int)) (by decide) rfl ?_
  intro p e s m args below meth c s₁ B hml hv
  obtain ⟨rfl, hA, hW⟩ := hv
  have hx := B.exec
  have hb := B.bytes
  have hr := B.returns
  have hts := atoms_spec (ws := wsX14_spoon) B.pre
  have hown : s.vm.findClass RX14 = some m.cls := findClass_of_methodNamed B.named
  have hlocks := B.notSynchronized
  have hS : va_S (q_ge E) s.heap s.heap [] := va_S.rf
  have iX14 : ∀ w ∈ wsX140, w ∈ wsX14_spoon := by decide +kernel
  have hl := lv_entry ([.ref M]) (n := 1) (Nat.le_of_ble_eq_true rfl)
  rw [lg_entry_eq]
  generalize (lg_sl ([.ref M]) ++ List.replicate (1 - (lg_sl ([.ref M])).length) Slot.unset).toArray = ls at hl ⊢
  have hl : lv_has ls 1 [(0, .ref M)] := hl
  have hmE := hm.eq
  rw [hm.eq] at hW
  refine lv_aload_n hx hb dX14_spoon_0 rfl (lv_at hl 0 rfl) ?_
  refine lv_aload_n hx hb dX14_spoon_1 rfl (lv_at hl 0 rfl) ?_
  refine q_get hx hb hts hown hA hW iX14 rO_0 rfl 19 (by decide) (hts (.fieldLink RX14 45 "HighRecipesModel" "now" "[I") (by decide +kernel)) (fun _ h9 => h9) (v := .ref (M + 42)) rfl dX14_spoon_2 ?_
  refine lv_iconst (v := 2) hx hb dX14_spoon_5 (by decide) ?_
  refine q_ald hx hb hA hW (rO_42 (g := r 42) rfl) 2 rfl (by decide) (by decide) (x := (r 42) 2) rfl dX14_spoon_6 ?_
  refine q_ci (va_runV (As := [.int ((r 42) 2)]) (rest := []) ⟨hx, hb, hml, hown, hts⟩ (kX14_ok l E (rO E f M r) n M r ((r 42) 2) rO_K) (cwV 1 hts gX14_spoon_X14_ok rfl rfl rfl (by decide +kernel) ⟨(Nat.le_of_ble_eq_true rfl), (Nat.le_of_ble_eq_true rfl)⟩) (q_pV hA hW hS (ci := 12) rfl rO_0) rfl rfl hl.1 rfl (lv_room (Nat.le_of_ble_eq_true rfl)) dX14_spoon_7 ⟨Nat.le_of_ble_eq_true rfl, Nat.le_of_ble_eq_true rfl⟩) hS (fun r_7 f_7 n_7 H locs hp hW hS => ?_)
  obtain ⟨rfl, rfl, rfl⟩ := hp
  have hW : q_W E (rO E f M (rp r 100 (fun _ => 0))) n H := by rw [rO_rO] at hW; exact hW
  have hW : q_W E (rO E f M (rp r 100 (fun _ => 0))) n H := hW
  exact q_iret hx hb hr hlocks hW hS ⟨rfl, rfl, rfl⟩ (Nat.le_of_ble_eq_true rfl) (Nat.le_of_ble_eq_true rfl) dX14_spoon_10

set_option maxHeartbeats 4000000 in
set_option maxRecDepth 100000 in
theorem kX14_minute (l : Launch) (E : q_E) (f : q_H) (n : Nat) (M : Nat) (r : q_R)  (hm : RM E f M r) : Met l yX14_minute wsX14_minute ({ frames := 1, cells := 0, slots := 0, locals := 21 }) (q_P E [.ref M] f n) (q_Qi E (fun r0 f1 n1 => (r 42) 3 = r0 ∧ rO E f M (rp r 100 (fun _ => 0)) = f1 ∧ n = n1)) 0 0 (q_ge E) := by
  refine Met.ofW (cc := cX14_minute) (maxL := 1) (ret := (some .int)) (by decide) rfl ?_
  intro p e s m args below meth c s₁ B hml hv
  obtain ⟨rfl, hA, hW⟩ := hv
  have hx := B.exec
  have hb := B.bytes
  have hr := B.returns
  have hts := atoms_spec (ws := wsX14_minute) B.pre
  have hown : s.vm.findClass RX14 = some m.cls := findClass_of_methodNamed B.named
  have hlocks := B.notSynchronized
  have hS : va_S (q_ge E) s.heap s.heap [] := va_S.rf
  have iX14 : ∀ w ∈ wsX140, w ∈ wsX14_minute := by decide +kernel
  have hl := lv_entry ([.ref M]) (n := 1) (Nat.le_of_ble_eq_true rfl)
  rw [lg_entry_eq]
  generalize (lg_sl ([.ref M]) ++ List.replicate (1 - (lg_sl ([.ref M])).length) Slot.unset).toArray = ls at hl ⊢
  have hl : lv_has ls 1 [(0, .ref M)] := hl
  have hmE := hm.eq
  rw [hm.eq] at hW
  refine lv_aload_n hx hb dX14_minute_0 rfl (lv_at hl 0 rfl) ?_
  refine lv_aload_n hx hb dX14_minute_1 rfl (lv_at hl 0 rfl) ?_
  refine q_get hx hb hts hown hA hW iX14 rO_0 rfl 19 (by decide) (hts (.fieldLink RX14 45 "HighRecipesModel" "now" "[I") (by decide +kernel)) (fun _ h9 => h9) (v := .ref (M + 42)) rfl dX14_minute_2 ?_
  refine lv_iconst (v := 3) hx hb dX14_minute_5 (by decide) ?_
  refine q_ald hx hb hA hW (rO_42 (g := r 42) rfl) 3 rfl (by decide) (by decide) (x := (r 42) 3) rfl dX14_minute_6 ?_
  refine q_ci (va_runV (As := [.int ((r 42) 3)]) (rest := []) ⟨hx, hb, hml, hown, hts⟩ (kX14_ok l E (rO E f M r) n M r ((r 42) 3) rO_K) (cwV 1 hts gX14_minute_X14_ok rfl rfl rfl (by decide +kernel) ⟨(Nat.le_of_ble_eq_true rfl), (Nat.le_of_ble_eq_true rfl)⟩) (q_pV hA hW hS (ci := 12) rfl rO_0) rfl rfl hl.1 rfl (lv_room (Nat.le_of_ble_eq_true rfl)) dX14_minute_7 ⟨Nat.le_of_ble_eq_true rfl, Nat.le_of_ble_eq_true rfl⟩) hS (fun r_7 f_7 n_7 H locs hp hW hS => ?_)
  obtain ⟨rfl, rfl, rfl⟩ := hp
  have hW : q_W E (rO E f M (rp r 100 (fun _ => 0))) n H := by rw [rO_rO] at hW; exact hW
  have hW : q_W E (rO E f M (rp r 100 (fun _ => 0))) n H := hW
  exact q_iret hx hb hr hlocks hW hS ⟨rfl, rfl, rfl⟩ (Nat.le_of_ble_eq_true rfl) (Nat.le_of_ble_eq_true rfl) dX14_minute_10

set_option maxHeartbeats 4000000 in
set_option maxRecDepth 100000 in
theorem kX14_pans (l : Launch) (E : q_E) (f : q_H) (n : Nat) (M : Nat) (r : q_R)  (hm : RM E f M r) : Met l yX14_pans wsX14_pans ({ frames := 1, cells := 0, slots := 0, locals := 21 }) (q_P E [.ref M] f n) (q_Qi E (fun r0 f1 n1 => (r 120 0) = r0 ∧ rO E f M (rp r 100 (fun _ => 0)) = f1 ∧ n = n1)) 0 0 (q_ge E) := by
  refine Met.ofW (cc := cX14_pans) (maxL := 1) (ret := (some .int)) (by decide) rfl ?_
  intro p e s m args below meth c s₁ B hml hv
  obtain ⟨rfl, hA, hW⟩ := hv
  have hx := B.exec
  have hb := B.bytes
  have hr := B.returns
  have hts := atoms_spec (ws := wsX14_pans) B.pre
  have hown : s.vm.findClass RX14 = some m.cls := findClass_of_methodNamed B.named
  have hlocks := B.notSynchronized
  have hS : va_S (q_ge E) s.heap s.heap [] := va_S.rf
  have iX13 : ∀ w ∈ wsX130, w ∈ wsX14_pans := by decide +kernel
  have iX14 : ∀ w ∈ wsX140, w ∈ wsX14_pans := by decide +kernel
  have hl := lv_entry ([.ref M]) (n := 1) (Nat.le_of_ble_eq_true rfl)
  rw [lg_entry_eq]
  generalize (lg_sl ([.ref M]) ++ List.replicate (1 - (lg_sl ([.ref M])).length) Slot.unset).toArray = ls at hl ⊢
  have hl : lv_has ls 1 [(0, .ref M)] := hl
  have hmE := hm.eq
  rw [hm.eq] at hW
  refine lv_aload_n hx hb dX14_pans_0 rfl (lv_at hl 0 rfl) ?_
  refine lv_aload_n hx hb dX14_pans_1 rfl (lv_at hl 0 rfl) ?_
  refine q_get hx hb hts hown hA hW iX14 rO_0 rfl 17 (by decide) (hts (.fieldLink RX14 38 "HighRecipesModel" "told" "LHighRecipesModel$Book;") (by decide +kernel)) (fun _ h9 => h9) (v := .ref (M + 8)) rfl dX14_pans_2 ?_
  refine q_getN hx hb hts hown hA hW iX13 rO_8 rfl 0 (by decide) (va_Nw.use rfl (hA.2.2.2.1 ("HighRecipesModel", 150, "HighRecipesModel$Book", "pans", "I", "HighRecipesModel") (by decide +kernel))) (fun _ h9 => h9) (v := .int (r 120 0)) rfl dX14_pans_5 ?_
  refine q_ci (va_runV (As := [.int (r 120 0)]) (rest := []) ⟨hx, hb, hml, hown, hts⟩ (kX14_ok l E (rO E f M r) n M r (r 120 0) rO_K) (cwV 1 hts gX14_pans_X14_ok rfl rfl rfl (by decide +kernel) ⟨(Nat.le_of_ble_eq_true rfl), (Nat.le_of_ble_eq_true rfl)⟩) (q_pV hA hW hS (ci := 12) rfl rO_0) rfl rfl hl.1 rfl (lv_room (Nat.le_of_ble_eq_true rfl)) dX14_pans_8 ⟨Nat.le_of_ble_eq_true rfl, Nat.le_of_ble_eq_true rfl⟩) hS (fun r_8 f_8 n_8 H locs hp hW hS => ?_)
  obtain ⟨rfl, rfl, rfl⟩ := hp
  have hW : q_W E (rO E f M (rp r 100 (fun _ => 0))) n H := by rw [rO_rO] at hW; exact hW
  have hW : q_W E (rO E f M (rp r 100 (fun _ => 0))) n H := hW
  exact q_iret hx hb hr hlocks hW hS ⟨rfl, rfl, rfl⟩ (Nat.le_of_ble_eq_true rfl) (Nat.le_of_ble_eq_true rfl) dX14_pans_11

set_option maxHeartbeats 4000000 in
set_option maxRecDepth 100000 in
theorem kX14_recipes (l : Launch) (E : q_E) (f : q_H) (n : Nat) (M : Nat) (r : q_R)  (hm : RM E f M r) : Met l yX14_recipes wsX14_recipes ({ frames := 1, cells := 0, slots := 0, locals := 21 }) (q_P E [.ref M] f n) (q_Qi E (fun r0 f1 n1 => (r 121 0) = r0 ∧ rO E f M (rp r 100 (fun _ => 0)) = f1 ∧ n = n1)) 0 0 (q_ge E) := by
  refine Met.ofW (cc := cX14_recipes) (maxL := 1) (ret := (some .int)) (by decide) rfl ?_
  intro p e s m args below meth c s₁ B hml hv
  obtain ⟨rfl, hA, hW⟩ := hv
  have hx := B.exec
  have hb := B.bytes
  have hr := B.returns
  have hts := atoms_spec (ws := wsX14_recipes) B.pre
  have hown : s.vm.findClass RX14 = some m.cls := findClass_of_methodNamed B.named
  have hlocks := B.notSynchronized
  have hS : va_S (q_ge E) s.heap s.heap [] := va_S.rf
  have iX13 : ∀ w ∈ wsX130, w ∈ wsX14_recipes := by decide +kernel
  have iX14 : ∀ w ∈ wsX140, w ∈ wsX14_recipes := by decide +kernel
  have hl := lv_entry ([.ref M]) (n := 1) (Nat.le_of_ble_eq_true rfl)
  rw [lg_entry_eq]
  generalize (lg_sl ([.ref M]) ++ List.replicate (1 - (lg_sl ([.ref M])).length) Slot.unset).toArray = ls at hl ⊢
  have hl : lv_has ls 1 [(0, .ref M)] := hl
  have hmE := hm.eq
  rw [hm.eq] at hW
  refine lv_aload_n hx hb dX14_recipes_0 rfl (lv_at hl 0 rfl) ?_
  refine lv_aload_n hx hb dX14_recipes_1 rfl (lv_at hl 0 rfl) ?_
  refine q_get hx hb hts hown hA hW iX14 rO_0 rfl 17 (by decide) (hts (.fieldLink RX14 38 "HighRecipesModel" "told" "LHighRecipesModel$Book;") (by decide +kernel)) (fun _ h9 => h9) (v := .ref (M + 8)) rfl dX14_recipes_2 ?_
  refine q_getN hx hb hts hown hA hW iX13 rO_8 rfl 2 (by decide) (va_Nw.use rfl (hA.2.2.2.1 ("HighRecipesModel", 156, "HighRecipesModel$Book", "recipes", "I", "HighRecipesModel") (by decide +kernel))) (fun _ h9 => h9) (v := .int (r 121 0)) rfl dX14_recipes_5 ?_
  refine q_ci (va_runV (As := [.int (r 121 0)]) (rest := []) ⟨hx, hb, hml, hown, hts⟩ (kX14_ok l E (rO E f M r) n M r (r 121 0) rO_K) (cwV 1 hts gX14_recipes_X14_ok rfl rfl rfl (by decide +kernel) ⟨(Nat.le_of_ble_eq_true rfl), (Nat.le_of_ble_eq_true rfl)⟩) (q_pV hA hW hS (ci := 12) rfl rO_0) rfl rfl hl.1 rfl (lv_room (Nat.le_of_ble_eq_true rfl)) dX14_recipes_8 ⟨Nat.le_of_ble_eq_true rfl, Nat.le_of_ble_eq_true rfl⟩) hS (fun r_8 f_8 n_8 H locs hp hW hS => ?_)
  obtain ⟨rfl, rfl, rfl⟩ := hp
  have hW : q_W E (rO E f M (rp r 100 (fun _ => 0))) n H := by rw [rO_rO] at hW; exact hW
  have hW : q_W E (rO E f M (rp r 100 (fun _ => 0))) n H := hW
  exact q_iret hx hb hr hlocks hW hS ⟨rfl, rfl, rfl⟩ (Nat.le_of_ble_eq_true rfl) (Nat.le_of_ble_eq_true rfl) dX14_recipes_11

set_option maxHeartbeats 4000000 in
set_option maxRecDepth 100000 in
theorem kX14_acts (l : Launch) (E : q_E) (f : q_H) (n : Nat) (M : Nat) (r : q_R)  (hm : RM E f M r) : Met l yX14_acts wsX14_acts ({ frames := 1, cells := 0, slots := 0, locals := 21 }) (q_P E [.ref M] f n) (q_Qi E (fun r0 f1 n1 => (r 122 0) = r0 ∧ rO E f M (rp r 100 (fun _ => 0)) = f1 ∧ n = n1)) 0 0 (q_ge E) := by
  refine Met.ofW (cc := cX14_acts) (maxL := 1) (ret := (some .int)) (by decide) rfl ?_
  intro p e s m args below meth c s₁ B hml hv
  obtain ⟨rfl, hA, hW⟩ := hv
  have hx := B.exec
  have hb := B.bytes
  have hr := B.returns
  have hts := atoms_spec (ws := wsX14_acts) B.pre
  have hown : s.vm.findClass RX14 = some m.cls := findClass_of_methodNamed B.named
  have hlocks := B.notSynchronized
  have hS : va_S (q_ge E) s.heap s.heap [] := va_S.rf
  have iX13 : ∀ w ∈ wsX130, w ∈ wsX14_acts := by decide +kernel
  have iX14 : ∀ w ∈ wsX140, w ∈ wsX14_acts := by decide +kernel
  have hl := lv_entry ([.ref M]) (n := 1) (Nat.le_of_ble_eq_true rfl)
  rw [lg_entry_eq]
  generalize (lg_sl ([.ref M]) ++ List.replicate (1 - (lg_sl ([.ref M])).length) Slot.unset).toArray = ls at hl ⊢
  have hl : lv_has ls 1 [(0, .ref M)] := hl
  have hmE := hm.eq
  rw [hm.eq] at hW
  refine lv_aload_n hx hb dX14_acts_0 rfl (lv_at hl 0 rfl) ?_
  refine lv_aload_n hx hb dX14_acts_1 rfl (lv_at hl 0 rfl) ?_
  refine q_get hx hb hts hown hA hW iX14 rO_0 rfl 17 (by decide) (hts (.fieldLink RX14 38 "HighRecipesModel" "told" "LHighRecipesModel$Book;") (by decide +kernel)) (fun _ h9 => h9) (v := .ref (M + 8)) rfl dX14_acts_2 ?_
  refine q_getN hx hb hts hown hA hW iX13 rO_8 rfl 4 (by decide) (va_Nw.use rfl (hA.2.2.2.1 ("HighRecipesModel", 215, "HighRecipesModel$Book", "acts", "I", "HighRecipesModel") (by decide +kernel))) (fun _ h9 => h9) (v := .int (r 122 0)) rfl dX14_acts_5 ?_
  refine q_ci (va_runV (As := [.int (r 122 0)]) (rest := []) ⟨hx, hb, hml, hown, hts⟩ (kX14_ok l E (rO E f M r) n M r (r 122 0) rO_K) (cwV 1 hts gX14_acts_X14_ok rfl rfl rfl (by decide +kernel) ⟨(Nat.le_of_ble_eq_true rfl), (Nat.le_of_ble_eq_true rfl)⟩) (q_pV hA hW hS (ci := 12) rfl rO_0) rfl rfl hl.1 rfl (lv_room (Nat.le_of_ble_eq_true rfl)) dX14_acts_8 ⟨Nat.le_of_ble_eq_true rfl, Nat.le_of_ble_eq_true rfl⟩) hS (fun r_8 f_8 n_8 H locs hp hW hS => ?_)
  obtain ⟨rfl, rfl, rfl⟩ := hp
  have hW : q_W E (rO E f M (rp r 100 (fun _ => 0))) n H := by rw [rO_rO] at hW; exact hW
  have hW : q_W E (rO E f M (rp r 100 (fun _ => 0))) n H := hW
  exact q_iret hx hb hr hlocks hW hS ⟨rfl, rfl, rfl⟩ (Nat.le_of_ble_eq_true rfl) (Nat.le_of_ble_eq_true rfl) dX14_acts_11

set_option maxHeartbeats 4000000 in
set_option maxRecDepth 100000 in
theorem kX14_errorAt (l : Launch) (E : q_E) (f : q_H) (n : Nat) (M : Nat) (r : q_R)  (hm : RM E f M r) : Met l yX14_errorAt wsX14_errorAt ({ frames := 1, cells := 0, slots := 0, locals := 21 }) (q_P E [.ref M] f n) (q_Qi E (fun r0 f1 n1 => (r 102 0) = r0 ∧ rO E f M (rp r 100 (fun _ => 0)) = f1 ∧ n = n1)) 0 0 (q_ge E) := by
  refine Met.ofW (cc := cX14_errorAt) (maxL := 1) (ret := (some .int)) (by decide) rfl ?_
  intro p e s m args below meth c s₁ B hml hv
  obtain ⟨rfl, hA, hW⟩ := hv
  have hx := B.exec
  have hb := B.bytes
  have hr := B.returns
  have hts := atoms_spec (ws := wsX14_errorAt) B.pre
  have hown : s.vm.findClass RX14 = some m.cls := findClass_of_methodNamed B.named
  have hlocks := B.notSynchronized
  have hS : va_S (q_ge E) s.heap s.heap [] := va_S.rf
  have iX14 : ∀ w ∈ wsX140, w ∈ wsX14_errorAt := by decide +kernel
  have hl := lv_entry ([.ref M]) (n := 1) (Nat.le_of_ble_eq_true rfl)
  rw [lg_entry_eq]
  generalize (lg_sl ([.ref M]) ++ List.replicate (1 - (lg_sl ([.ref M])).length) Slot.unset).toArray = ls at hl ⊢
  have hl : lv_has ls 1 [(0, .ref M)] := hl
  have hmE := hm.eq
  rw [hm.eq] at hW
  refine lv_aload_n hx hb dX14_errorAt_0 rfl (lv_at hl 0 rfl) ?_
  refine lv_aload_n hx hb dX14_errorAt_1 rfl (lv_at hl 0 rfl) ?_
  refine q_get hx hb hts hown hA hW iX14 rO_0 rfl 3 (by decide) (hts (.fieldLink RX14 13 "HighRecipesModel" "errorAt" "I") (by decide +kernel)) (fun _ h9 => h9) (v := .int (r 102 0)) rfl dX14_errorAt_2 ?_
  refine q_ci (va_runV (As := [.int (r 102 0)]) (rest := []) ⟨hx, hb, hml, hown, hts⟩ (kX14_ok l E (rO E f M r) n M r (r 102 0) rO_K) (cwV 1 hts gX14_errorAt_X14_ok rfl rfl rfl (by decide +kernel) ⟨(Nat.le_of_ble_eq_true rfl), (Nat.le_of_ble_eq_true rfl)⟩) (q_pV hA hW hS (ci := 12) rfl rO_0) rfl rfl hl.1 rfl (lv_room (Nat.le_of_ble_eq_true rfl)) dX14_errorAt_5 ⟨Nat.le_of_ble_eq_true rfl, Nat.le_of_ble_eq_true rfl⟩) hS (fun r_5 f_5 n_5 H locs hp hW hS => ?_)
  obtain ⟨rfl, rfl, rfl⟩ := hp
  have hW : q_W E (rO E f M (rp r 100 (fun _ => 0))) n H := by rw [rO_rO] at hW; exact hW
  have hW : q_W E (rO E f M (rp r 100 (fun _ => 0))) n H := hW
  exact q_iret hx hb hr hlocks hW hS ⟨rfl, rfl, rfl⟩ (Nat.le_of_ble_eq_true rfl) (Nat.le_of_ble_eq_true rfl) dX14_errorAt_8

set_option maxHeartbeats 4000000 in
set_option maxRecDepth 100000 in
theorem kX14_warnings (l : Launch) (E : q_E) (f : q_H) (n : Nat) (M : Nat) (r : q_R)  (hm : RM E f M r) : Met l yX14_warnings wsX14_warnings ({ frames := 1, cells := 0, slots := 0, locals := 21 }) (q_P E [.ref M] f n) (q_Qi E (fun r0 f1 n1 => (r 42) 4 = r0 ∧ rO E f M (rp r 100 (fun _ => 0)) = f1 ∧ n = n1)) 0 0 (q_ge E) := by
  refine Met.ofW (cc := cX14_warnings) (maxL := 1) (ret := (some .int)) (by decide) rfl ?_
  intro p e s m args below meth c s₁ B hml hv
  obtain ⟨rfl, hA, hW⟩ := hv
  have hx := B.exec
  have hb := B.bytes
  have hr := B.returns
  have hts := atoms_spec (ws := wsX14_warnings) B.pre
  have hown : s.vm.findClass RX14 = some m.cls := findClass_of_methodNamed B.named
  have hlocks := B.notSynchronized
  have hS : va_S (q_ge E) s.heap s.heap [] := va_S.rf
  have iX14 : ∀ w ∈ wsX140, w ∈ wsX14_warnings := by decide +kernel
  have hl := lv_entry ([.ref M]) (n := 1) (Nat.le_of_ble_eq_true rfl)
  rw [lg_entry_eq]
  generalize (lg_sl ([.ref M]) ++ List.replicate (1 - (lg_sl ([.ref M])).length) Slot.unset).toArray = ls at hl ⊢
  have hl : lv_has ls 1 [(0, .ref M)] := hl
  have hmE := hm.eq
  rw [hm.eq] at hW
  refine lv_aload_n hx hb dX14_warnings_0 rfl (lv_at hl 0 rfl) ?_
  refine lv_aload_n hx hb dX14_warnings_1 rfl (lv_at hl 0 rfl) ?_
  refine q_get hx hb hts hown hA hW iX14 rO_0 rfl 19 (by decide) (hts (.fieldLink RX14 45 "HighRecipesModel" "now" "[I") (by decide +kernel)) (fun _ h9 => h9) (v := .ref (M + 42)) rfl dX14_warnings_2 ?_
  refine lv_iconst (v := 4) hx hb dX14_warnings_5 (by decide) ?_
  refine q_ald hx hb hA hW (rO_42 (g := r 42) rfl) 4 rfl (by decide) (by decide) (x := (r 42) 4) rfl dX14_warnings_6 ?_
  refine q_ci (va_runV (As := [.int ((r 42) 4)]) (rest := []) ⟨hx, hb, hml, hown, hts⟩ (kX14_ok l E (rO E f M r) n M r ((r 42) 4) rO_K) (cwV 1 hts gX14_warnings_X14_ok rfl rfl rfl (by decide +kernel) ⟨(Nat.le_of_ble_eq_true rfl), (Nat.le_of_ble_eq_true rfl)⟩) (q_pV hA hW hS (ci := 12) rfl rO_0) rfl rfl hl.1 rfl (lv_room (Nat.le_of_ble_eq_true rfl)) dX14_warnings_7 ⟨Nat.le_of_ble_eq_true rfl, Nat.le_of_ble_eq_true rfl⟩) hS (fun r_7 f_7 n_7 H locs hp hW hS => ?_)
  obtain ⟨rfl, rfl, rfl⟩ := hp
  have hW : q_W E (rO E f M (rp r 100 (fun _ => 0))) n H := by rw [rO_rO] at hW; exact hW
  have hW : q_W E (rO E f M (rp r 100 (fun _ => 0))) n H := hW
  exact q_iret hx hb hr hlocks hW hS ⟨rfl, rfl, rfl⟩ (Nat.le_of_ble_eq_true rfl) (Nat.le_of_ble_eq_true rfl) dX14_warnings_10

set_option maxHeartbeats 4000000 in
set_option maxRecDepth 100000 in
theorem kX14_notes (l : Launch) (E : q_E) (f : q_H) (n : Nat) (M : Nat) (r : q_R)  (hm : RM E f M r) : Met l yX14_notes wsX14_notes ({ frames := 1, cells := 0, slots := 0, locals := 21 }) (q_P E [.ref M] f n) (q_Qi E (fun r0 f1 n1 => (r 42) 5 = r0 ∧ rO E f M (rp r 100 (fun _ => 0)) = f1 ∧ n = n1)) 0 0 (q_ge E) := by
  refine Met.ofW (cc := cX14_notes) (maxL := 1) (ret := (some .int)) (by decide) rfl ?_
  intro p e s m args below meth c s₁ B hml hv
  obtain ⟨rfl, hA, hW⟩ := hv
  have hx := B.exec
  have hb := B.bytes
  have hr := B.returns
  have hts := atoms_spec (ws := wsX14_notes) B.pre
  have hown : s.vm.findClass RX14 = some m.cls := findClass_of_methodNamed B.named
  have hlocks := B.notSynchronized
  have hS : va_S (q_ge E) s.heap s.heap [] := va_S.rf
  have iX14 : ∀ w ∈ wsX140, w ∈ wsX14_notes := by decide +kernel
  have hl := lv_entry ([.ref M]) (n := 1) (Nat.le_of_ble_eq_true rfl)
  rw [lg_entry_eq]
  generalize (lg_sl ([.ref M]) ++ List.replicate (1 - (lg_sl ([.ref M])).length) Slot.unset).toArray = ls at hl ⊢
  have hl : lv_has ls 1 [(0, .ref M)] := hl
  have hmE := hm.eq
  rw [hm.eq] at hW
  refine lv_aload_n hx hb dX14_notes_0 rfl (lv_at hl 0 rfl) ?_
  refine lv_aload_n hx hb dX14_notes_1 rfl (lv_at hl 0 rfl) ?_
  refine q_get hx hb hts hown hA hW iX14 rO_0 rfl 19 (by decide) (hts (.fieldLink RX14 45 "HighRecipesModel" "now" "[I") (by decide +kernel)) (fun _ h9 => h9) (v := .ref (M + 42)) rfl dX14_notes_2 ?_
  refine lv_iconst (v := 5) hx hb dX14_notes_5 (by decide) ?_
  refine q_ald hx hb hA hW (rO_42 (g := r 42) rfl) 5 rfl (by decide) (by decide) (x := (r 42) 5) rfl dX14_notes_6 ?_
  refine q_ci (va_runV (As := [.int ((r 42) 5)]) (rest := []) ⟨hx, hb, hml, hown, hts⟩ (kX14_ok l E (rO E f M r) n M r ((r 42) 5) rO_K) (cwV 1 hts gX14_notes_X14_ok rfl rfl rfl (by decide +kernel) ⟨(Nat.le_of_ble_eq_true rfl), (Nat.le_of_ble_eq_true rfl)⟩) (q_pV hA hW hS (ci := 12) rfl rO_0) rfl rfl hl.1 rfl (lv_room (Nat.le_of_ble_eq_true rfl)) dX14_notes_7 ⟨Nat.le_of_ble_eq_true rfl, Nat.le_of_ble_eq_true rfl⟩) hS (fun r_7 f_7 n_7 H locs hp hW hS => ?_)
  obtain ⟨rfl, rfl, rfl⟩ := hp
  have hW : q_W E (rO E f M (rp r 100 (fun _ => 0))) n H := by rw [rO_rO] at hW; exact hW
  have hW : q_W E (rO E f M (rp r 100 (fun _ => 0))) n H := hW
  exact q_iret hx hb hr hlocks hW hS ⟨rfl, rfl, rfl⟩ (Nat.le_of_ble_eq_true rfl) (Nat.le_of_ble_eq_true rfl) dX14_notes_10

set_option maxHeartbeats 4000000 in
set_option maxRecDepth 100000 in
theorem kX14_ofPan_0 (l : Launch) (E : q_E) (f : q_H) (n : Nat) (M : Nat) (r : q_R) (pn i : Nat)  (hm : RM E f M r) (hpn9 : (r 120 0) = nI pn) (hpn : pn ≤ 8) (hi : i < pn) : Met l yX14_ofPan wsX14_ofPan ({ frames := 2, cells := 0, slots := 0, locals := 43 }) (q_P E [.ref M, .int (nI i), .int 0] f n) (q_Qi E (fun r0 f1 n1 => (r 42) (52 + 4 * i) = r0 ∧ rO E f M (rp r 100 (fun _ => 0)) = f1 ∧ n = n1)) 0 0 (q_ge E) := by
  refine Met.ofW (cc := cX14_ofPan) (maxL := 3) (ret := (some .int)) (by decide) rfl ?_
  intro p e s m args below meth c s₁ B hml hv
  obtain ⟨rfl, hA, hW⟩ := hv
  have hx := B.exec
  have hb := B.bytes
  have hr := B.returns
  have hts := atoms_spec (ws := wsX14_ofPan) B.pre
  have hown : s.vm.findClass RX14 = some m.cls := findClass_of_methodNamed B.named
  have hlocks := B.notSynchronized
  have hS : va_S (q_ge E) s.heap s.heap [] := va_S.rf
  have iX14 : ∀ w ∈ wsX140, w ∈ wsX14_ofPan := by decide +kernel
  have hl := lv_entry ([.ref M, .int (nI i), .int 0]) (n := 3) (Nat.le_of_ble_eq_true rfl)
  rw [lg_entry_eq]
  generalize (lg_sl ([.ref M, .int (nI i), .int 0]) ++ List.replicate (3 - (lg_sl ([.ref M, .int (nI i), .int 0])).length) Slot.unset).toArray = ls at hl ⊢
  have hl : lv_has ls 3 [(0, .ref M), (1, .int (nI i)), (2, .int 0)] := hl
  have hmE := hm.eq
  rw [hm.eq] at hW
  refine lv_aload_n hx hb dX14_ofPan_0 rfl (lv_at hl 0 rfl) ?_
  refine lv_iconst (v := 0) hx hb dX14_ofPan_1 (by decide) ?_
  refine q_put hx hb hts hown hA hW hS iX14 tyX14 tyX14_ok nmX14 rO_0 rfl 0 (by decide) (hts (.fieldLink RX14 54 "HighRecipesModel" "thrown" "I") (by decide +kernel)) (fun _ h9 => h9) rfl rfl rfl (Nat.le_of_ble_eq_true rfl) dX14_ofPan_2 (fun H locs hW hS => ?_)
  have hW := q_s0 100 (0) hW rfl (by decide)
  refine lv_aload_n hx hb dX14_ofPan_5 rfl (lv_at hl 0 rfl) ?_
  refine lv_iload_n hx hb dX14_ofPan_6 rfl (lv_at hl 1 rfl) ?_
  refine q_ci (va_runV (As := [.int (nI i)]) (rest := []) ⟨hx, hb, hml, hown, hts⟩ (kX14_isPan l E (rO E f M (rp r 100 (fun _ => 0))) n M (rp r 100 (fun _ => 0)) pn (nI i) rO_K hpn9) (cwV 1 hts gX14_ofPan_X14_isPan rfl rfl rfl (by decide +kernel) ⟨(Nat.le_of_ble_eq_true rfl), (Nat.le_of_ble_eq_true rfl)⟩) (q_pV hA hW hS (ci := 12) rfl rO_0) rfl rfl hl.1 rfl (lv_room (Nat.le_of_ble_eq_true rfl)) dX14_ofPan_7 ⟨Nat.le_of_ble_eq_true rfl, Nat.le_of_ble_eq_true rfl⟩) hS (fun r_7 f_7 n_7 H locs hp hW hS => ?_)
  obtain ⟨rfl, rfl, rfl⟩ := hp
  have hW : q_W E (rO E f M (rp r 100 (fun _ => 0))) n H := hW
  refine lv_if_eq (tgt := 26) hx hb dX14_ofPan_10 (by decide) (fun c_10 => False.elim ((fun h9 => absurd h9 (b01_T (b_in_ix hi (by omega)))) c_10)) (fun c_10 => ?_)
  refine lv_aload_n hx hb dX14_ofPan_13 rfl (lv_at hl 0 rfl) ?_
  refine q_get hx hb hts hown hA hW iX14 rO_0 rfl 19 (by decide) (hts (.fieldLink RX14 45 "HighRecipesModel" "now" "[I") (by decide +kernel)) (fun _ h9 => h9) (v := .ref (M + 42)) rfl dX14_ofPan_14 ?_
  refine lv_iload_n hx hb dX14_ofPan_17 rfl (lv_at hl 1 rfl) ?_
  refine lv_iload_n hx hb dX14_ofPan_18 rfl (lv_at hl 2 rfl) ?_
  refine q_ci (va_runS (As := [.int (nI i), .int 0]) (rest := [.ref (M + 42)]) ⟨hx, hb, hml, hown, hts⟩ (kX14_of_0 l E (rO E f M (rp r 100 (fun _ => 0))) n i) (va_cwS 2 hts gX14_ofPan_X14_of rfl rfl rfl (by decide +kernel) ⟨(Nat.le_of_ble_eq_true rfl), (Nat.le_of_ble_eq_true rfl)⟩) (q_pS hA hW hS) rfl rfl hl.1 rfl (lv_room (Nat.le_of_ble_eq_true rfl)) dX14_ofPan_19 ⟨Nat.le_of_ble_eq_true rfl, Nat.le_of_ble_eq_true rfl⟩) hS (fun r_19 f_19 n_19 H locs hp hW hS => ?_)
  obtain ⟨rfl, rfl, rfl⟩ := hp
  have hW : q_W E (rO E f M (rp r 100 (fun _ => 0))) n H := hW
  refine q_ald hx hb hA hW (rO_42 (g := r 42) rfl) (52 + 4 * i) rfl (by omega) (by decide) (x := (r 42) (52 + 4 * i)) rfl dX14_ofPan_22 ?_
  refine lv_goto (tgt := 31) hx hb dX14_ofPan_23 (by decide) ?_
  exact q_iret hx hb hr hlocks hW hS ⟨rfl, rfl, rfl⟩ (Nat.le_of_ble_eq_true rfl) (Nat.le_of_ble_eq_true rfl) dX14_ofPan_31

set_option maxHeartbeats 4000000 in
set_option maxRecDepth 100000 in
theorem kX14_ofPan_1 (l : Launch) (E : q_E) (f : q_H) (n : Nat) (M : Nat) (r : q_R) (pn i : Nat)  (hm : RM E f M r) (hpn9 : (r 120 0) = nI pn) (hpn : pn ≤ 8) (hi : i < pn) : Met l yX14_ofPan wsX14_ofPan ({ frames := 2, cells := 0, slots := 0, locals := 43 }) (q_P E [.ref M, .int (nI i), .int 1] f n) (q_Qi E (fun r0 f1 n1 => (r 42) (53 + 4 * i) = r0 ∧ rO E f M (rp r 100 (fun _ => 0)) = f1 ∧ n = n1)) 0 0 (q_ge E) := by
  refine Met.ofW (cc := cX14_ofPan) (maxL := 3) (ret := (some .int)) (by decide) rfl ?_
  intro p e s m args below meth c s₁ B hml hv
  obtain ⟨rfl, hA, hW⟩ := hv
  have hx := B.exec
  have hb := B.bytes
  have hr := B.returns
  have hts := atoms_spec (ws := wsX14_ofPan) B.pre
  have hown : s.vm.findClass RX14 = some m.cls := findClass_of_methodNamed B.named
  have hlocks := B.notSynchronized
  have hS : va_S (q_ge E) s.heap s.heap [] := va_S.rf
  have iX14 : ∀ w ∈ wsX140, w ∈ wsX14_ofPan := by decide +kernel
  have hl := lv_entry ([.ref M, .int (nI i), .int 1]) (n := 3) (Nat.le_of_ble_eq_true rfl)
  rw [lg_entry_eq]
  generalize (lg_sl ([.ref M, .int (nI i), .int 1]) ++ List.replicate (3 - (lg_sl ([.ref M, .int (nI i), .int 1])).length) Slot.unset).toArray = ls at hl ⊢
  have hl : lv_has ls 3 [(0, .ref M), (1, .int (nI i)), (2, .int 1)] := hl
  have hmE := hm.eq
  rw [hm.eq] at hW
  refine lv_aload_n hx hb dX14_ofPan_0 rfl (lv_at hl 0 rfl) ?_
  refine lv_iconst (v := 0) hx hb dX14_ofPan_1 (by decide) ?_
  refine q_put hx hb hts hown hA hW hS iX14 tyX14 tyX14_ok nmX14 rO_0 rfl 0 (by decide) (hts (.fieldLink RX14 54 "HighRecipesModel" "thrown" "I") (by decide +kernel)) (fun _ h9 => h9) rfl rfl rfl (Nat.le_of_ble_eq_true rfl) dX14_ofPan_2 (fun H locs hW hS => ?_)
  have hW := q_s0 100 (0) hW rfl (by decide)
  refine lv_aload_n hx hb dX14_ofPan_5 rfl (lv_at hl 0 rfl) ?_
  refine lv_iload_n hx hb dX14_ofPan_6 rfl (lv_at hl 1 rfl) ?_
  refine q_ci (va_runV (As := [.int (nI i)]) (rest := []) ⟨hx, hb, hml, hown, hts⟩ (kX14_isPan l E (rO E f M (rp r 100 (fun _ => 0))) n M (rp r 100 (fun _ => 0)) pn (nI i) rO_K hpn9) (cwV 1 hts gX14_ofPan_X14_isPan rfl rfl rfl (by decide +kernel) ⟨(Nat.le_of_ble_eq_true rfl), (Nat.le_of_ble_eq_true rfl)⟩) (q_pV hA hW hS (ci := 12) rfl rO_0) rfl rfl hl.1 rfl (lv_room (Nat.le_of_ble_eq_true rfl)) dX14_ofPan_7 ⟨Nat.le_of_ble_eq_true rfl, Nat.le_of_ble_eq_true rfl⟩) hS (fun r_7 f_7 n_7 H locs hp hW hS => ?_)
  obtain ⟨rfl, rfl, rfl⟩ := hp
  have hW : q_W E (rO E f M (rp r 100 (fun _ => 0))) n H := hW
  refine lv_if_eq (tgt := 26) hx hb dX14_ofPan_10 (by decide) (fun c_10 => False.elim ((fun h9 => absurd h9 (b01_T (b_in_ix hi (by omega)))) c_10)) (fun c_10 => ?_)
  refine lv_aload_n hx hb dX14_ofPan_13 rfl (lv_at hl 0 rfl) ?_
  refine q_get hx hb hts hown hA hW iX14 rO_0 rfl 19 (by decide) (hts (.fieldLink RX14 45 "HighRecipesModel" "now" "[I") (by decide +kernel)) (fun _ h9 => h9) (v := .ref (M + 42)) rfl dX14_ofPan_14 ?_
  refine lv_iload_n hx hb dX14_ofPan_17 rfl (lv_at hl 1 rfl) ?_
  refine lv_iload_n hx hb dX14_ofPan_18 rfl (lv_at hl 2 rfl) ?_
  refine q_ci (va_runS (As := [.int (nI i), .int 1]) (rest := [.ref (M + 42)]) ⟨hx, hb, hml, hown, hts⟩ (kX14_of_1 l E (rO E f M (rp r 100 (fun _ => 0))) n i) (va_cwS 2 hts gX14_ofPan_X14_of rfl rfl rfl (by decide +kernel) ⟨(Nat.le_of_ble_eq_true rfl), (Nat.le_of_ble_eq_true rfl)⟩) (q_pS hA hW hS) rfl rfl hl.1 rfl (lv_room (Nat.le_of_ble_eq_true rfl)) dX14_ofPan_19 ⟨Nat.le_of_ble_eq_true rfl, Nat.le_of_ble_eq_true rfl⟩) hS (fun r_19 f_19 n_19 H locs hp hW hS => ?_)
  obtain ⟨rfl, rfl, rfl⟩ := hp
  have hW : q_W E (rO E f M (rp r 100 (fun _ => 0))) n H := hW
  refine q_ald hx hb hA hW (rO_42 (g := r 42) rfl) (53 + 4 * i) rfl (by omega) (by decide) (x := (r 42) (53 + 4 * i)) rfl dX14_ofPan_22 ?_
  refine lv_goto (tgt := 31) hx hb dX14_ofPan_23 (by decide) ?_
  exact q_iret hx hb hr hlocks hW hS ⟨rfl, rfl, rfl⟩ (Nat.le_of_ble_eq_true rfl) (Nat.le_of_ble_eq_true rfl) dX14_ofPan_31

set_option maxHeartbeats 4000000 in
set_option maxRecDepth 100000 in
theorem kX14_ofPan_2 (l : Launch) (E : q_E) (f : q_H) (n : Nat) (M : Nat) (r : q_R) (pn i : Nat)  (hm : RM E f M r) (hpn9 : (r 120 0) = nI pn) (hpn : pn ≤ 8) (hi : i < pn) : Met l yX14_ofPan wsX14_ofPan ({ frames := 2, cells := 0, slots := 0, locals := 43 }) (q_P E [.ref M, .int (nI i), .int 2] f n) (q_Qi E (fun r0 f1 n1 => (r 42) (54 + 4 * i) = r0 ∧ rO E f M (rp r 100 (fun _ => 0)) = f1 ∧ n = n1)) 0 0 (q_ge E) := by
  refine Met.ofW (cc := cX14_ofPan) (maxL := 3) (ret := (some .int)) (by decide) rfl ?_
  intro p e s m args below meth c s₁ B hml hv
  obtain ⟨rfl, hA, hW⟩ := hv
  have hx := B.exec
  have hb := B.bytes
  have hr := B.returns
  have hts := atoms_spec (ws := wsX14_ofPan) B.pre
  have hown : s.vm.findClass RX14 = some m.cls := findClass_of_methodNamed B.named
  have hlocks := B.notSynchronized
  have hS : va_S (q_ge E) s.heap s.heap [] := va_S.rf
  have iX14 : ∀ w ∈ wsX140, w ∈ wsX14_ofPan := by decide +kernel
  have hl := lv_entry ([.ref M, .int (nI i), .int 2]) (n := 3) (Nat.le_of_ble_eq_true rfl)
  rw [lg_entry_eq]
  generalize (lg_sl ([.ref M, .int (nI i), .int 2]) ++ List.replicate (3 - (lg_sl ([.ref M, .int (nI i), .int 2])).length) Slot.unset).toArray = ls at hl ⊢
  have hl : lv_has ls 3 [(0, .ref M), (1, .int (nI i)), (2, .int 2)] := hl
  have hmE := hm.eq
  rw [hm.eq] at hW
  refine lv_aload_n hx hb dX14_ofPan_0 rfl (lv_at hl 0 rfl) ?_
  refine lv_iconst (v := 0) hx hb dX14_ofPan_1 (by decide) ?_
  refine q_put hx hb hts hown hA hW hS iX14 tyX14 tyX14_ok nmX14 rO_0 rfl 0 (by decide) (hts (.fieldLink RX14 54 "HighRecipesModel" "thrown" "I") (by decide +kernel)) (fun _ h9 => h9) rfl rfl rfl (Nat.le_of_ble_eq_true rfl) dX14_ofPan_2 (fun H locs hW hS => ?_)
  have hW := q_s0 100 (0) hW rfl (by decide)
  refine lv_aload_n hx hb dX14_ofPan_5 rfl (lv_at hl 0 rfl) ?_
  refine lv_iload_n hx hb dX14_ofPan_6 rfl (lv_at hl 1 rfl) ?_
  refine q_ci (va_runV (As := [.int (nI i)]) (rest := []) ⟨hx, hb, hml, hown, hts⟩ (kX14_isPan l E (rO E f M (rp r 100 (fun _ => 0))) n M (rp r 100 (fun _ => 0)) pn (nI i) rO_K hpn9) (cwV 1 hts gX14_ofPan_X14_isPan rfl rfl rfl (by decide +kernel) ⟨(Nat.le_of_ble_eq_true rfl), (Nat.le_of_ble_eq_true rfl)⟩) (q_pV hA hW hS (ci := 12) rfl rO_0) rfl rfl hl.1 rfl (lv_room (Nat.le_of_ble_eq_true rfl)) dX14_ofPan_7 ⟨Nat.le_of_ble_eq_true rfl, Nat.le_of_ble_eq_true rfl⟩) hS (fun r_7 f_7 n_7 H locs hp hW hS => ?_)
  obtain ⟨rfl, rfl, rfl⟩ := hp
  have hW : q_W E (rO E f M (rp r 100 (fun _ => 0))) n H := hW
  refine lv_if_eq (tgt := 26) hx hb dX14_ofPan_10 (by decide) (fun c_10 => False.elim ((fun h9 => absurd h9 (b01_T (b_in_ix hi (by omega)))) c_10)) (fun c_10 => ?_)
  refine lv_aload_n hx hb dX14_ofPan_13 rfl (lv_at hl 0 rfl) ?_
  refine q_get hx hb hts hown hA hW iX14 rO_0 rfl 19 (by decide) (hts (.fieldLink RX14 45 "HighRecipesModel" "now" "[I") (by decide +kernel)) (fun _ h9 => h9) (v := .ref (M + 42)) rfl dX14_ofPan_14 ?_
  refine lv_iload_n hx hb dX14_ofPan_17 rfl (lv_at hl 1 rfl) ?_
  refine lv_iload_n hx hb dX14_ofPan_18 rfl (lv_at hl 2 rfl) ?_
  refine q_ci (va_runS (As := [.int (nI i), .int 2]) (rest := [.ref (M + 42)]) ⟨hx, hb, hml, hown, hts⟩ (kX14_of_2 l E (rO E f M (rp r 100 (fun _ => 0))) n i) (va_cwS 2 hts gX14_ofPan_X14_of rfl rfl rfl (by decide +kernel) ⟨(Nat.le_of_ble_eq_true rfl), (Nat.le_of_ble_eq_true rfl)⟩) (q_pS hA hW hS) rfl rfl hl.1 rfl (lv_room (Nat.le_of_ble_eq_true rfl)) dX14_ofPan_19 ⟨Nat.le_of_ble_eq_true rfl, Nat.le_of_ble_eq_true rfl⟩) hS (fun r_19 f_19 n_19 H locs hp hW hS => ?_)
  obtain ⟨rfl, rfl, rfl⟩ := hp
  have hW : q_W E (rO E f M (rp r 100 (fun _ => 0))) n H := hW
  refine q_ald hx hb hA hW (rO_42 (g := r 42) rfl) (54 + 4 * i) rfl (by omega) (by decide) (x := (r 42) (54 + 4 * i)) rfl dX14_ofPan_22 ?_
  refine lv_goto (tgt := 31) hx hb dX14_ofPan_23 (by decide) ?_
  exact q_iret hx hb hr hlocks hW hS ⟨rfl, rfl, rfl⟩ (Nat.le_of_ble_eq_true rfl) (Nat.le_of_ble_eq_true rfl) dX14_ofPan_31

set_option maxHeartbeats 4000000 in
set_option maxRecDepth 100000 in
theorem kX14_ofPan_3 (l : Launch) (E : q_E) (f : q_H) (n : Nat) (M : Nat) (r : q_R) (pn i : Nat)  (hm : RM E f M r) (hpn9 : (r 120 0) = nI pn) (hpn : pn ≤ 8) (hi : i < pn) : Met l yX14_ofPan wsX14_ofPan ({ frames := 2, cells := 0, slots := 0, locals := 43 }) (q_P E [.ref M, .int (nI i), .int 3] f n) (q_Qi E (fun r0 f1 n1 => (r 42) (55 + 4 * i) = r0 ∧ rO E f M (rp r 100 (fun _ => 0)) = f1 ∧ n = n1)) 0 0 (q_ge E) := by
  refine Met.ofW (cc := cX14_ofPan) (maxL := 3) (ret := (some .int)) (by decide) rfl ?_
  intro p e s m args below meth c s₁ B hml hv
  obtain ⟨rfl, hA, hW⟩ := hv
  have hx := B.exec
  have hb := B.bytes
  have hr := B.returns
  have hts := atoms_spec (ws := wsX14_ofPan) B.pre
  have hown : s.vm.findClass RX14 = some m.cls := findClass_of_methodNamed B.named
  have hlocks := B.notSynchronized
  have hS : va_S (q_ge E) s.heap s.heap [] := va_S.rf
  have iX14 : ∀ w ∈ wsX140, w ∈ wsX14_ofPan := by decide +kernel
  have hl := lv_entry ([.ref M, .int (nI i), .int 3]) (n := 3) (Nat.le_of_ble_eq_true rfl)
  rw [lg_entry_eq]
  generalize (lg_sl ([.ref M, .int (nI i), .int 3]) ++ List.replicate (3 - (lg_sl ([.ref M, .int (nI i), .int 3])).length) Slot.unset).toArray = ls at hl ⊢
  have hl : lv_has ls 3 [(0, .ref M), (1, .int (nI i)), (2, .int 3)] := hl
  have hmE := hm.eq
  rw [hm.eq] at hW
  refine lv_aload_n hx hb dX14_ofPan_0 rfl (lv_at hl 0 rfl) ?_
  refine lv_iconst (v := 0) hx hb dX14_ofPan_1 (by decide) ?_
  refine q_put hx hb hts hown hA hW hS iX14 tyX14 tyX14_ok nmX14 rO_0 rfl 0 (by decide) (hts (.fieldLink RX14 54 "HighRecipesModel" "thrown" "I") (by decide +kernel)) (fun _ h9 => h9) rfl rfl rfl (Nat.le_of_ble_eq_true rfl) dX14_ofPan_2 (fun H locs hW hS => ?_)
  have hW := q_s0 100 (0) hW rfl (by decide)
  refine lv_aload_n hx hb dX14_ofPan_5 rfl (lv_at hl 0 rfl) ?_
  refine lv_iload_n hx hb dX14_ofPan_6 rfl (lv_at hl 1 rfl) ?_
  refine q_ci (va_runV (As := [.int (nI i)]) (rest := []) ⟨hx, hb, hml, hown, hts⟩ (kX14_isPan l E (rO E f M (rp r 100 (fun _ => 0))) n M (rp r 100 (fun _ => 0)) pn (nI i) rO_K hpn9) (cwV 1 hts gX14_ofPan_X14_isPan rfl rfl rfl (by decide +kernel) ⟨(Nat.le_of_ble_eq_true rfl), (Nat.le_of_ble_eq_true rfl)⟩) (q_pV hA hW hS (ci := 12) rfl rO_0) rfl rfl hl.1 rfl (lv_room (Nat.le_of_ble_eq_true rfl)) dX14_ofPan_7 ⟨Nat.le_of_ble_eq_true rfl, Nat.le_of_ble_eq_true rfl⟩) hS (fun r_7 f_7 n_7 H locs hp hW hS => ?_)
  obtain ⟨rfl, rfl, rfl⟩ := hp
  have hW : q_W E (rO E f M (rp r 100 (fun _ => 0))) n H := hW
  refine lv_if_eq (tgt := 26) hx hb dX14_ofPan_10 (by decide) (fun c_10 => False.elim ((fun h9 => absurd h9 (b01_T (b_in_ix hi (by omega)))) c_10)) (fun c_10 => ?_)
  refine lv_aload_n hx hb dX14_ofPan_13 rfl (lv_at hl 0 rfl) ?_
  refine q_get hx hb hts hown hA hW iX14 rO_0 rfl 19 (by decide) (hts (.fieldLink RX14 45 "HighRecipesModel" "now" "[I") (by decide +kernel)) (fun _ h9 => h9) (v := .ref (M + 42)) rfl dX14_ofPan_14 ?_
  refine lv_iload_n hx hb dX14_ofPan_17 rfl (lv_at hl 1 rfl) ?_
  refine lv_iload_n hx hb dX14_ofPan_18 rfl (lv_at hl 2 rfl) ?_
  refine q_ci (va_runS (As := [.int (nI i), .int 3]) (rest := [.ref (M + 42)]) ⟨hx, hb, hml, hown, hts⟩ (kX14_of_3 l E (rO E f M (rp r 100 (fun _ => 0))) n i) (va_cwS 2 hts gX14_ofPan_X14_of rfl rfl rfl (by decide +kernel) ⟨(Nat.le_of_ble_eq_true rfl), (Nat.le_of_ble_eq_true rfl)⟩) (q_pS hA hW hS) rfl rfl hl.1 rfl (lv_room (Nat.le_of_ble_eq_true rfl)) dX14_ofPan_19 ⟨Nat.le_of_ble_eq_true rfl, Nat.le_of_ble_eq_true rfl⟩) hS (fun r_19 f_19 n_19 H locs hp hW hS => ?_)
  obtain ⟨rfl, rfl, rfl⟩ := hp
  have hW : q_W E (rO E f M (rp r 100 (fun _ => 0))) n H := hW
  refine q_ald hx hb hA hW (rO_42 (g := r 42) rfl) (55 + 4 * i) rfl (by omega) (by decide) (x := (r 42) (55 + 4 * i)) rfl dX14_ofPan_22 ?_
  refine lv_goto (tgt := 31) hx hb dX14_ofPan_23 (by decide) ?_
  exact q_iret hx hb hr hlocks hW hS ⟨rfl, rfl, rfl⟩ (Nat.le_of_ble_eq_true rfl) (Nat.le_of_ble_eq_true rfl) dX14_ofPan_31

set_option maxHeartbeats 4000000 in
set_option maxRecDepth 100000 in
theorem kX14_ofPan_F (l : Launch) (E : q_E) (f : q_H) (n : Nat) (M : Nat) (r : q_R) (pn : Nat) (x w : Int32)  (hm : RM E f M r) (hpn9 : (r 120 0) = nI pn) (hpn : pn ≤ 8) (hno : x < 0 ∨ nI pn ≤ x) : Met l yX14_ofPan wsX14_ofPan ({ frames := 2, cells := 0, slots := 0, locals := 43 }) (q_P E [.ref M, .int x, .int w] f n) (q_Qi E (fun r0 f1 n1 => 0 = r0 ∧ rO E f M (rp r 100 (fun _ => 1)) = f1 ∧ n = n1)) 0 0 (q_ge E) := by
  refine Met.ofW (cc := cX14_ofPan) (maxL := 3) (ret := (some .int)) (by decide) rfl ?_
  intro p e s m args below meth c s₁ B hml hv
  obtain ⟨rfl, hA, hW⟩ := hv
  have hx := B.exec
  have hb := B.bytes
  have hr := B.returns
  have hts := atoms_spec (ws := wsX14_ofPan) B.pre
  have hown : s.vm.findClass RX14 = some m.cls := findClass_of_methodNamed B.named
  have hlocks := B.notSynchronized
  have hS : va_S (q_ge E) s.heap s.heap [] := va_S.rf
  have iX14 : ∀ w ∈ wsX140, w ∈ wsX14_ofPan := by decide +kernel
  have hl := lv_entry ([.ref M, .int x, .int w]) (n := 3) (Nat.le_of_ble_eq_true rfl)
  rw [lg_entry_eq]
  generalize (lg_sl ([.ref M, .int x, .int w]) ++ List.replicate (3 - (lg_sl ([.ref M, .int x, .int w])).length) Slot.unset).toArray = ls at hl ⊢
  have hl : lv_has ls 3 [(0, .ref M), (1, .int x), (2, .int w)] := hl
  have hmE := hm.eq
  rw [hm.eq] at hW
  refine lv_aload_n hx hb dX14_ofPan_0 rfl (lv_at hl 0 rfl) ?_
  refine lv_iconst (v := 0) hx hb dX14_ofPan_1 (by decide) ?_
  refine q_put hx hb hts hown hA hW hS iX14 tyX14 tyX14_ok nmX14 rO_0 rfl 0 (by decide) (hts (.fieldLink RX14 54 "HighRecipesModel" "thrown" "I") (by decide +kernel)) (fun _ h9 => h9) rfl rfl rfl (Nat.le_of_ble_eq_true rfl) dX14_ofPan_2 (fun H locs hW hS => ?_)
  have hW := q_s0 100 (0) hW rfl (by decide)
  refine lv_aload_n hx hb dX14_ofPan_5 rfl (lv_at hl 0 rfl) ?_
  refine lv_iload_n hx hb dX14_ofPan_6 rfl (lv_at hl 1 rfl) ?_
  refine q_ci (va_runV (As := [.int x]) (rest := []) ⟨hx, hb, hml, hown, hts⟩ (kX14_isPan l E (rO E f M (rp r 100 (fun _ => 0))) n M (rp r 100 (fun _ => 0)) pn x rO_K hpn9) (cwV 1 hts gX14_ofPan_X14_isPan rfl rfl rfl (by decide +kernel) ⟨(Nat.le_of_ble_eq_true rfl), (Nat.le_of_ble_eq_true rfl)⟩) (q_pV hA hW hS (ci := 12) rfl rO_0) rfl rfl hl.1 rfl (lv_room (Nat.le_of_ble_eq_true rfl)) dX14_ofPan_7 ⟨Nat.le_of_ble_eq_true rfl, Nat.le_of_ble_eq_true rfl⟩) hS (fun r_7 f_7 n_7 H locs hp hW hS => ?_)
  obtain ⟨rfl, rfl, rfl⟩ := hp
  have hW : q_W E (rO E f M (rp r 100 (fun _ => 0))) n H := hW
  refine lv_if_eq (tgt := 26) hx hb dX14_ofPan_10 (by decide) (fun c_10 => ?_) (fun c_10 => False.elim ((fun h9 => h9 (b01_F (b_in_no hno (by omega)))) c_10))
  refine lv_aload_n hx hb dX14_ofPan_26 rfl (lv_at hl 0 rfl) ?_
  refine lv_iconst (v := 1) hx hb dX14_ofPan_27 (by decide) ?_
  refine q_ci (va_runV (As := [.int 1]) (rest := []) ⟨hx, hb, hml, hown, hts⟩ (kX14_no l E (rO E f M (rp r 100 (fun _ => 0))) n M (rp r 100 (fun _ => 0)) 1 rO_K) (cwV 1 hts gX14_ofPan_X14_no rfl rfl rfl (by decide +kernel) ⟨(Nat.le_of_ble_eq_true rfl), (Nat.le_of_ble_eq_true rfl)⟩) (q_pV hA hW hS (ci := 12) rfl rO_0) rfl rfl hl.1 rfl (lv_room (Nat.le_of_ble_eq_true rfl)) dX14_ofPan_28 ⟨Nat.le_of_ble_eq_true rfl, Nat.le_of_ble_eq_true rfl⟩) hS (fun r_28 f_28 n_28 H locs hp hW hS => ?_)
  obtain ⟨rfl, rfl, rfl⟩ := hp
  have hW : q_W E (rO E f M (rp (rp r 100 (fun _ => 0)) 100 (fun _ => 1))) n H := by rw [rO_rO] at hW; exact hW
  rw [rp_d0] at hW
  have hW : q_W E (rO E f M (rp r 100 (fun _ => 1))) n H := hW
  exact q_iret hx hb hr hlocks hW hS ⟨rfl, rfl, rfl⟩ (Nat.le_of_ble_eq_true rfl) (Nat.le_of_ble_eq_true rfl) dX14_ofPan_31

set_option maxHeartbeats 4000000 in
set_option maxRecDepth 100000 in
theorem kX14_waterIn (l : Launch) (E : q_E) (f : q_H) (n : Nat) (M : Nat) (r : q_R) (pn i : Nat)  (hm : RM E f M r) (hpn9 : (r 120 0) = nI pn) (hpn : pn ≤ 8) (hi : i < pn) : Met l yX14_waterIn wsX14_waterIn ({ frames := 3, cells := 0, slots := 0, locals := 65 }) (q_P E [.ref M, .int (nI i)] f n) (q_Qi E (fun r0 f1 n1 => (r 42) (52 + 4 * i) = r0 ∧ rO E f M (rp r 100 (fun _ => 0)) = f1 ∧ n = n1)) 0 0 (q_ge E) := by
  refine Met.ofW (cc := cX14_waterIn) (maxL := 2) (ret := (some .int)) (by decide) rfl ?_
  intro p e s m args below meth c s₁ B hml hv
  obtain ⟨rfl, hA, hW⟩ := hv
  have hx := B.exec
  have hb := B.bytes
  have hr := B.returns
  have hts := atoms_spec (ws := wsX14_waterIn) B.pre
  have hown : s.vm.findClass RX14 = some m.cls := findClass_of_methodNamed B.named
  have hlocks := B.notSynchronized
  have hS : va_S (q_ge E) s.heap s.heap [] := va_S.rf
  have hl := lv_entry ([.ref M, .int (nI i)]) (n := 2) (Nat.le_of_ble_eq_true rfl)
  rw [lg_entry_eq]
  generalize (lg_sl ([.ref M, .int (nI i)]) ++ List.replicate (2 - (lg_sl ([.ref M, .int (nI i)])).length) Slot.unset).toArray = ls at hl ⊢
  have hl : lv_has ls 2 [(0, .ref M), (1, .int (nI i))] := hl
  have hmE := hm.eq
  rw [hm.eq] at hW
  refine lv_aload_n hx hb dX14_waterIn_0 rfl (lv_at hl 0 rfl) ?_
  refine lv_iload_n hx hb dX14_waterIn_1 rfl (lv_at hl 1 rfl) ?_
  refine lv_iconst (v := 0) hx hb dX14_waterIn_2 (by decide) ?_
  refine q_ci (va_runV (As := [.int (nI i), .int 0]) (rest := []) ⟨hx, hb, hml, hown, hts⟩ (kX14_ofPan_0 l E (rO E f M r) n M r pn i rO_K hpn9 (by assumption) (by assumption)) (cwV 2 hts gX14_waterIn_X14_ofPan rfl rfl rfl (by decide +kernel) ⟨(Nat.le_of_ble_eq_true rfl), (Nat.le_of_ble_eq_true rfl)⟩) (q_pV hA hW hS (ci := 12) rfl rO_0) rfl rfl hl.1 rfl (lv_room (Nat.le_of_ble_eq_true rfl)) dX14_waterIn_3 ⟨Nat.le_of_ble_eq_true rfl, Nat.le_of_ble_eq_true rfl⟩) hS (fun r_3 f_3 n_3 H locs hp hW hS => ?_)
  obtain ⟨rfl, rfl, rfl⟩ := hp
  have hW : q_W E (rO E f M (rp r 100 (fun _ => 0))) n H := by rw [rO_rO] at hW; exact hW
  have hW : q_W E (rO E f M (rp r 100 (fun _ => 0))) n H := hW
  exact q_iret hx hb hr hlocks hW hS ⟨rfl, rfl, rfl⟩ (Nat.le_of_ble_eq_true rfl) (Nat.le_of_ble_eq_true rfl) dX14_waterIn_6

set_option maxHeartbeats 4000000 in
set_option maxRecDepth 100000 in
theorem kX14_waterIn_F (l : Launch) (E : q_E) (f : q_H) (n : Nat) (M : Nat) (r : q_R) (pn : Nat) (x : Int32)  (hm : RM E f M r) (hpn9 : (r 120 0) = nI pn) (hpn : pn ≤ 8) (hno : x < 0 ∨ nI pn ≤ x) : Met l yX14_waterIn wsX14_waterIn ({ frames := 3, cells := 0, slots := 0, locals := 65 }) (q_P E [.ref M, .int x] f n) (q_Qi E (fun r0 f1 n1 => 0 = r0 ∧ rO E f M (rp r 100 (fun _ => 1)) = f1 ∧ n = n1)) 0 0 (q_ge E) := by
  refine Met.ofW (cc := cX14_waterIn) (maxL := 2) (ret := (some .int)) (by decide) rfl ?_
  intro p e s m args below meth c s₁ B hml hv
  obtain ⟨rfl, hA, hW⟩ := hv
  have hx := B.exec
  have hb := B.bytes
  have hr := B.returns
  have hts := atoms_spec (ws := wsX14_waterIn) B.pre
  have hown : s.vm.findClass RX14 = some m.cls := findClass_of_methodNamed B.named
  have hlocks := B.notSynchronized
  have hS : va_S (q_ge E) s.heap s.heap [] := va_S.rf
  have hl := lv_entry ([.ref M, .int x]) (n := 2) (Nat.le_of_ble_eq_true rfl)
  rw [lg_entry_eq]
  generalize (lg_sl ([.ref M, .int x]) ++ List.replicate (2 - (lg_sl ([.ref M, .int x])).length) Slot.unset).toArray = ls at hl ⊢
  have hl : lv_has ls 2 [(0, .ref M), (1, .int x)] := hl
  have hmE := hm.eq
  rw [hm.eq] at hW
  refine lv_aload_n hx hb dX14_waterIn_0 rfl (lv_at hl 0 rfl) ?_
  refine lv_iload_n hx hb dX14_waterIn_1 rfl (lv_at hl 1 rfl) ?_
  refine lv_iconst (v := 0) hx hb dX14_waterIn_2 (by decide) ?_
  refine q_ci (va_runV (As := [.int x, .int 0]) (rest := []) ⟨hx, hb, hml, hown, hts⟩ (kX14_ofPan_F l E (rO E f M r) n M r pn x 0 rO_K hpn9 (by assumption) (by assumption)) (cwV 2 hts gX14_waterIn_X14_ofPan rfl rfl rfl (by decide +kernel) ⟨(Nat.le_of_ble_eq_true rfl), (Nat.le_of_ble_eq_true rfl)⟩) (q_pV hA hW hS (ci := 12) rfl rO_0) rfl rfl hl.1 rfl (lv_room (Nat.le_of_ble_eq_true rfl)) dX14_waterIn_3 ⟨Nat.le_of_ble_eq_true rfl, Nat.le_of_ble_eq_true rfl⟩) hS (fun r_3 f_3 n_3 H locs hp hW hS => ?_)
  obtain ⟨rfl, rfl, rfl⟩ := hp
  have hW : q_W E (rO E f M (rp r 100 (fun _ => 1))) n H := by rw [rO_rO] at hW; exact hW
  have hW : q_W E (rO E f M (rp r 100 (fun _ => 1))) n H := hW
  exact q_iret hx hb hr hlocks hW hS ⟨rfl, rfl, rfl⟩ (Nat.le_of_ble_eq_true rfl) (Nat.le_of_ble_eq_true rfl) dX14_waterIn_6

set_option maxHeartbeats 4000000 in
set_option maxRecDepth 100000 in
theorem kX14_mealIn (l : Launch) (E : q_E) (f : q_H) (n : Nat) (M : Nat) (r : q_R) (pn i : Nat)  (hm : RM E f M r) (hpn9 : (r 120 0) = nI pn) (hpn : pn ≤ 8) (hi : i < pn) : Met l yX14_mealIn wsX14_mealIn ({ frames := 3, cells := 0, slots := 0, locals := 65 }) (q_P E [.ref M, .int (nI i)] f n) (q_Qi E (fun r0 f1 n1 => (r 42) (53 + 4 * i) = r0 ∧ rO E f M (rp r 100 (fun _ => 0)) = f1 ∧ n = n1)) 0 0 (q_ge E) := by
  refine Met.ofW (cc := cX14_mealIn) (maxL := 2) (ret := (some .int)) (by decide) rfl ?_
  intro p e s m args below meth c s₁ B hml hv
  obtain ⟨rfl, hA, hW⟩ := hv
  have hx := B.exec
  have hb := B.bytes
  have hr := B.returns
  have hts := atoms_spec (ws := wsX14_mealIn) B.pre
  have hown : s.vm.findClass RX14 = some m.cls := findClass_of_methodNamed B.named
  have hlocks := B.notSynchronized
  have hS : va_S (q_ge E) s.heap s.heap [] := va_S.rf
  have hl := lv_entry ([.ref M, .int (nI i)]) (n := 2) (Nat.le_of_ble_eq_true rfl)
  rw [lg_entry_eq]
  generalize (lg_sl ([.ref M, .int (nI i)]) ++ List.replicate (2 - (lg_sl ([.ref M, .int (nI i)])).length) Slot.unset).toArray = ls at hl ⊢
  have hl : lv_has ls 2 [(0, .ref M), (1, .int (nI i))] := hl
  have hmE := hm.eq
  rw [hm.eq] at hW
  refine lv_aload_n hx hb dX14_mealIn_0 rfl (lv_at hl 0 rfl) ?_
  refine lv_iload_n hx hb dX14_mealIn_1 rfl (lv_at hl 1 rfl) ?_
  refine lv_iconst (v := 1) hx hb dX14_mealIn_2 (by decide) ?_
  refine q_ci (va_runV (As := [.int (nI i), .int 1]) (rest := []) ⟨hx, hb, hml, hown, hts⟩ (kX14_ofPan_1 l E (rO E f M r) n M r pn i rO_K hpn9 (by assumption) (by assumption)) (cwV 2 hts gX14_mealIn_X14_ofPan rfl rfl rfl (by decide +kernel) ⟨(Nat.le_of_ble_eq_true rfl), (Nat.le_of_ble_eq_true rfl)⟩) (q_pV hA hW hS (ci := 12) rfl rO_0) rfl rfl hl.1 rfl (lv_room (Nat.le_of_ble_eq_true rfl)) dX14_mealIn_3 ⟨Nat.le_of_ble_eq_true rfl, Nat.le_of_ble_eq_true rfl⟩) hS (fun r_3 f_3 n_3 H locs hp hW hS => ?_)
  obtain ⟨rfl, rfl, rfl⟩ := hp
  have hW : q_W E (rO E f M (rp r 100 (fun _ => 0))) n H := by rw [rO_rO] at hW; exact hW
  have hW : q_W E (rO E f M (rp r 100 (fun _ => 0))) n H := hW
  exact q_iret hx hb hr hlocks hW hS ⟨rfl, rfl, rfl⟩ (Nat.le_of_ble_eq_true rfl) (Nat.le_of_ble_eq_true rfl) dX14_mealIn_6

set_option maxHeartbeats 4000000 in
set_option maxRecDepth 100000 in
theorem kX14_mealIn_F (l : Launch) (E : q_E) (f : q_H) (n : Nat) (M : Nat) (r : q_R) (pn : Nat) (x : Int32)  (hm : RM E f M r) (hpn9 : (r 120 0) = nI pn) (hpn : pn ≤ 8) (hno : x < 0 ∨ nI pn ≤ x) : Met l yX14_mealIn wsX14_mealIn ({ frames := 3, cells := 0, slots := 0, locals := 65 }) (q_P E [.ref M, .int x] f n) (q_Qi E (fun r0 f1 n1 => 0 = r0 ∧ rO E f M (rp r 100 (fun _ => 1)) = f1 ∧ n = n1)) 0 0 (q_ge E) := by
  refine Met.ofW (cc := cX14_mealIn) (maxL := 2) (ret := (some .int)) (by decide) rfl ?_
  intro p e s m args below meth c s₁ B hml hv
  obtain ⟨rfl, hA, hW⟩ := hv
  have hx := B.exec
  have hb := B.bytes
  have hr := B.returns
  have hts := atoms_spec (ws := wsX14_mealIn) B.pre
  have hown : s.vm.findClass RX14 = some m.cls := findClass_of_methodNamed B.named
  have hlocks := B.notSynchronized
  have hS : va_S (q_ge E) s.heap s.heap [] := va_S.rf
  have hl := lv_entry ([.ref M, .int x]) (n := 2) (Nat.le_of_ble_eq_true rfl)
  rw [lg_entry_eq]
  generalize (lg_sl ([.ref M, .int x]) ++ List.replicate (2 - (lg_sl ([.ref M, .int x])).length) Slot.unset).toArray = ls at hl ⊢
  have hl : lv_has ls 2 [(0, .ref M), (1, .int x)] := hl
  have hmE := hm.eq
  rw [hm.eq] at hW
  refine lv_aload_n hx hb dX14_mealIn_0 rfl (lv_at hl 0 rfl) ?_
  refine lv_iload_n hx hb dX14_mealIn_1 rfl (lv_at hl 1 rfl) ?_
  refine lv_iconst (v := 1) hx hb dX14_mealIn_2 (by decide) ?_
  refine q_ci (va_runV (As := [.int x, .int 1]) (rest := []) ⟨hx, hb, hml, hown, hts⟩ (kX14_ofPan_F l E (rO E f M r) n M r pn x 1 rO_K hpn9 (by assumption) (by assumption)) (cwV 2 hts gX14_mealIn_X14_ofPan rfl rfl rfl (by decide +kernel) ⟨(Nat.le_of_ble_eq_true rfl), (Nat.le_of_ble_eq_true rfl)⟩) (q_pV hA hW hS (ci := 12) rfl rO_0) rfl rfl hl.1 rfl (lv_room (Nat.le_of_ble_eq_true rfl)) dX14_mealIn_3 ⟨Nat.le_of_ble_eq_true rfl, Nat.le_of_ble_eq_true rfl⟩) hS (fun r_3 f_3 n_3 H locs hp hW hS => ?_)
  obtain ⟨rfl, rfl, rfl⟩ := hp
  have hW : q_W E (rO E f M (rp r 100 (fun _ => 1))) n H := by rw [rO_rO] at hW; exact hW
  have hW : q_W E (rO E f M (rp r 100 (fun _ => 1))) n H := hW
  exact q_iret hx hb hr hlocks hW hS ⟨rfl, rfl, rfl⟩ (Nat.le_of_ble_eq_true rfl) (Nat.le_of_ble_eq_true rfl) dX14_mealIn_6

set_option maxHeartbeats 4000000 in
set_option maxRecDepth 100000 in
theorem kX14_heatOf (l : Launch) (E : q_E) (f : q_H) (n : Nat) (M : Nat) (r : q_R) (pn i : Nat)  (hm : RM E f M r) (hpn9 : (r 120 0) = nI pn) (hpn : pn ≤ 8) (hi : i < pn) : Met l yX14_heatOf wsX14_heatOf ({ frames := 3, cells := 0, slots := 0, locals := 65 }) (q_P E [.ref M, .int (nI i)] f n) (q_Qi E (fun r0 f1 n1 => (r 42) (54 + 4 * i) = r0 ∧ rO E f M (rp r 100 (fun _ => 0)) = f1 ∧ n = n1)) 0 0 (q_ge E) := by
  refine Met.ofW (cc := cX14_heatOf) (maxL := 2) (ret := (some .int)) (by decide) rfl ?_
  intro p e s m args below meth c s₁ B hml hv
  obtain ⟨rfl, hA, hW⟩ := hv
  have hx := B.exec
  have hb := B.bytes
  have hr := B.returns
  have hts := atoms_spec (ws := wsX14_heatOf) B.pre
  have hown : s.vm.findClass RX14 = some m.cls := findClass_of_methodNamed B.named
  have hlocks := B.notSynchronized
  have hS : va_S (q_ge E) s.heap s.heap [] := va_S.rf
  have hl := lv_entry ([.ref M, .int (nI i)]) (n := 2) (Nat.le_of_ble_eq_true rfl)
  rw [lg_entry_eq]
  generalize (lg_sl ([.ref M, .int (nI i)]) ++ List.replicate (2 - (lg_sl ([.ref M, .int (nI i)])).length) Slot.unset).toArray = ls at hl ⊢
  have hl : lv_has ls 2 [(0, .ref M), (1, .int (nI i))] := hl
  have hmE := hm.eq
  rw [hm.eq] at hW
  refine lv_aload_n hx hb dX14_heatOf_0 rfl (lv_at hl 0 rfl) ?_
  refine lv_iload_n hx hb dX14_heatOf_1 rfl (lv_at hl 1 rfl) ?_
  refine lv_iconst (v := 2) hx hb dX14_heatOf_2 (by decide) ?_
  refine q_ci (va_runV (As := [.int (nI i), .int 2]) (rest := []) ⟨hx, hb, hml, hown, hts⟩ (kX14_ofPan_2 l E (rO E f M r) n M r pn i rO_K hpn9 (by assumption) (by assumption)) (cwV 2 hts gX14_heatOf_X14_ofPan rfl rfl rfl (by decide +kernel) ⟨(Nat.le_of_ble_eq_true rfl), (Nat.le_of_ble_eq_true rfl)⟩) (q_pV hA hW hS (ci := 12) rfl rO_0) rfl rfl hl.1 rfl (lv_room (Nat.le_of_ble_eq_true rfl)) dX14_heatOf_3 ⟨Nat.le_of_ble_eq_true rfl, Nat.le_of_ble_eq_true rfl⟩) hS (fun r_3 f_3 n_3 H locs hp hW hS => ?_)
  obtain ⟨rfl, rfl, rfl⟩ := hp
  have hW : q_W E (rO E f M (rp r 100 (fun _ => 0))) n H := by rw [rO_rO] at hW; exact hW
  have hW : q_W E (rO E f M (rp r 100 (fun _ => 0))) n H := hW
  exact q_iret hx hb hr hlocks hW hS ⟨rfl, rfl, rfl⟩ (Nat.le_of_ble_eq_true rfl) (Nat.le_of_ble_eq_true rfl) dX14_heatOf_6

set_option maxHeartbeats 4000000 in
set_option maxRecDepth 100000 in
theorem kX14_heatOf_F (l : Launch) (E : q_E) (f : q_H) (n : Nat) (M : Nat) (r : q_R) (pn : Nat) (x : Int32)  (hm : RM E f M r) (hpn9 : (r 120 0) = nI pn) (hpn : pn ≤ 8) (hno : x < 0 ∨ nI pn ≤ x) : Met l yX14_heatOf wsX14_heatOf ({ frames := 3, cells := 0, slots := 0, locals := 65 }) (q_P E [.ref M, .int x] f n) (q_Qi E (fun r0 f1 n1 => 0 = r0 ∧ rO E f M (rp r 100 (fun _ => 1)) = f1 ∧ n = n1)) 0 0 (q_ge E) := by
  refine Met.ofW (cc := cX14_heatOf) (maxL := 2) (ret := (some .int)) (by decide) rfl ?_
  intro p e s m args below meth c s₁ B hml hv
  obtain ⟨rfl, hA, hW⟩ := hv
  have hx := B.exec
  have hb := B.bytes
  have hr := B.returns
  have hts := atoms_spec (ws := wsX14_heatOf) B.pre
  have hown : s.vm.findClass RX14 = some m.cls := findClass_of_methodNamed B.named
  have hlocks := B.notSynchronized
  have hS : va_S (q_ge E) s.heap s.heap [] := va_S.rf
  have hl := lv_entry ([.ref M, .int x]) (n := 2) (Nat.le_of_ble_eq_true rfl)
  rw [lg_entry_eq]
  generalize (lg_sl ([.ref M, .int x]) ++ List.replicate (2 - (lg_sl ([.ref M, .int x])).length) Slot.unset).toArray = ls at hl ⊢
  have hl : lv_has ls 2 [(0, .ref M), (1, .int x)] := hl
  have hmE := hm.eq
  rw [hm.eq] at hW
  refine lv_aload_n hx hb dX14_heatOf_0 rfl (lv_at hl 0 rfl) ?_
  refine lv_iload_n hx hb dX14_heatOf_1 rfl (lv_at hl 1 rfl) ?_
  refine lv_iconst (v := 2) hx hb dX14_heatOf_2 (by decide) ?_
  refine q_ci (va_runV (As := [.int x, .int 2]) (rest := []) ⟨hx, hb, hml, hown, hts⟩ (kX14_ofPan_F l E (rO E f M r) n M r pn x 2 rO_K hpn9 (by assumption) (by assumption)) (cwV 2 hts gX14_heatOf_X14_ofPan rfl rfl rfl (by decide +kernel) ⟨(Nat.le_of_ble_eq_true rfl), (Nat.le_of_ble_eq_true rfl)⟩) (q_pV hA hW hS (ci := 12) rfl rO_0) rfl rfl hl.1 rfl (lv_room (Nat.le_of_ble_eq_true rfl)) dX14_heatOf_3 ⟨Nat.le_of_ble_eq_true rfl, Nat.le_of_ble_eq_true rfl⟩) hS (fun r_3 f_3 n_3 H locs hp hW hS => ?_)
  obtain ⟨rfl, rfl, rfl⟩ := hp
  have hW : q_W E (rO E f M (rp r 100 (fun _ => 1))) n H := by rw [rO_rO] at hW; exact hW
  have hW : q_W E (rO E f M (rp r 100 (fun _ => 1))) n H := hW
  exact q_iret hx hb hr hlocks hW hS ⟨rfl, rfl, rfl⟩ (Nat.le_of_ble_eq_true rfl) (Nat.le_of_ble_eq_true rfl) dX14_heatOf_6

set_option maxHeartbeats 4000000 in
set_option maxRecDepth 100000 in
theorem kX14_doneIn (l : Launch) (E : q_E) (f : q_H) (n : Nat) (M : Nat) (r : q_R) (pn i : Nat)  (hm : RM E f M r) (hpn9 : (r 120 0) = nI pn) (hpn : pn ≤ 8) (hi : i < pn) : Met l yX14_doneIn wsX14_doneIn ({ frames := 3, cells := 0, slots := 0, locals := 65 }) (q_P E [.ref M, .int (nI i)] f n) (q_Qi E (fun r0 f1 n1 => (r 42) (55 + 4 * i) = r0 ∧ rO E f M (rp r 100 (fun _ => 0)) = f1 ∧ n = n1)) 0 0 (q_ge E) := by
  refine Met.ofW (cc := cX14_doneIn) (maxL := 2) (ret := (some .int)) (by decide) rfl ?_
  intro p e s m args below meth c s₁ B hml hv
  obtain ⟨rfl, hA, hW⟩ := hv
  have hx := B.exec
  have hb := B.bytes
  have hr := B.returns
  have hts := atoms_spec (ws := wsX14_doneIn) B.pre
  have hown : s.vm.findClass RX14 = some m.cls := findClass_of_methodNamed B.named
  have hlocks := B.notSynchronized
  have hS : va_S (q_ge E) s.heap s.heap [] := va_S.rf
  have hl := lv_entry ([.ref M, .int (nI i)]) (n := 2) (Nat.le_of_ble_eq_true rfl)
  rw [lg_entry_eq]
  generalize (lg_sl ([.ref M, .int (nI i)]) ++ List.replicate (2 - (lg_sl ([.ref M, .int (nI i)])).length) Slot.unset).toArray = ls at hl ⊢
  have hl : lv_has ls 2 [(0, .ref M), (1, .int (nI i))] := hl
  have hmE := hm.eq
  rw [hm.eq] at hW
  refine lv_aload_n hx hb dX14_doneIn_0 rfl (lv_at hl 0 rfl) ?_
  refine lv_iload_n hx hb dX14_doneIn_1 rfl (lv_at hl 1 rfl) ?_
  refine lv_iconst (v := 3) hx hb dX14_doneIn_2 (by decide) ?_
  refine q_ci (va_runV (As := [.int (nI i), .int 3]) (rest := []) ⟨hx, hb, hml, hown, hts⟩ (kX14_ofPan_3 l E (rO E f M r) n M r pn i rO_K hpn9 (by assumption) (by assumption)) (cwV 2 hts gX14_doneIn_X14_ofPan rfl rfl rfl (by decide +kernel) ⟨(Nat.le_of_ble_eq_true rfl), (Nat.le_of_ble_eq_true rfl)⟩) (q_pV hA hW hS (ci := 12) rfl rO_0) rfl rfl hl.1 rfl (lv_room (Nat.le_of_ble_eq_true rfl)) dX14_doneIn_3 ⟨Nat.le_of_ble_eq_true rfl, Nat.le_of_ble_eq_true rfl⟩) hS (fun r_3 f_3 n_3 H locs hp hW hS => ?_)
  obtain ⟨rfl, rfl, rfl⟩ := hp
  have hW : q_W E (rO E f M (rp r 100 (fun _ => 0))) n H := by rw [rO_rO] at hW; exact hW
  have hW : q_W E (rO E f M (rp r 100 (fun _ => 0))) n H := hW
  exact q_iret hx hb hr hlocks hW hS ⟨rfl, rfl, rfl⟩ (Nat.le_of_ble_eq_true rfl) (Nat.le_of_ble_eq_true rfl) dX14_doneIn_6

set_option maxHeartbeats 4000000 in
set_option maxRecDepth 100000 in
theorem kX14_doneIn_F (l : Launch) (E : q_E) (f : q_H) (n : Nat) (M : Nat) (r : q_R) (pn : Nat) (x : Int32)  (hm : RM E f M r) (hpn9 : (r 120 0) = nI pn) (hpn : pn ≤ 8) (hno : x < 0 ∨ nI pn ≤ x) : Met l yX14_doneIn wsX14_doneIn ({ frames := 3, cells := 0, slots := 0, locals := 65 }) (q_P E [.ref M, .int x] f n) (q_Qi E (fun r0 f1 n1 => 0 = r0 ∧ rO E f M (rp r 100 (fun _ => 1)) = f1 ∧ n = n1)) 0 0 (q_ge E) := by
  refine Met.ofW (cc := cX14_doneIn) (maxL := 2) (ret := (some .int)) (by decide) rfl ?_
  intro p e s m args below meth c s₁ B hml hv
  obtain ⟨rfl, hA, hW⟩ := hv
  have hx := B.exec
  have hb := B.bytes
  have hr := B.returns
  have hts := atoms_spec (ws := wsX14_doneIn) B.pre
  have hown : s.vm.findClass RX14 = some m.cls := findClass_of_methodNamed B.named
  have hlocks := B.notSynchronized
  have hS : va_S (q_ge E) s.heap s.heap [] := va_S.rf
  have hl := lv_entry ([.ref M, .int x]) (n := 2) (Nat.le_of_ble_eq_true rfl)
  rw [lg_entry_eq]
  generalize (lg_sl ([.ref M, .int x]) ++ List.replicate (2 - (lg_sl ([.ref M, .int x])).length) Slot.unset).toArray = ls at hl ⊢
  have hl : lv_has ls 2 [(0, .ref M), (1, .int x)] := hl
  have hmE := hm.eq
  rw [hm.eq] at hW
  refine lv_aload_n hx hb dX14_doneIn_0 rfl (lv_at hl 0 rfl) ?_
  refine lv_iload_n hx hb dX14_doneIn_1 rfl (lv_at hl 1 rfl) ?_
  refine lv_iconst (v := 3) hx hb dX14_doneIn_2 (by decide) ?_
  refine q_ci (va_runV (As := [.int x, .int 3]) (rest := []) ⟨hx, hb, hml, hown, hts⟩ (kX14_ofPan_F l E (rO E f M r) n M r pn x 3 rO_K hpn9 (by assumption) (by assumption)) (cwV 2 hts gX14_doneIn_X14_ofPan rfl rfl rfl (by decide +kernel) ⟨(Nat.le_of_ble_eq_true rfl), (Nat.le_of_ble_eq_true rfl)⟩) (q_pV hA hW hS (ci := 12) rfl rO_0) rfl rfl hl.1 rfl (lv_room (Nat.le_of_ble_eq_true rfl)) dX14_doneIn_3 ⟨Nat.le_of_ble_eq_true rfl, Nat.le_of_ble_eq_true rfl⟩) hS (fun r_3 f_3 n_3 H locs hp hW hS => ?_)
  obtain ⟨rfl, rfl, rfl⟩ := hp
  have hW : q_W E (rO E f M (rp r 100 (fun _ => 1))) n H := by rw [rO_rO] at hW; exact hW
  have hW : q_W E (rO E f M (rp r 100 (fun _ => 1))) n H := hW
  exact q_iret hx hb hr hlocks hW hS ⟨rfl, rfl, rfl⟩ (Nat.le_of_ble_eq_true rfl) (Nat.le_of_ble_eq_true rfl) dX14_doneIn_6

set_option maxHeartbeats 4000000 in
set_option maxRecDepth 100000 in
theorem kX14_holdsOf (l : Launch) (E : q_E) (f : q_H) (n : Nat) (M : Nat) (r : q_R) (pn i : Nat)  (hm : RM E f M r) (hpn9 : (r 120 0) = nI pn) (hpn : pn ≤ 8) (hi : i < pn) : Met l yX14_holdsOf wsX14_holdsOf ({ frames := 2, cells := 0, slots := 0, locals := 43 }) (q_P E [.ref M, .int (nI i)] f n) (q_Qi E (fun r0 f1 n1 => (r 9) i = r0 ∧ rO E f M (rp r 100 (fun _ => 0)) = f1 ∧ n = n1)) 0 0 (q_ge E) := by
  refine Met.ofW (cc := cX14_holdsOf) (maxL := 2) (ret := (some .int)) (by decide) rfl ?_
  intro p e s m args below meth c s₁ B hml hv
  obtain ⟨rfl, hA, hW⟩ := hv
  have hx := B.exec
  have hb := B.bytes
  have hr := B.returns
  have hts := atoms_spec (ws := wsX14_holdsOf) B.pre
  have hown : s.vm.findClass RX14 = some m.cls := findClass_of_methodNamed B.named
  have hlocks := B.notSynchronized
  have hS : va_S (q_ge E) s.heap s.heap [] := va_S.rf
  have iX13 : ∀ w ∈ wsX130, w ∈ wsX14_holdsOf := by decide +kernel
  have iX14 : ∀ w ∈ wsX140, w ∈ wsX14_holdsOf := by decide +kernel
  have hl := lv_entry ([.ref M, .int (nI i)]) (n := 2) (Nat.le_of_ble_eq_true rfl)
  rw [lg_entry_eq]
  generalize (lg_sl ([.ref M, .int (nI i)]) ++ List.replicate (2 - (lg_sl ([.ref M, .int (nI i)])).length) Slot.unset).toArray = ls at hl ⊢
  have hl : lv_has ls 2 [(0, .ref M), (1, .int (nI i))] := hl
  have hmE := hm.eq
  rw [hm.eq] at hW
  refine lv_aload_n hx hb dX14_holdsOf_0 rfl (lv_at hl 0 rfl) ?_
  refine lv_iconst (v := 0) hx hb dX14_holdsOf_1 (by decide) ?_
  refine q_put hx hb hts hown hA hW hS iX14 tyX14 tyX14_ok nmX14 rO_0 rfl 0 (by decide) (hts (.fieldLink RX14 54 "HighRecipesModel" "thrown" "I") (by decide +kernel)) (fun _ h9 => h9) rfl rfl rfl (Nat.le_of_ble_eq_true rfl) dX14_holdsOf_2 (fun H locs hW hS => ?_)
  have hW := q_s0 100 (0) hW rfl (by decide)
  refine lv_aload_n hx hb dX14_holdsOf_5 rfl (lv_at hl 0 rfl) ?_
  refine lv_iload_n hx hb dX14_holdsOf_6 rfl (lv_at hl 1 rfl) ?_
  refine q_ci (va_runV (As := [.int (nI i)]) (rest := []) ⟨hx, hb, hml, hown, hts⟩ (kX14_isPan l E (rO E f M (rp r 100 (fun _ => 0))) n M (rp r 100 (fun _ => 0)) pn (nI i) rO_K hpn9) (cwV 1 hts gX14_holdsOf_X14_isPan rfl rfl rfl (by decide +kernel) ⟨(Nat.le_of_ble_eq_true rfl), (Nat.le_of_ble_eq_true rfl)⟩) (q_pV hA hW hS (ci := 12) rfl rO_0) rfl rfl hl.1 rfl (lv_room (Nat.le_of_ble_eq_true rfl)) dX14_holdsOf_7 ⟨Nat.le_of_ble_eq_true rfl, Nat.le_of_ble_eq_true rfl⟩) hS (fun r_7 f_7 n_7 H locs hp hW hS => ?_)
  obtain ⟨rfl, rfl, rfl⟩ := hp
  have hW : q_W E (rO E f M (rp r 100 (fun _ => 0))) n H := hW
  refine lv_if_eq (tgt := 25) hx hb dX14_holdsOf_10 (by decide) (fun c_10 => False.elim ((fun h9 => absurd h9 (b01_T (b_in_ix hi (by omega)))) c_10)) (fun c_10 => ?_)
  refine lv_aload_n hx hb dX14_holdsOf_13 rfl (lv_at hl 0 rfl) ?_
  refine q_get hx hb hts hown hA hW iX14 rO_0 rfl 17 (by decide) (hts (.fieldLink RX14 38 "HighRecipesModel" "told" "LHighRecipesModel$Book;") (by decide +kernel)) (fun _ h9 => h9) (v := .ref (M + 8)) rfl dX14_holdsOf_14 ?_
  refine q_getN hx hb hts hown hA hW iX13 rO_8 rfl 1 (by decide) (va_Nw.use rfl (hA.2.2.2.1 ("HighRecipesModel", 260, "HighRecipesModel$Book", "holds", "[I", "HighRecipesModel") (by decide +kernel))) (fun _ h9 => h9) (v := .ref (M + 9)) rfl dX14_holdsOf_17 ?_
  refine lv_iload_n hx hb dX14_holdsOf_20 rfl (lv_at hl 1 rfl) ?_
  refine q_ald hx hb hA hW (rO_9 (g := r 9) rfl) i rfl (by omega) (by decide) (x := (r 9) i) rfl dX14_holdsOf_21 ?_
  refine lv_goto (tgt := 30) hx hb dX14_holdsOf_22 (by decide) ?_
  exact q_iret hx hb hr hlocks hW hS ⟨rfl, rfl, rfl⟩ (Nat.le_of_ble_eq_true rfl) (Nat.le_of_ble_eq_true rfl) dX14_holdsOf_30

set_option maxHeartbeats 4000000 in
set_option maxRecDepth 100000 in
theorem kX14_holdsOf_F (l : Launch) (E : q_E) (f : q_H) (n : Nat) (M : Nat) (r : q_R) (pn : Nat) (x : Int32)  (hm : RM E f M r) (hpn9 : (r 120 0) = nI pn) (hpn : pn ≤ 8) (hno : x < 0 ∨ nI pn ≤ x) : Met l yX14_holdsOf wsX14_holdsOf ({ frames := 2, cells := 0, slots := 0, locals := 43 }) (q_P E [.ref M, .int x] f n) (q_Qi E (fun r0 f1 n1 => 0 = r0 ∧ rO E f M (rp r 100 (fun _ => 1)) = f1 ∧ n = n1)) 0 0 (q_ge E) := by
  refine Met.ofW (cc := cX14_holdsOf) (maxL := 2) (ret := (some .int)) (by decide) rfl ?_
  intro p e s m args below meth c s₁ B hml hv
  obtain ⟨rfl, hA, hW⟩ := hv
  have hx := B.exec
  have hb := B.bytes
  have hr := B.returns
  have hts := atoms_spec (ws := wsX14_holdsOf) B.pre
  have hown : s.vm.findClass RX14 = some m.cls := findClass_of_methodNamed B.named
  have hlocks := B.notSynchronized
  have hS : va_S (q_ge E) s.heap s.heap [] := va_S.rf
  have iX14 : ∀ w ∈ wsX140, w ∈ wsX14_holdsOf := by decide +kernel
  have hl := lv_entry ([.ref M, .int x]) (n := 2) (Nat.le_of_ble_eq_true rfl)
  rw [lg_entry_eq]
  generalize (lg_sl ([.ref M, .int x]) ++ List.replicate (2 - (lg_sl ([.ref M, .int x])).length) Slot.unset).toArray = ls at hl ⊢
  have hl : lv_has ls 2 [(0, .ref M), (1, .int x)] := hl
  have hmE := hm.eq
  rw [hm.eq] at hW
  refine lv_aload_n hx hb dX14_holdsOf_0 rfl (lv_at hl 0 rfl) ?_
  refine lv_iconst (v := 0) hx hb dX14_holdsOf_1 (by decide) ?_
  refine q_put hx hb hts hown hA hW hS iX14 tyX14 tyX14_ok nmX14 rO_0 rfl 0 (by decide) (hts (.fieldLink RX14 54 "HighRecipesModel" "thrown" "I") (by decide +kernel)) (fun _ h9 => h9) rfl rfl rfl (Nat.le_of_ble_eq_true rfl) dX14_holdsOf_2 (fun H locs hW hS => ?_)
  have hW := q_s0 100 (0) hW rfl (by decide)
  refine lv_aload_n hx hb dX14_holdsOf_5 rfl (lv_at hl 0 rfl) ?_
  refine lv_iload_n hx hb dX14_holdsOf_6 rfl (lv_at hl 1 rfl) ?_
  refine q_ci (va_runV (As := [.int x]) (rest := []) ⟨hx, hb, hml, hown, hts⟩ (kX14_isPan l E (rO E f M (rp r 100 (fun _ => 0))) n M (rp r 100 (fun _ => 0)) pn x rO_K hpn9) (cwV 1 hts gX14_holdsOf_X14_isPan rfl rfl rfl (by decide +kernel) ⟨(Nat.le_of_ble_eq_true rfl), (Nat.le_of_ble_eq_true rfl)⟩) (q_pV hA hW hS (ci := 12) rfl rO_0) rfl rfl hl.1 rfl (lv_room (Nat.le_of_ble_eq_true rfl)) dX14_holdsOf_7 ⟨Nat.le_of_ble_eq_true rfl, Nat.le_of_ble_eq_true rfl⟩) hS (fun r_7 f_7 n_7 H locs hp hW hS => ?_)
  obtain ⟨rfl, rfl, rfl⟩ := hp
  have hW : q_W E (rO E f M (rp r 100 (fun _ => 0))) n H := hW
  refine lv_if_eq (tgt := 25) hx hb dX14_holdsOf_10 (by decide) (fun c_10 => ?_) (fun c_10 => False.elim ((fun h9 => h9 (b01_F (b_in_no hno (by omega)))) c_10))
  refine lv_aload_n hx hb dX14_holdsOf_25 rfl (lv_at hl 0 rfl) ?_
  refine lv_iconst (v := 1) hx hb dX14_holdsOf_26 (by decide) ?_
  refine q_ci (va_runV (As := [.int 1]) (rest := []) ⟨hx, hb, hml, hown, hts⟩ (kX14_no l E (rO E f M (rp r 100 (fun _ => 0))) n M (rp r 100 (fun _ => 0)) 1 rO_K) (cwV 1 hts gX14_holdsOf_X14_no rfl rfl rfl (by decide +kernel) ⟨(Nat.le_of_ble_eq_true rfl), (Nat.le_of_ble_eq_true rfl)⟩) (q_pV hA hW hS (ci := 12) rfl rO_0) rfl rfl hl.1 rfl (lv_room (Nat.le_of_ble_eq_true rfl)) dX14_holdsOf_27 ⟨Nat.le_of_ble_eq_true rfl, Nat.le_of_ble_eq_true rfl⟩) hS (fun r_27 f_27 n_27 H locs hp hW hS => ?_)
  obtain ⟨rfl, rfl, rfl⟩ := hp
  have hW : q_W E (rO E f M (rp (rp r 100 (fun _ => 0)) 100 (fun _ => 1))) n H := by rw [rO_rO] at hW; exact hW
  rw [rp_d0] at hW
  have hW : q_W E (rO E f M (rp r 100 (fun _ => 1))) n H := hW
  exact q_iret hx hb hr hlocks hW hS ⟨rfl, rfl, rfl⟩ (Nat.le_of_ble_eq_true rfl) (Nat.le_of_ble_eq_true rfl) dX14_holdsOf_30

set_option maxHeartbeats 4000000 in
set_option maxRecDepth 100000 in
theorem kX14_roomIn (l : Launch) (E : q_E) (f : q_H) (n : Nat) (M : Nat) (r : q_R) (pn i : Nat)  (hm : RM E f M r) (hpn9 : (r 120 0) = nI pn) (hpn : pn ≤ 8) (hi : i < pn) : Met l yX14_roomIn wsX14_roomIn ({ frames := 3, cells := 0, slots := 0, locals := 63 }) (q_P E [.ref M, .int (nI i)] f n) (q_Qi E (fun r0 f1 n1 => (r 9) i - (r 42) (52 + 4 * i) - (r 42) (53 + 4 * i) = r0 ∧ rO E f M (rp r 100 (fun _ => 0)) = f1 ∧ n = n1)) 0 0 (q_ge E) := by
  refine Met.ofW (cc := cX14_roomIn) (maxL := 2) (ret := (some .int)) (by decide) rfl ?_
  intro p e s m args below meth c s₁ B hml hv
  obtain ⟨rfl, hA, hW⟩ := hv
  have hx := B.exec
  have hb := B.bytes
  have hr := B.returns
  have hts := atoms_spec (ws := wsX14_roomIn) B.pre
  have hown : s.vm.findClass RX14 = some m.cls := findClass_of_methodNamed B.named
  have hlocks := B.notSynchronized
  have hS : va_S (q_ge E) s.heap s.heap [] := va_S.rf
  have iX14 : ∀ w ∈ wsX140, w ∈ wsX14_roomIn := by decide +kernel
  have hl := lv_entry ([.ref M, .int (nI i)]) (n := 2) (Nat.le_of_ble_eq_true rfl)
  rw [lg_entry_eq]
  generalize (lg_sl ([.ref M, .int (nI i)]) ++ List.replicate (2 - (lg_sl ([.ref M, .int (nI i)])).length) Slot.unset).toArray = ls at hl ⊢
  have hl : lv_has ls 2 [(0, .ref M), (1, .int (nI i))] := hl
  have hmE := hm.eq
  rw [hm.eq] at hW
  refine lv_aload_n hx hb dX14_roomIn_0 rfl (lv_at hl 0 rfl) ?_
  refine lv_iconst (v := 0) hx hb dX14_roomIn_1 (by decide) ?_
  refine q_put hx hb hts hown hA hW hS iX14 tyX14 tyX14_ok nmX14 rO_0 rfl 0 (by decide) (hts (.fieldLink RX14 54 "HighRecipesModel" "thrown" "I") (by decide +kernel)) (fun _ h9 => h9) rfl rfl rfl (Nat.le_of_ble_eq_true rfl) dX14_roomIn_2 (fun H locs hW hS => ?_)
  have hW := q_s0 100 (0) hW rfl (by decide)
  refine lv_aload_n hx hb dX14_roomIn_5 rfl (lv_at hl 0 rfl) ?_
  refine lv_iload_n hx hb dX14_roomIn_6 rfl (lv_at hl 1 rfl) ?_
  refine q_ci (va_runV (As := [.int (nI i)]) (rest := []) ⟨hx, hb, hml, hown, hts⟩ (kX14_isPan l E (rO E f M (rp r 100 (fun _ => 0))) n M (rp r 100 (fun _ => 0)) pn (nI i) rO_K hpn9) (cwV 1 hts gX14_roomIn_X14_isPan rfl rfl rfl (by decide +kernel) ⟨(Nat.le_of_ble_eq_true rfl), (Nat.le_of_ble_eq_true rfl)⟩) (q_pV hA hW hS (ci := 12) rfl rO_0) rfl rfl hl.1 rfl (lv_room (Nat.le_of_ble_eq_true rfl)) dX14_roomIn_7 ⟨Nat.le_of_ble_eq_true rfl, Nat.le_of_ble_eq_true rfl⟩) hS (fun r_7 f_7 n_7 H locs hp hW hS => ?_)
  obtain ⟨rfl, rfl, rfl⟩ := hp
  have hW : q_W E (rO E f M (rp r 100 (fun _ => 0))) n H := hW
  refine lv_if_eq (tgt := 21) hx hb dX14_roomIn_10 (by decide) (fun c_10 => False.elim ((fun h9 => absurd h9 (b01_T (b_in_ix hi (by omega)))) c_10)) (fun c_10 => ?_)
  refine lv_aload_n hx hb dX14_roomIn_13 rfl (lv_at hl 0 rfl) ?_
  refine lv_iload_n hx hb dX14_roomIn_14 rfl (lv_at hl 1 rfl) ?_
  refine q_ci (va_runV (As := [.int (nI i)]) (rest := []) ⟨hx, hb, hml, hown, hts⟩ (kX14_room l E (rO E f M (rp r 100 (fun _ => 0))) n M (rp r 100 (fun _ => 0)) pn i rO_K (by assumption) (by assumption)) (cwV 1 hts gX14_roomIn_X14_room rfl rfl rfl (by decide +kernel) ⟨(Nat.le_of_ble_eq_true rfl), (Nat.le_of_ble_eq_true rfl)⟩) (q_pV hA hW hS (ci := 12) rfl rO_0) rfl rfl hl.1 rfl (lv_room (Nat.le_of_ble_eq_true rfl)) dX14_roomIn_15 ⟨Nat.le_of_ble_eq_true rfl, Nat.le_of_ble_eq_true rfl⟩) hS (fun r_15 f_15 n_15 H locs hp hW hS => ?_)
  obtain ⟨rfl, rfl, rfl⟩ := hp
  rw [show ((rp r 100 (fun _ => 0)) 9) i - ((rp r 100 (fun _ => 0)) 42) (52 + 4 * i) - ((rp r 100 (fun _ => 0)) 42) (53 + 4 * i) = (r 9) i - (r 42) (52 + 4 * i) - (r 42) (53 + 4 * i) from rfl]
  have hW : q_W E (rO E f M (rp r 100 (fun _ => 0))) n H := hW
  refine lv_goto (tgt := 26) hx hb dX14_roomIn_18 (by decide) ?_
  exact q_iret hx hb hr hlocks hW hS ⟨rfl, rfl, rfl⟩ (Nat.le_of_ble_eq_true rfl) (Nat.le_of_ble_eq_true rfl) dX14_roomIn_26

set_option maxHeartbeats 4000000 in
set_option maxRecDepth 100000 in
theorem kX14_roomIn_F (l : Launch) (E : q_E) (f : q_H) (n : Nat) (M : Nat) (r : q_R) (pn : Nat) (x : Int32)  (hm : RM E f M r) (hpn9 : (r 120 0) = nI pn) (hpn : pn ≤ 8) (hno : x < 0 ∨ nI pn ≤ x) : Met l yX14_roomIn wsX14_roomIn ({ frames := 2, cells := 0, slots := 0, locals := 43 }) (q_P E [.ref M, .int x] f n) (q_Qi E (fun r0 f1 n1 => 0 = r0 ∧ rO E f M (rp r 100 (fun _ => 1)) = f1 ∧ n = n1)) 0 0 (q_ge E) := by
  refine Met.ofW (cc := cX14_roomIn) (maxL := 2) (ret := (some .int)) (by decide) rfl ?_
  intro p e s m args below meth c s₁ B hml hv
  obtain ⟨rfl, hA, hW⟩ := hv
  have hx := B.exec
  have hb := B.bytes
  have hr := B.returns
  have hts := atoms_spec (ws := wsX14_roomIn) B.pre
  have hown : s.vm.findClass RX14 = some m.cls := findClass_of_methodNamed B.named
  have hlocks := B.notSynchronized
  have hS : va_S (q_ge E) s.heap s.heap [] := va_S.rf
  have iX14 : ∀ w ∈ wsX140, w ∈ wsX14_roomIn := by decide +kernel
  have hl := lv_entry ([.ref M, .int x]) (n := 2) (Nat.le_of_ble_eq_true rfl)
  rw [lg_entry_eq]
  generalize (lg_sl ([.ref M, .int x]) ++ List.replicate (2 - (lg_sl ([.ref M, .int x])).length) Slot.unset).toArray = ls at hl ⊢
  have hl : lv_has ls 2 [(0, .ref M), (1, .int x)] := hl
  have hmE := hm.eq
  rw [hm.eq] at hW
  refine lv_aload_n hx hb dX14_roomIn_0 rfl (lv_at hl 0 rfl) ?_
  refine lv_iconst (v := 0) hx hb dX14_roomIn_1 (by decide) ?_
  refine q_put hx hb hts hown hA hW hS iX14 tyX14 tyX14_ok nmX14 rO_0 rfl 0 (by decide) (hts (.fieldLink RX14 54 "HighRecipesModel" "thrown" "I") (by decide +kernel)) (fun _ h9 => h9) rfl rfl rfl (Nat.le_of_ble_eq_true rfl) dX14_roomIn_2 (fun H locs hW hS => ?_)
  have hW := q_s0 100 (0) hW rfl (by decide)
  refine lv_aload_n hx hb dX14_roomIn_5 rfl (lv_at hl 0 rfl) ?_
  refine lv_iload_n hx hb dX14_roomIn_6 rfl (lv_at hl 1 rfl) ?_
  refine q_ci (va_runV (As := [.int x]) (rest := []) ⟨hx, hb, hml, hown, hts⟩ (kX14_isPan l E (rO E f M (rp r 100 (fun _ => 0))) n M (rp r 100 (fun _ => 0)) pn x rO_K hpn9) (cwV 1 hts gX14_roomIn_X14_isPan rfl rfl rfl (by decide +kernel) ⟨(Nat.le_of_ble_eq_true rfl), (Nat.le_of_ble_eq_true rfl)⟩) (q_pV hA hW hS (ci := 12) rfl rO_0) rfl rfl hl.1 rfl (lv_room (Nat.le_of_ble_eq_true rfl)) dX14_roomIn_7 ⟨Nat.le_of_ble_eq_true rfl, Nat.le_of_ble_eq_true rfl⟩) hS (fun r_7 f_7 n_7 H locs hp hW hS => ?_)
  obtain ⟨rfl, rfl, rfl⟩ := hp
  have hW : q_W E (rO E f M (rp r 100 (fun _ => 0))) n H := hW
  refine lv_if_eq (tgt := 21) hx hb dX14_roomIn_10 (by decide) (fun c_10 => ?_) (fun c_10 => False.elim ((fun h9 => h9 (b01_F (b_in_no hno (by omega)))) c_10))
  refine lv_aload_n hx hb dX14_roomIn_21 rfl (lv_at hl 0 rfl) ?_
  refine lv_iconst (v := 1) hx hb dX14_roomIn_22 (by decide) ?_
  refine q_ci (va_runV (As := [.int 1]) (rest := []) ⟨hx, hb, hml, hown, hts⟩ (kX14_no l E (rO E f M (rp r 100 (fun _ => 0))) n M (rp r 100 (fun _ => 0)) 1 rO_K) (cwV 1 hts gX14_roomIn_X14_no rfl rfl rfl (by decide +kernel) ⟨(Nat.le_of_ble_eq_true rfl), (Nat.le_of_ble_eq_true rfl)⟩) (q_pV hA hW hS (ci := 12) rfl rO_0) rfl rfl hl.1 rfl (lv_room (Nat.le_of_ble_eq_true rfl)) dX14_roomIn_23 ⟨Nat.le_of_ble_eq_true rfl, Nat.le_of_ble_eq_true rfl⟩) hS (fun r_23 f_23 n_23 H locs hp hW hS => ?_)
  obtain ⟨rfl, rfl, rfl⟩ := hp
  have hW : q_W E (rO E f M (rp (rp r 100 (fun _ => 0)) 100 (fun _ => 1))) n H := by rw [rO_rO] at hW; exact hW
  rw [rp_d0] at hW
  have hW : q_W E (rO E f M (rp r 100 (fun _ => 1))) n H := hW
  exact q_iret hx hb hr hlocks hW hS ⟨rfl, rfl, rfl⟩ (Nat.le_of_ble_eq_true rfl) (Nat.le_of_ble_eq_true rfl) dX14_roomIn_26

set_option maxHeartbeats 4000000 in
set_option maxRecDepth 100000 in
theorem kX14_boilingAt (l : Launch) (E : q_E) (f : q_H) (n : Nat) (M : Nat) (r : q_R) (x : Int32)  (hm : RM E f M r) (hin : b_in x 0 60 = true) : Met l yX14_boilingAt wsX14_boilingAt ({ frames := 2, cells := 0, slots := 0, locals := 42 }) (q_P E [.ref M, .int x] f n) (q_Qi E (fun r0 f1 n1 => z_boil x = r0 ∧ rO E f M (rp r 100 (fun _ => 0)) = f1 ∧ n = n1)) 0 0 (q_ge E) := by
  refine Met.ofW (cc := cX14_boilingAt) (maxL := 2) (ret := (some .int)) (by decide) rfl ?_
  intro p e s m args below meth c s₁ B hml hv
  obtain ⟨rfl, hA, hW⟩ := hv
  have hx := B.exec
  have hb := B.bytes
  have hr := B.returns
  have hts := atoms_spec (ws := wsX14_boilingAt) B.pre
  have hown : s.vm.findClass RX14 = some m.cls := findClass_of_methodNamed B.named
  have hlocks := B.notSynchronized
  have hS : va_S (q_ge E) s.heap s.heap [] := va_S.rf
  have iX14 : ∀ w ∈ wsX140, w ∈ wsX14_boilingAt := by decide +kernel
  have hl := lv_entry ([.ref M, .int x]) (n := 2) (Nat.le_of_ble_eq_true rfl)
  rw [lg_entry_eq]
  generalize (lg_sl ([.ref M, .int x]) ++ List.replicate (2 - (lg_sl ([.ref M, .int x])).length) Slot.unset).toArray = ls at hl ⊢
  have hl : lv_has ls 2 [(0, .ref M), (1, .int x)] := hl
  have hmE := hm.eq
  rw [hm.eq] at hW
  refine lv_aload_n hx hb dX14_boilingAt_0 rfl (lv_at hl 0 rfl) ?_
  refine lv_iconst (v := 0) hx hb dX14_boilingAt_1 (by decide) ?_
  refine q_put hx hb hts hown hA hW hS iX14 tyX14 tyX14_ok nmX14 rO_0 rfl 0 (by decide) (hts (.fieldLink RX14 54 "HighRecipesModel" "thrown" "I") (by decide +kernel)) (fun _ h9 => h9) rfl rfl rfl (Nat.le_of_ble_eq_true rfl) dX14_boilingAt_2 (fun H locs hW hS => ?_)
  have hW := q_s0 100 (0) hW rfl (by decide)
  refine lv_iload_n hx hb dX14_boilingAt_5 rfl (lv_at hl 1 rfl) ?_
  refine q_ci (va_runS (As := [.int x]) (rest := []) ⟨hx, hb, hml, hown, hts⟩ (kX14_isAltitude l E (rO E f M (rp r 100 (fun _ => 0))) n x) (va_cwS 1 hts gX14_boilingAt_X14_isAltitude rfl rfl rfl (by decide +kernel) ⟨(Nat.le_of_ble_eq_true rfl), (Nat.le_of_ble_eq_true rfl)⟩) (q_pS hA hW hS) rfl rfl hl.1 rfl (lv_room (Nat.le_of_ble_eq_true rfl)) dX14_boilingAt_6 ⟨Nat.le_of_ble_eq_true rfl, Nat.le_of_ble_eq_true rfl⟩) hS (fun r_6 f_6 n_6 H locs hp hW hS => ?_)
  obtain ⟨rfl, rfl, rfl⟩ := hp
  have hW : q_W E (rO E f M (rp r 100 (fun _ => 0))) n H := hW
  refine lv_if_eq (tgt := 19) hx hb dX14_boilingAt_9 (by decide) (fun c_9 => False.elim ((fun h9 => absurd h9 (b01_T (hin))) c_9)) (fun c_9 => ?_)
  refine lv_iload_n hx hb dX14_boilingAt_12 rfl (lv_at hl 1 rfl) ?_
  refine q_ci (va_runS (As := [.int x]) (rest := []) ⟨hx, hb, hml, hown, hts⟩ (kX14_boils l E (rO E f M (rp r 100 (fun _ => 0))) n x) (va_cwS 1 hts gX14_boilingAt_X14_boils rfl rfl rfl (by decide +kernel) ⟨(Nat.le_of_ble_eq_true rfl), (Nat.le_of_ble_eq_true rfl)⟩) (q_pS hA hW hS) rfl rfl hl.1 rfl (lv_room (Nat.le_of_ble_eq_true rfl)) dX14_boilingAt_13 ⟨Nat.le_of_ble_eq_true rfl, Nat.le_of_ble_eq_true rfl⟩) hS (fun r_13 f_13 n_13 H locs hp hW hS => ?_)
  obtain ⟨rfl, rfl, rfl⟩ := hp
  have hW : q_W E (rO E f M (rp r 100 (fun _ => 0))) n H := hW
  refine lv_goto (tgt := 24) hx hb dX14_boilingAt_16 (by decide) ?_
  exact q_iret hx hb hr hlocks hW hS ⟨rfl, rfl, rfl⟩ (Nat.le_of_ble_eq_true rfl) (Nat.le_of_ble_eq_true rfl) dX14_boilingAt_24

set_option maxHeartbeats 4000000 in
set_option maxRecDepth 100000 in
theorem kX14_boilingAt_F (l : Launch) (E : q_E) (f : q_H) (n : Nat) (M : Nat) (r : q_R) (x : Int32)  (hm : RM E f M r) (hin : b_in x 0 60 = false) : Met l yX14_boilingAt wsX14_boilingAt ({ frames := 2, cells := 0, slots := 0, locals := 42 }) (q_P E [.ref M, .int x] f n) (q_Qi E (fun r0 f1 n1 => 0 = r0 ∧ rO E f M (rp r 100 (fun _ => 1)) = f1 ∧ n = n1)) 0 0 (q_ge E) := by
  refine Met.ofW (cc := cX14_boilingAt) (maxL := 2) (ret := (some .int)) (by decide) rfl ?_
  intro p e s m args below meth c s₁ B hml hv
  obtain ⟨rfl, hA, hW⟩ := hv
  have hx := B.exec
  have hb := B.bytes
  have hr := B.returns
  have hts := atoms_spec (ws := wsX14_boilingAt) B.pre
  have hown : s.vm.findClass RX14 = some m.cls := findClass_of_methodNamed B.named
  have hlocks := B.notSynchronized
  have hS : va_S (q_ge E) s.heap s.heap [] := va_S.rf
  have iX14 : ∀ w ∈ wsX140, w ∈ wsX14_boilingAt := by decide +kernel
  have hl := lv_entry ([.ref M, .int x]) (n := 2) (Nat.le_of_ble_eq_true rfl)
  rw [lg_entry_eq]
  generalize (lg_sl ([.ref M, .int x]) ++ List.replicate (2 - (lg_sl ([.ref M, .int x])).length) Slot.unset).toArray = ls at hl ⊢
  have hl : lv_has ls 2 [(0, .ref M), (1, .int x)] := hl
  have hmE := hm.eq
  rw [hm.eq] at hW
  refine lv_aload_n hx hb dX14_boilingAt_0 rfl (lv_at hl 0 rfl) ?_
  refine lv_iconst (v := 0) hx hb dX14_boilingAt_1 (by decide) ?_
  refine q_put hx hb hts hown hA hW hS iX14 tyX14 tyX14_ok nmX14 rO_0 rfl 0 (by decide) (hts (.fieldLink RX14 54 "HighRecipesModel" "thrown" "I") (by decide +kernel)) (fun _ h9 => h9) rfl rfl rfl (Nat.le_of_ble_eq_true rfl) dX14_boilingAt_2 (fun H locs hW hS => ?_)
  have hW := q_s0 100 (0) hW rfl (by decide)
  refine lv_iload_n hx hb dX14_boilingAt_5 rfl (lv_at hl 1 rfl) ?_
  refine q_ci (va_runS (As := [.int x]) (rest := []) ⟨hx, hb, hml, hown, hts⟩ (kX14_isAltitude l E (rO E f M (rp r 100 (fun _ => 0))) n x) (va_cwS 1 hts gX14_boilingAt_X14_isAltitude rfl rfl rfl (by decide +kernel) ⟨(Nat.le_of_ble_eq_true rfl), (Nat.le_of_ble_eq_true rfl)⟩) (q_pS hA hW hS) rfl rfl hl.1 rfl (lv_room (Nat.le_of_ble_eq_true rfl)) dX14_boilingAt_6 ⟨Nat.le_of_ble_eq_true rfl, Nat.le_of_ble_eq_true rfl⟩) hS (fun r_6 f_6 n_6 H locs hp hW hS => ?_)
  obtain ⟨rfl, rfl, rfl⟩ := hp
  have hW : q_W E (rO E f M (rp r 100 (fun _ => 0))) n H := hW
  refine lv_if_eq (tgt := 19) hx hb dX14_boilingAt_9 (by decide) (fun c_9 => ?_) (fun c_9 => False.elim ((fun h9 => h9 (b01_F (hin))) c_9))
  refine lv_aload_n hx hb dX14_boilingAt_19 rfl (lv_at hl 0 rfl) ?_
  refine lv_iconst (v := 1) hx hb dX14_boilingAt_20 (by decide) ?_
  refine q_ci (va_runV (As := [.int 1]) (rest := []) ⟨hx, hb, hml, hown, hts⟩ (kX14_no l E (rO E f M (rp r 100 (fun _ => 0))) n M (rp r 100 (fun _ => 0)) 1 rO_K) (cwV 1 hts gX14_boilingAt_X14_no rfl rfl rfl (by decide +kernel) ⟨(Nat.le_of_ble_eq_true rfl), (Nat.le_of_ble_eq_true rfl)⟩) (q_pV hA hW hS (ci := 12) rfl rO_0) rfl rfl hl.1 rfl (lv_room (Nat.le_of_ble_eq_true rfl)) dX14_boilingAt_21 ⟨Nat.le_of_ble_eq_true rfl, Nat.le_of_ble_eq_true rfl⟩) hS (fun r_21 f_21 n_21 H locs hp hW hS => ?_)
  obtain ⟨rfl, rfl, rfl⟩ := hp
  have hW : q_W E (rO E f M (rp (rp r 100 (fun _ => 0)) 100 (fun _ => 1))) n H := by rw [rO_rO] at hW; exact hW
  rw [rp_d0] at hW
  have hW : q_W E (rO E f M (rp r 100 (fun _ => 1))) n H := hW
  exact q_iret hx hb hr hlocks hW hS ⟨rfl, rfl, rfl⟩ (Nat.le_of_ble_eq_true rfl) (Nat.le_of_ble_eq_true rfl) dX14_boilingAt_24

set_option maxHeartbeats 4000000 in
set_option maxRecDepth 100000 in
theorem kX14_amountFor (l : Launch) (E : q_E) (f : q_H) (n : Nat) (M : Nat) (r : q_R) (x : Int32)  (hm : RM E f M r) (hin : b_in x 0 999 = true) (hsp : ¬ 4 * (r 42) 2 = 0) : Met l yX14_amountFor wsX14_amountFor ({ frames := 3, cells := 0, slots := 0, locals := 65 }) (q_P E [.ref M, .int x] f n) (q_Qi E (fun r0 f1 n1 => z_tr (r 42) x = r0 ∧ rO E f M (rp r 100 (fun _ => 0)) = f1 ∧ n = n1)) 0 0 (q_ge E) := by
  refine Met.ofW (cc := cX14_amountFor) (maxL := 2) (ret := (some .int)) (by decide) rfl ?_
  intro p e s m args below meth c s₁ B hml hv
  obtain ⟨rfl, hA, hW⟩ := hv
  have hx := B.exec
  have hb := B.bytes
  have hr := B.returns
  have hts := atoms_spec (ws := wsX14_amountFor) B.pre
  have hown : s.vm.findClass RX14 = some m.cls := findClass_of_methodNamed B.named
  have hlocks := B.notSynchronized
  have hS : va_S (q_ge E) s.heap s.heap [] := va_S.rf
  have iX14 : ∀ w ∈ wsX140, w ∈ wsX14_amountFor := by decide +kernel
  have hl := lv_entry ([.ref M, .int x]) (n := 2) (Nat.le_of_ble_eq_true rfl)
  rw [lg_entry_eq]
  generalize (lg_sl ([.ref M, .int x]) ++ List.replicate (2 - (lg_sl ([.ref M, .int x])).length) Slot.unset).toArray = ls at hl ⊢
  have hl : lv_has ls 2 [(0, .ref M), (1, .int x)] := hl
  have hmE := hm.eq
  rw [hm.eq] at hW
  refine lv_aload_n hx hb dX14_amountFor_0 rfl (lv_at hl 0 rfl) ?_
  refine lv_iconst (v := 0) hx hb dX14_amountFor_1 (by decide) ?_
  refine q_put hx hb hts hown hA hW hS iX14 tyX14 tyX14_ok nmX14 rO_0 rfl 0 (by decide) (hts (.fieldLink RX14 54 "HighRecipesModel" "thrown" "I") (by decide +kernel)) (fun _ h9 => h9) rfl rfl rfl (Nat.le_of_ble_eq_true rfl) dX14_amountFor_2 (fun H locs hW hS => ?_)
  have hW := q_s0 100 (0) hW rfl (by decide)
  refine lv_iload_n hx hb dX14_amountFor_5 rfl (lv_at hl 1 rfl) ?_
  refine lv_iconst (v := 0) hx hb dX14_amountFor_6 (by decide) ?_
  refine lv_sipush (v := 999) hx hb dX14_amountFor_7 (by decide) ?_
  refine q_ci (va_runS (As := [.int x, .int 0, .int 999]) (rest := []) ⟨hx, hb, hml, hown, hts⟩ (kX14_isIn l E (rO E f M (rp r 100 (fun _ => 0))) n x 0 999) (va_cwS 3 hts gX14_amountFor_X14_isIn rfl rfl rfl (by decide +kernel) ⟨(Nat.le_of_ble_eq_true rfl), (Nat.le_of_ble_eq_true rfl)⟩) (q_pS hA hW hS) rfl rfl hl.1 rfl (lv_room (Nat.le_of_ble_eq_true rfl)) dX14_amountFor_10 ⟨Nat.le_of_ble_eq_true rfl, Nat.le_of_ble_eq_true rfl⟩) hS (fun r_10 f_10 n_10 H locs hp hW hS => ?_)
  obtain ⟨rfl, rfl, rfl⟩ := hp
  have hW : q_W E (rO E f M (rp r 100 (fun _ => 0))) n H := hW
  refine lv_if_eq (tgt := 24) hx hb dX14_amountFor_13 (by decide) (fun c_13 => False.elim ((fun h9 => absurd h9 (b01_T (hin))) c_13)) (fun c_13 => ?_)
  refine lv_aload_n hx hb dX14_amountFor_16 rfl (lv_at hl 0 rfl) ?_
  refine lv_iload_n hx hb dX14_amountFor_17 rfl (lv_at hl 1 rfl) ?_
  refine q_ci (va_runV (As := [.int x]) (rest := []) ⟨hx, hb, hml, hown, hts⟩ (kX14_translated l E (rO E f M (rp r 100 (fun _ => 0))) n M (rp r 100 (fun _ => 0)) x rO_K hsp) (cwV 1 hts gX14_amountFor_X14_translated rfl rfl rfl (by decide +kernel) ⟨(Nat.le_of_ble_eq_true rfl), (Nat.le_of_ble_eq_true rfl)⟩) (q_pV hA hW hS (ci := 12) rfl rO_0) rfl rfl hl.1 rfl (lv_room (Nat.le_of_ble_eq_true rfl)) dX14_amountFor_18 ⟨Nat.le_of_ble_eq_true rfl, Nat.le_of_ble_eq_true rfl⟩) hS (fun r_18 f_18 n_18 H locs hp hW hS => ?_)
  obtain ⟨rfl, rfl, rfl⟩ := hp
  rw [show z_tr ((rp r 100 (fun _ => 0)) 42) x = z_tr (r 42) x from rfl]
  have hW : q_W E (rO E f M (rp r 100 (fun _ => 0))) n H := hW
  refine lv_goto (tgt := 29) hx hb dX14_amountFor_21 (by decide) ?_
  exact q_iret hx hb hr hlocks hW hS ⟨rfl, rfl, rfl⟩ (Nat.le_of_ble_eq_true rfl) (Nat.le_of_ble_eq_true rfl) dX14_amountFor_29

set_option maxHeartbeats 4000000 in
set_option maxRecDepth 100000 in
theorem kX14_amountFor_F (l : Launch) (E : q_E) (f : q_H) (n : Nat) (M : Nat) (r : q_R) (x : Int32)  (hm : RM E f M r) (hin : b_in x 0 999 = false) : Met l yX14_amountFor wsX14_amountFor ({ frames := 1, cells := 0, slots := 0, locals := 22 }) (q_P E [.ref M, .int x] f n) (q_Qi E (fun r0 f1 n1 => 0 = r0 ∧ rO E f M (rp r 100 (fun _ => 1)) = f1 ∧ n = n1)) 0 0 (q_ge E) := by
  refine Met.ofW (cc := cX14_amountFor) (maxL := 2) (ret := (some .int)) (by decide) rfl ?_
  intro p e s m args below meth c s₁ B hml hv
  obtain ⟨rfl, hA, hW⟩ := hv
  have hx := B.exec
  have hb := B.bytes
  have hr := B.returns
  have hts := atoms_spec (ws := wsX14_amountFor) B.pre
  have hown : s.vm.findClass RX14 = some m.cls := findClass_of_methodNamed B.named
  have hlocks := B.notSynchronized
  have hS : va_S (q_ge E) s.heap s.heap [] := va_S.rf
  have iX14 : ∀ w ∈ wsX140, w ∈ wsX14_amountFor := by decide +kernel
  have hl := lv_entry ([.ref M, .int x]) (n := 2) (Nat.le_of_ble_eq_true rfl)
  rw [lg_entry_eq]
  generalize (lg_sl ([.ref M, .int x]) ++ List.replicate (2 - (lg_sl ([.ref M, .int x])).length) Slot.unset).toArray = ls at hl ⊢
  have hl : lv_has ls 2 [(0, .ref M), (1, .int x)] := hl
  have hmE := hm.eq
  rw [hm.eq] at hW
  refine lv_aload_n hx hb dX14_amountFor_0 rfl (lv_at hl 0 rfl) ?_
  refine lv_iconst (v := 0) hx hb dX14_amountFor_1 (by decide) ?_
  refine q_put hx hb hts hown hA hW hS iX14 tyX14 tyX14_ok nmX14 rO_0 rfl 0 (by decide) (hts (.fieldLink RX14 54 "HighRecipesModel" "thrown" "I") (by decide +kernel)) (fun _ h9 => h9) rfl rfl rfl (Nat.le_of_ble_eq_true rfl) dX14_amountFor_2 (fun H locs hW hS => ?_)
  have hW := q_s0 100 (0) hW rfl (by decide)
  refine lv_iload_n hx hb dX14_amountFor_5 rfl (lv_at hl 1 rfl) ?_
  refine lv_iconst (v := 0) hx hb dX14_amountFor_6 (by decide) ?_
  refine lv_sipush (v := 999) hx hb dX14_amountFor_7 (by decide) ?_
  refine q_ci (va_runS (As := [.int x, .int 0, .int 999]) (rest := []) ⟨hx, hb, hml, hown, hts⟩ (kX14_isIn l E (rO E f M (rp r 100 (fun _ => 0))) n x 0 999) (va_cwS 3 hts gX14_amountFor_X14_isIn rfl rfl rfl (by decide +kernel) ⟨(Nat.le_of_ble_eq_true rfl), (Nat.le_of_ble_eq_true rfl)⟩) (q_pS hA hW hS) rfl rfl hl.1 rfl (lv_room (Nat.le_of_ble_eq_true rfl)) dX14_amountFor_10 ⟨Nat.le_of_ble_eq_true rfl, Nat.le_of_ble_eq_true rfl⟩) hS (fun r_10 f_10 n_10 H locs hp hW hS => ?_)
  obtain ⟨rfl, rfl, rfl⟩ := hp
  have hW : q_W E (rO E f M (rp r 100 (fun _ => 0))) n H := hW
  refine lv_if_eq (tgt := 24) hx hb dX14_amountFor_13 (by decide) (fun c_13 => ?_) (fun c_13 => False.elim ((fun h9 => h9 (b01_F (hin))) c_13))
  refine lv_aload_n hx hb dX14_amountFor_24 rfl (lv_at hl 0 rfl) ?_
  refine lv_iconst (v := 1) hx hb dX14_amountFor_25 (by decide) ?_
  refine q_ci (va_runV (As := [.int 1]) (rest := []) ⟨hx, hb, hml, hown, hts⟩ (kX14_no l E (rO E f M (rp r 100 (fun _ => 0))) n M (rp r 100 (fun _ => 0)) 1 rO_K) (cwV 1 hts gX14_amountFor_X14_no rfl rfl rfl (by decide +kernel) ⟨(Nat.le_of_ble_eq_true rfl), (Nat.le_of_ble_eq_true rfl)⟩) (q_pV hA hW hS (ci := 12) rfl rO_0) rfl rfl hl.1 rfl (lv_room (Nat.le_of_ble_eq_true rfl)) dX14_amountFor_26 ⟨Nat.le_of_ble_eq_true rfl, Nat.le_of_ble_eq_true rfl⟩) hS (fun r_26 f_26 n_26 H locs hp hW hS => ?_)
  obtain ⟨rfl, rfl, rfl⟩ := hp
  have hW : q_W E (rO E f M (rp (rp r 100 (fun _ => 0)) 100 (fun _ => 1))) n H := by rw [rO_rO] at hW; exact hW
  rw [rp_d0] at hW
  have hW : q_W E (rO E f M (rp r 100 (fun _ => 1))) n H := hW
  exact q_iret hx hb hr hlocks hW hS ⟨rfl, rfl, rfl⟩ (Nat.le_of_ble_eq_true rfl) (Nat.le_of_ble_eq_true rfl) dX14_amountFor_29

set_option maxHeartbeats 4000000 in
set_option maxRecDepth 100000 in
theorem kX14_minutesAt (l : Launch) (E : q_E) (f : q_H) (n : Nat) (M : Nat) (r : q_R) (x y : Int32)  (hm : RM E f M r) (hin : b_in x 0 999 = true) (hin2 : b_in y 0 60 = true) : Met l yX14_minutesAt wsX14_minutesAt ({ frames := 3, cells := 0, slots := 0, locals := 61 }) (q_P E [.ref M, .int x, .int y] f n) (q_Qi E (fun r0 f1 n1 => z_long x y = r0 ∧ rO E f M (rp r 100 (fun _ => 0)) = f1 ∧ n = n1)) 0 0 (q_ge E) := by
  refine Met.ofW (cc := cX14_minutesAt) (maxL := 3) (ret := (some .int)) (by decide) rfl ?_
  intro p e s m args below meth c s₁ B hml hv
  obtain ⟨rfl, hA, hW⟩ := hv
  have hx := B.exec
  have hb := B.bytes
  have hr := B.returns
  have hts := atoms_spec (ws := wsX14_minutesAt) B.pre
  have hown : s.vm.findClass RX14 = some m.cls := findClass_of_methodNamed B.named
  have hlocks := B.notSynchronized
  have hS : va_S (q_ge E) s.heap s.heap [] := va_S.rf
  have iX14 : ∀ w ∈ wsX140, w ∈ wsX14_minutesAt := by decide +kernel
  have hl := lv_entry ([.ref M, .int x, .int y]) (n := 3) (Nat.le_of_ble_eq_true rfl)
  rw [lg_entry_eq]
  generalize (lg_sl ([.ref M, .int x, .int y]) ++ List.replicate (3 - (lg_sl ([.ref M, .int x, .int y])).length) Slot.unset).toArray = ls at hl ⊢
  have hl : lv_has ls 3 [(0, .ref M), (1, .int x), (2, .int y)] := hl
  have hmE := hm.eq
  rw [hm.eq] at hW
  refine lv_aload_n hx hb dX14_minutesAt_0 rfl (lv_at hl 0 rfl) ?_
  refine lv_iconst (v := 0) hx hb dX14_minutesAt_1 (by decide) ?_
  refine q_put hx hb hts hown hA hW hS iX14 tyX14 tyX14_ok nmX14 rO_0 rfl 0 (by decide) (hts (.fieldLink RX14 54 "HighRecipesModel" "thrown" "I") (by decide +kernel)) (fun _ h9 => h9) rfl rfl rfl (Nat.le_of_ble_eq_true rfl) dX14_minutesAt_2 (fun H locs hW hS => ?_)
  have hW := q_s0 100 (0) hW rfl (by decide)
  refine lv_iload_n hx hb dX14_minutesAt_5 rfl (lv_at hl 1 rfl) ?_
  refine lv_iconst (v := 0) hx hb dX14_minutesAt_6 (by decide) ?_
  refine lv_sipush (v := 999) hx hb dX14_minutesAt_7 (by decide) ?_
  refine q_ci (va_runS (As := [.int x, .int 0, .int 999]) (rest := []) ⟨hx, hb, hml, hown, hts⟩ (kX14_isIn l E (rO E f M (rp r 100 (fun _ => 0))) n x 0 999) (va_cwS 3 hts gX14_minutesAt_X14_isIn rfl rfl rfl (by decide +kernel) ⟨(Nat.le_of_ble_eq_true rfl), (Nat.le_of_ble_eq_true rfl)⟩) (q_pS hA hW hS) rfl rfl hl.1 rfl (lv_room (Nat.le_of_ble_eq_true rfl)) dX14_minutesAt_10 ⟨Nat.le_of_ble_eq_true rfl, Nat.le_of_ble_eq_true rfl⟩) hS (fun r_10 f_10 n_10 H locs hp hW hS => ?_)
  obtain ⟨rfl, rfl, rfl⟩ := hp
  have hW : q_W E (rO E f M (rp r 100 (fun _ => 0))) n H := hW
  refine lv_if_eq (tgt := 31) hx hb dX14_minutesAt_13 (by decide) (fun c_13 => False.elim ((fun h9 => absurd h9 (b01_T (hin))) c_13)) (fun c_13 => ?_)
  refine lv_iload_n hx hb dX14_minutesAt_16 rfl (lv_at hl 2 rfl) ?_
  refine q_ci (va_runS (As := [.int y]) (rest := []) ⟨hx, hb, hml, hown, hts⟩ (kX14_isAltitude l E (rO E f M (rp r 100 (fun _ => 0))) n y) (va_cwS 1 hts gX14_minutesAt_X14_isAltitude rfl rfl rfl (by decide +kernel) ⟨(Nat.le_of_ble_eq_true rfl), (Nat.le_of_ble_eq_true rfl)⟩) (q_pS hA hW hS) rfl rfl hl.1 rfl (lv_room (Nat.le_of_ble_eq_true rfl)) dX14_minutesAt_17 ⟨Nat.le_of_ble_eq_true rfl, Nat.le_of_ble_eq_true rfl⟩) hS (fun r_17 f_17 n_17 H locs hp hW hS => ?_)
  obtain ⟨rfl, rfl, rfl⟩ := hp
  have hW : q_W E (rO E f M (rp r 100 (fun _ => 0))) n H := hW
  refine lv_if_eq (tgt := 31) hx hb dX14_minutesAt_20 (by decide) (fun c_20 => False.elim ((fun h9 => absurd h9 (b01_T (hin2))) c_20)) (fun c_20 => ?_)
  refine lv_iload_n hx hb dX14_minutesAt_23 rfl (lv_at hl 1 rfl) ?_
  refine lv_iload_n hx hb dX14_minutesAt_24 rfl (lv_at hl 2 rfl) ?_
  refine q_ci (va_runS (As := [.int x, .int y]) (rest := []) ⟨hx, hb, hml, hown, hts⟩ (kX14_longer l E (rO E f M (rp r 100 (fun _ => 0))) n x y) (va_cwS 2 hts gX14_minutesAt_X14_longer rfl rfl rfl (by decide +kernel) ⟨(Nat.le_of_ble_eq_true rfl), (Nat.le_of_ble_eq_true rfl)⟩) (q_pS hA hW hS) rfl rfl hl.1 rfl (lv_room (Nat.le_of_ble_eq_true rfl)) dX14_minutesAt_25 ⟨Nat.le_of_ble_eq_true rfl, Nat.le_of_ble_eq_true rfl⟩) hS (fun r_25 f_25 n_25 H locs hp hW hS => ?_)
  obtain ⟨rfl, rfl, rfl⟩ := hp
  have hW : q_W E (rO E f M (rp r 100 (fun _ => 0))) n H := hW
  refine lv_goto (tgt := 36) hx hb dX14_minutesAt_28 (by decide) ?_
  exact q_iret hx hb hr hlocks hW hS ⟨rfl, rfl, rfl⟩ (Nat.le_of_ble_eq_true rfl) (Nat.le_of_ble_eq_true rfl) dX14_minutesAt_36

set_option maxHeartbeats 4000000 in
set_option maxRecDepth 100000 in
theorem kX14_minutesAt_F (l : Launch) (E : q_E) (f : q_H) (n : Nat) (M : Nat) (r : q_R) (x y : Int32)  (hm : RM E f M r) (hin : b_in x 0 999 = false) : Met l yX14_minutesAt wsX14_minutesAt ({ frames := 1, cells := 0, slots := 0, locals := 22 }) (q_P E [.ref M, .int x, .int y] f n) (q_Qi E (fun r0 f1 n1 => 0 = r0 ∧ rO E f M (rp r 100 (fun _ => 1)) = f1 ∧ n = n1)) 0 0 (q_ge E) := by
  refine Met.ofW (cc := cX14_minutesAt) (maxL := 3) (ret := (some .int)) (by decide) rfl ?_
  intro p e s m args below meth c s₁ B hml hv
  obtain ⟨rfl, hA, hW⟩ := hv
  have hx := B.exec
  have hb := B.bytes
  have hr := B.returns
  have hts := atoms_spec (ws := wsX14_minutesAt) B.pre
  have hown : s.vm.findClass RX14 = some m.cls := findClass_of_methodNamed B.named
  have hlocks := B.notSynchronized
  have hS : va_S (q_ge E) s.heap s.heap [] := va_S.rf
  have iX14 : ∀ w ∈ wsX140, w ∈ wsX14_minutesAt := by decide +kernel
  have hl := lv_entry ([.ref M, .int x, .int y]) (n := 3) (Nat.le_of_ble_eq_true rfl)
  rw [lg_entry_eq]
  generalize (lg_sl ([.ref M, .int x, .int y]) ++ List.replicate (3 - (lg_sl ([.ref M, .int x, .int y])).length) Slot.unset).toArray = ls at hl ⊢
  have hl : lv_has ls 3 [(0, .ref M), (1, .int x), (2, .int y)] := hl
  have hmE := hm.eq
  rw [hm.eq] at hW
  refine lv_aload_n hx hb dX14_minutesAt_0 rfl (lv_at hl 0 rfl) ?_
  refine lv_iconst (v := 0) hx hb dX14_minutesAt_1 (by decide) ?_
  refine q_put hx hb hts hown hA hW hS iX14 tyX14 tyX14_ok nmX14 rO_0 rfl 0 (by decide) (hts (.fieldLink RX14 54 "HighRecipesModel" "thrown" "I") (by decide +kernel)) (fun _ h9 => h9) rfl rfl rfl (Nat.le_of_ble_eq_true rfl) dX14_minutesAt_2 (fun H locs hW hS => ?_)
  have hW := q_s0 100 (0) hW rfl (by decide)
  refine lv_iload_n hx hb dX14_minutesAt_5 rfl (lv_at hl 1 rfl) ?_
  refine lv_iconst (v := 0) hx hb dX14_minutesAt_6 (by decide) ?_
  refine lv_sipush (v := 999) hx hb dX14_minutesAt_7 (by decide) ?_
  refine q_ci (va_runS (As := [.int x, .int 0, .int 999]) (rest := []) ⟨hx, hb, hml, hown, hts⟩ (kX14_isIn l E (rO E f M (rp r 100 (fun _ => 0))) n x 0 999) (va_cwS 3 hts gX14_minutesAt_X14_isIn rfl rfl rfl (by decide +kernel) ⟨(Nat.le_of_ble_eq_true rfl), (Nat.le_of_ble_eq_true rfl)⟩) (q_pS hA hW hS) rfl rfl hl.1 rfl (lv_room (Nat.le_of_ble_eq_true rfl)) dX14_minutesAt_10 ⟨Nat.le_of_ble_eq_true rfl, Nat.le_of_ble_eq_true rfl⟩) hS (fun r_10 f_10 n_10 H locs hp hW hS => ?_)
  obtain ⟨rfl, rfl, rfl⟩ := hp
  have hW : q_W E (rO E f M (rp r 100 (fun _ => 0))) n H := hW
  refine lv_if_eq (tgt := 31) hx hb dX14_minutesAt_13 (by decide) (fun c_13 => ?_) (fun c_13 => False.elim ((fun h9 => h9 (b01_F (hin))) c_13))
  refine lv_aload_n hx hb dX14_minutesAt_31 rfl (lv_at hl 0 rfl) ?_
  refine lv_iconst (v := 1) hx hb dX14_minutesAt_32 (by decide) ?_
  refine q_ci (va_runV (As := [.int 1]) (rest := []) ⟨hx, hb, hml, hown, hts⟩ (kX14_no l E (rO E f M (rp r 100 (fun _ => 0))) n M (rp r 100 (fun _ => 0)) 1 rO_K) (cwV 1 hts gX14_minutesAt_X14_no rfl rfl rfl (by decide +kernel) ⟨(Nat.le_of_ble_eq_true rfl), (Nat.le_of_ble_eq_true rfl)⟩) (q_pV hA hW hS (ci := 12) rfl rO_0) rfl rfl hl.1 rfl (lv_room (Nat.le_of_ble_eq_true rfl)) dX14_minutesAt_33 ⟨Nat.le_of_ble_eq_true rfl, Nat.le_of_ble_eq_true rfl⟩) hS (fun r_33 f_33 n_33 H locs hp hW hS => ?_)
  obtain ⟨rfl, rfl, rfl⟩ := hp
  have hW : q_W E (rO E f M (rp (rp r 100 (fun _ => 0)) 100 (fun _ => 1))) n H := by rw [rO_rO] at hW; exact hW
  rw [rp_d0] at hW
  have hW : q_W E (rO E f M (rp r 100 (fun _ => 1))) n H := hW
  exact q_iret hx hb hr hlocks hW hS ⟨rfl, rfl, rfl⟩ (Nat.le_of_ble_eq_true rfl) (Nat.le_of_ble_eq_true rfl) dX14_minutesAt_36

set_option maxHeartbeats 4000000 in
set_option maxRecDepth 100000 in
theorem kX14_minutesAt_G (l : Launch) (E : q_E) (f : q_H) (n : Nat) (M : Nat) (r : q_R) (x y : Int32)  (hm : RM E f M r) (hin : b_in x 0 999 = true) (hin2 : b_in y 0 60 = false) : Met l yX14_minutesAt wsX14_minutesAt ({ frames := 2, cells := 0, slots := 0, locals := 42 }) (q_P E [.ref M, .int x, .int y] f n) (q_Qi E (fun r0 f1 n1 => 0 = r0 ∧ rO E f M (rp r 100 (fun _ => 1)) = f1 ∧ n = n1)) 0 0 (q_ge E) := by
  refine Met.ofW (cc := cX14_minutesAt) (maxL := 3) (ret := (some .int)) (by decide) rfl ?_
  intro p e s m args below meth c s₁ B hml hv
  obtain ⟨rfl, hA, hW⟩ := hv
  have hx := B.exec
  have hb := B.bytes
  have hr := B.returns
  have hts := atoms_spec (ws := wsX14_minutesAt) B.pre
  have hown : s.vm.findClass RX14 = some m.cls := findClass_of_methodNamed B.named
  have hlocks := B.notSynchronized
  have hS : va_S (q_ge E) s.heap s.heap [] := va_S.rf
  have iX14 : ∀ w ∈ wsX140, w ∈ wsX14_minutesAt := by decide +kernel
  have hl := lv_entry ([.ref M, .int x, .int y]) (n := 3) (Nat.le_of_ble_eq_true rfl)
  rw [lg_entry_eq]
  generalize (lg_sl ([.ref M, .int x, .int y]) ++ List.replicate (3 - (lg_sl ([.ref M, .int x, .int y])).length) Slot.unset).toArray = ls at hl ⊢
  have hl : lv_has ls 3 [(0, .ref M), (1, .int x), (2, .int y)] := hl
  have hmE := hm.eq
  rw [hm.eq] at hW
  refine lv_aload_n hx hb dX14_minutesAt_0 rfl (lv_at hl 0 rfl) ?_
  refine lv_iconst (v := 0) hx hb dX14_minutesAt_1 (by decide) ?_
  refine q_put hx hb hts hown hA hW hS iX14 tyX14 tyX14_ok nmX14 rO_0 rfl 0 (by decide) (hts (.fieldLink RX14 54 "HighRecipesModel" "thrown" "I") (by decide +kernel)) (fun _ h9 => h9) rfl rfl rfl (Nat.le_of_ble_eq_true rfl) dX14_minutesAt_2 (fun H locs hW hS => ?_)
  have hW := q_s0 100 (0) hW rfl (by decide)
  refine lv_iload_n hx hb dX14_minutesAt_5 rfl (lv_at hl 1 rfl) ?_
  refine lv_iconst (v := 0) hx hb dX14_minutesAt_6 (by decide) ?_
  refine lv_sipush (v := 999) hx hb dX14_minutesAt_7 (by decide) ?_
  refine q_ci (va_runS (As := [.int x, .int 0, .int 999]) (rest := []) ⟨hx, hb, hml, hown, hts⟩ (kX14_isIn l E (rO E f M (rp r 100 (fun _ => 0))) n x 0 999) (va_cwS 3 hts gX14_minutesAt_X14_isIn rfl rfl rfl (by decide +kernel) ⟨(Nat.le_of_ble_eq_true rfl), (Nat.le_of_ble_eq_true rfl)⟩) (q_pS hA hW hS) rfl rfl hl.1 rfl (lv_room (Nat.le_of_ble_eq_true rfl)) dX14_minutesAt_10 ⟨Nat.le_of_ble_eq_true rfl, Nat.le_of_ble_eq_true rfl⟩) hS (fun r_10 f_10 n_10 H locs hp hW hS => ?_)
  obtain ⟨rfl, rfl, rfl⟩ := hp
  have hW : q_W E (rO E f M (rp r 100 (fun _ => 0))) n H := hW
  refine lv_if_eq (tgt := 31) hx hb dX14_minutesAt_13 (by decide) (fun c_13 => False.elim ((fun h9 => absurd h9 (b01_T (hin))) c_13)) (fun c_13 => ?_)
  refine lv_iload_n hx hb dX14_minutesAt_16 rfl (lv_at hl 2 rfl) ?_
  refine q_ci (va_runS (As := [.int y]) (rest := []) ⟨hx, hb, hml, hown, hts⟩ (kX14_isAltitude l E (rO E f M (rp r 100 (fun _ => 0))) n y) (va_cwS 1 hts gX14_minutesAt_X14_isAltitude rfl rfl rfl (by decide +kernel) ⟨(Nat.le_of_ble_eq_true rfl), (Nat.le_of_ble_eq_true rfl)⟩) (q_pS hA hW hS) rfl rfl hl.1 rfl (lv_room (Nat.le_of_ble_eq_true rfl)) dX14_minutesAt_17 ⟨Nat.le_of_ble_eq_true rfl, Nat.le_of_ble_eq_true rfl⟩) hS (fun r_17 f_17 n_17 H locs hp hW hS => ?_)
  obtain ⟨rfl, rfl, rfl⟩ := hp
  have hW : q_W E (rO E f M (rp r 100 (fun _ => 0))) n H := hW
  refine lv_if_eq (tgt := 31) hx hb dX14_minutesAt_20 (by decide) (fun c_20 => ?_) (fun c_20 => False.elim ((fun h9 => h9 (b01_F (hin2))) c_20))
  refine lv_aload_n hx hb dX14_minutesAt_31 rfl (lv_at hl 0 rfl) ?_
  refine lv_iconst (v := 1) hx hb dX14_minutesAt_32 (by decide) ?_
  refine q_ci (va_runV (As := [.int 1]) (rest := []) ⟨hx, hb, hml, hown, hts⟩ (kX14_no l E (rO E f M (rp r 100 (fun _ => 0))) n M (rp r 100 (fun _ => 0)) 1 rO_K) (cwV 1 hts gX14_minutesAt_X14_no rfl rfl rfl (by decide +kernel) ⟨(Nat.le_of_ble_eq_true rfl), (Nat.le_of_ble_eq_true rfl)⟩) (q_pV hA hW hS (ci := 12) rfl rO_0) rfl rfl hl.1 rfl (lv_room (Nat.le_of_ble_eq_true rfl)) dX14_minutesAt_33 ⟨Nat.le_of_ble_eq_true rfl, Nat.le_of_ble_eq_true rfl⟩) hS (fun r_33 f_33 n_33 H locs hp hW hS => ?_)
  obtain ⟨rfl, rfl, rfl⟩ := hp
  have hW : q_W E (rO E f M (rp (rp r 100 (fun _ => 0)) 100 (fun _ => 1))) n H := by rw [rO_rO] at hW; exact hW
  rw [rp_d0] at hW
  have hW : q_W E (rO E f M (rp r 100 (fun _ => 1))) n H := hW
  exact q_iret hx hb hr hlocks hW hS ⟨rfl, rfl, rfl⟩ (Nat.le_of_ble_eq_true rfl) (Nat.le_of_ble_eq_true rfl) dX14_minutesAt_36

set_option maxHeartbeats 4000000 in
set_option maxRecDepth 100000 in
theorem kX14_warningsOf (l : Launch) (E : q_E) (f : q_H) (n : Nat) (M : Nat) (r : q_R) (kd : Nat)  (hm : RM E f M r) (h1 : 1 ≤ kd) (h5 : kd ≤ 5) : Met l yX14_warningsOf wsX14_warningsOf ({ frames := 1, cells := 0, slots := 0, locals := 22 }) (q_P E [.ref M, .int (nI kd)] f n) (q_Qi E (fun r0 f1 n1 => (r 42) (6 + kd) = r0 ∧ rO E f M (rp r 100 (fun _ => 0)) = f1 ∧ n = n1)) 0 0 (q_ge E) := by
  refine Met.ofW (cc := cX14_warningsOf) (maxL := 2) (ret := (some .int)) (by decide) rfl ?_
  intro p e s m args below meth c s₁ B hml hv
  obtain ⟨rfl, hA, hW⟩ := hv
  have hx := B.exec
  have hb := B.bytes
  have hr := B.returns
  have hts := atoms_spec (ws := wsX14_warningsOf) B.pre
  have hown : s.vm.findClass RX14 = some m.cls := findClass_of_methodNamed B.named
  have hlocks := B.notSynchronized
  have hS : va_S (q_ge E) s.heap s.heap [] := va_S.rf
  have iX14 : ∀ w ∈ wsX140, w ∈ wsX14_warningsOf := by decide +kernel
  have hl := lv_entry ([.ref M, .int (nI kd)]) (n := 2) (Nat.le_of_ble_eq_true rfl)
  rw [lg_entry_eq]
  generalize (lg_sl ([.ref M, .int (nI kd)]) ++ List.replicate (2 - (lg_sl ([.ref M, .int (nI kd)])).length) Slot.unset).toArray = ls at hl ⊢
  have hl : lv_has ls 2 [(0, .ref M), (1, .int (nI kd))] := hl
  have hmE := hm.eq
  rw [hm.eq] at hW
  refine lv_aload_n hx hb dX14_warningsOf_0 rfl (lv_at hl 0 rfl) ?_
  refine lv_iconst (v := 0) hx hb dX14_warningsOf_1 (by decide) ?_
  refine q_put hx hb hts hown hA hW hS iX14 tyX14 tyX14_ok nmX14 rO_0 rfl 0 (by decide) (hts (.fieldLink RX14 54 "HighRecipesModel" "thrown" "I") (by decide +kernel)) (fun _ h9 => h9) rfl rfl rfl (Nat.le_of_ble_eq_true rfl) dX14_warningsOf_2 (fun H locs hW hS => ?_)
  have hW := q_s0 100 (0) hW rfl (by decide)
  refine lv_iload_n hx hb dX14_warningsOf_5 rfl (lv_at hl 1 rfl) ?_
  refine lv_iconst (v := 1) hx hb dX14_warningsOf_6 (by decide) ?_
  refine lv_iconst (v := 5) hx hb dX14_warningsOf_7 (by decide) ?_
  refine q_ci (va_runS (As := [.int (nI kd), .int 1, .int 5]) (rest := []) ⟨hx, hb, hml, hown, hts⟩ (kX14_isIn l E (rO E f M (rp r 100 (fun _ => 0))) n (nI kd) 1 5) (va_cwS 3 hts gX14_warningsOf_X14_isIn rfl rfl rfl (by decide +kernel) ⟨(Nat.le_of_ble_eq_true rfl), (Nat.le_of_ble_eq_true rfl)⟩) (q_pS hA hW hS) rfl rfl hl.1 rfl (lv_room (Nat.le_of_ble_eq_true rfl)) dX14_warningsOf_8 ⟨Nat.le_of_ble_eq_true rfl, Nat.le_of_ble_eq_true rfl⟩) hS (fun r_8 f_8 n_8 H locs hp hW hS => ?_)
  obtain ⟨rfl, rfl, rfl⟩ := hp
  have hW : q_W E (rO E f M (rp r 100 (fun _ => 0))) n H := hW
  have hin : b_in (nI kd) 1 5 = true := by unfold b_in; rw [show (1 : Int32) = nI 1 from rfl, show (5 : Int32) = nI 5 from rfl, decide_eq_false (nI_nlt h1 (by omega)), decide_eq_false (nI_nlt h5 (by decide))]; rfl
  refine lv_if_eq (tgt := 26) hx hb dX14_warningsOf_11 (by decide) (fun c_11 => False.elim ((fun h9 => absurd h9 (b01_T (hin))) c_11)) (fun c_11 => ?_)
  refine lv_aload_n hx hb dX14_warningsOf_14 rfl (lv_at hl 0 rfl) ?_
  refine q_get hx hb hts hown hA hW iX14 rO_0 rfl 19 (by decide) (hts (.fieldLink RX14 45 "HighRecipesModel" "now" "[I") (by decide +kernel)) (fun _ h9 => h9) (v := .ref (M + 42)) rfl dX14_warningsOf_15 ?_
  refine lv_bipush (v := 6) hx hb dX14_warningsOf_18 (by decide) ?_
  refine lv_iload_n hx hb dX14_warningsOf_20 rfl (lv_at hl 1 rfl) ?_
  refine lv_iadd hx hb dX14_warningsOf_21 ?_
  rw [show (6 : Int32) = nI 6 from rfl, nI_add]
  refine q_ald hx hb hA hW (rO_42 (g := r 42) rfl) (6 + kd) rfl (by omega) (by decide) (x := (r 42) (6 + kd)) rfl dX14_warningsOf_22 ?_
  refine lv_goto (tgt := 31) hx hb dX14_warningsOf_23 (by decide) ?_
  exact q_iret hx hb hr hlocks hW hS ⟨rfl, rfl, rfl⟩ (Nat.le_of_ble_eq_true rfl) (Nat.le_of_ble_eq_true rfl) dX14_warningsOf_31

set_option maxHeartbeats 4000000 in
set_option maxRecDepth 100000 in
theorem kX14_warningsOf_F (l : Launch) (E : q_E) (f : q_H) (n : Nat) (M : Nat) (r : q_R) (x : Int32)  (hm : RM E f M r) (hin : b_in x 1 5 = false) : Met l yX14_warningsOf wsX14_warningsOf ({ frames := 1, cells := 0, slots := 0, locals := 22 }) (q_P E [.ref M, .int x] f n) (q_Qi E (fun r0 f1 n1 => 0 = r0 ∧ rO E f M (rp r 100 (fun _ => 1)) = f1 ∧ n = n1)) 0 0 (q_ge E) := by
  refine Met.ofW (cc := cX14_warningsOf) (maxL := 2) (ret := (some .int)) (by decide) rfl ?_
  intro p e s m args below meth c s₁ B hml hv
  obtain ⟨rfl, hA, hW⟩ := hv
  have hx := B.exec
  have hb := B.bytes
  have hr := B.returns
  have hts := atoms_spec (ws := wsX14_warningsOf) B.pre
  have hown : s.vm.findClass RX14 = some m.cls := findClass_of_methodNamed B.named
  have hlocks := B.notSynchronized
  have hS : va_S (q_ge E) s.heap s.heap [] := va_S.rf
  have iX14 : ∀ w ∈ wsX140, w ∈ wsX14_warningsOf := by decide +kernel
  have hl := lv_entry ([.ref M, .int x]) (n := 2) (Nat.le_of_ble_eq_true rfl)
  rw [lg_entry_eq]
  generalize (lg_sl ([.ref M, .int x]) ++ List.replicate (2 - (lg_sl ([.ref M, .int x])).length) Slot.unset).toArray = ls at hl ⊢
  have hl : lv_has ls 2 [(0, .ref M), (1, .int x)] := hl
  have hmE := hm.eq
  rw [hm.eq] at hW
  refine lv_aload_n hx hb dX14_warningsOf_0 rfl (lv_at hl 0 rfl) ?_
  refine lv_iconst (v := 0) hx hb dX14_warningsOf_1 (by decide) ?_
  refine q_put hx hb hts hown hA hW hS iX14 tyX14 tyX14_ok nmX14 rO_0 rfl 0 (by decide) (hts (.fieldLink RX14 54 "HighRecipesModel" "thrown" "I") (by decide +kernel)) (fun _ h9 => h9) rfl rfl rfl (Nat.le_of_ble_eq_true rfl) dX14_warningsOf_2 (fun H locs hW hS => ?_)
  have hW := q_s0 100 (0) hW rfl (by decide)
  refine lv_iload_n hx hb dX14_warningsOf_5 rfl (lv_at hl 1 rfl) ?_
  refine lv_iconst (v := 1) hx hb dX14_warningsOf_6 (by decide) ?_
  refine lv_iconst (v := 5) hx hb dX14_warningsOf_7 (by decide) ?_
  refine q_ci (va_runS (As := [.int x, .int 1, .int 5]) (rest := []) ⟨hx, hb, hml, hown, hts⟩ (kX14_isIn l E (rO E f M (rp r 100 (fun _ => 0))) n x 1 5) (va_cwS 3 hts gX14_warningsOf_X14_isIn rfl rfl rfl (by decide +kernel) ⟨(Nat.le_of_ble_eq_true rfl), (Nat.le_of_ble_eq_true rfl)⟩) (q_pS hA hW hS) rfl rfl hl.1 rfl (lv_room (Nat.le_of_ble_eq_true rfl)) dX14_warningsOf_8 ⟨Nat.le_of_ble_eq_true rfl, Nat.le_of_ble_eq_true rfl⟩) hS (fun r_8 f_8 n_8 H locs hp hW hS => ?_)
  obtain ⟨rfl, rfl, rfl⟩ := hp
  have hW : q_W E (rO E f M (rp r 100 (fun _ => 0))) n H := hW
  refine lv_if_eq (tgt := 26) hx hb dX14_warningsOf_11 (by decide) (fun c_11 => ?_) (fun c_11 => False.elim ((fun h9 => h9 (b01_F (hin))) c_11))
  refine lv_aload_n hx hb dX14_warningsOf_26 rfl (lv_at hl 0 rfl) ?_
  refine lv_iconst (v := 1) hx hb dX14_warningsOf_27 (by decide) ?_
  refine q_ci (va_runV (As := [.int 1]) (rest := []) ⟨hx, hb, hml, hown, hts⟩ (kX14_no l E (rO E f M (rp r 100 (fun _ => 0))) n M (rp r 100 (fun _ => 0)) 1 rO_K) (cwV 1 hts gX14_warningsOf_X14_no rfl rfl rfl (by decide +kernel) ⟨(Nat.le_of_ble_eq_true rfl), (Nat.le_of_ble_eq_true rfl)⟩) (q_pV hA hW hS (ci := 12) rfl rO_0) rfl rfl hl.1 rfl (lv_room (Nat.le_of_ble_eq_true rfl)) dX14_warningsOf_28 ⟨Nat.le_of_ble_eq_true rfl, Nat.le_of_ble_eq_true rfl⟩) hS (fun r_28 f_28 n_28 H locs hp hW hS => ?_)
  obtain ⟨rfl, rfl, rfl⟩ := hp
  have hW : q_W E (rO E f M (rp (rp r 100 (fun _ => 0)) 100 (fun _ => 1))) n H := by rw [rO_rO] at hW; exact hW
  rw [rp_d0] at hW
  have hW : q_W E (rO E f M (rp r 100 (fun _ => 1))) n H := hW
  exact q_iret hx hb hr hlocks hW hS ⟨rfl, rfl, rfl⟩ (Nat.le_of_ble_eq_true rfl) (Nat.le_of_ble_eq_true rfl) dX14_warningsOf_31

set_option maxHeartbeats 4000000 in
set_option maxRecDepth 100000 in
theorem kX14_latest (l : Launch) (E : q_E) (f : q_H) (n : Nat) (M : Nat) (r : q_R) (b t w : Nat)  (hm : RM E f M r) (ht : t < 2 ^ 30) (hb1 : b < min 20 t) (hw : w + 20 ≤ 84) : Met l yX14_latest wsX14_latest ({ frames := 1, cells := 0, slots := 0, locals := 22 }) (q_P E [.ref M, .int (nI b), .int (nI t), .int (nI w)] f n) (q_Qi E (fun r0 f1 n1 => (r 42) (w + (t - 1 - b) % 20) = r0 ∧ rO E f M (rp r 100 (fun _ => 0)) = f1 ∧ n = n1)) 0 0 (q_ge E) := by
  refine Met.ofW (cc := cX14_latest) (maxL := 4) (ret := (some .int)) (by decide) rfl ?_
  intro p e s m args below meth c s₁ B hml hv
  obtain ⟨rfl, hA, hW⟩ := hv
  have hx := B.exec
  have hb := B.bytes
  have hr := B.returns
  have hts := atoms_spec (ws := wsX14_latest) B.pre
  have hown : s.vm.findClass RX14 = some m.cls := findClass_of_methodNamed B.named
  have hlocks := B.notSynchronized
  have hS : va_S (q_ge E) s.heap s.heap [] := va_S.rf
  have iX14 : ∀ w ∈ wsX140, w ∈ wsX14_latest := by decide +kernel
  have hl := lv_entry ([.ref M, .int (nI b), .int (nI t), .int (nI w)]) (n := 4) (Nat.le_of_ble_eq_true rfl)
  rw [lg_entry_eq]
  generalize (lg_sl ([.ref M, .int (nI b), .int (nI t), .int (nI w)]) ++ List.replicate (4 - (lg_sl ([.ref M, .int (nI b), .int (nI t), .int (nI w)])).length) Slot.unset).toArray = ls at hl ⊢
  have hl : lv_has ls 4 [(0, .ref M), (1, .int (nI b)), (2, .int (nI t)), (3, .int (nI w))] := hl
  have hmE := hm.eq
  rw [hm.eq] at hW
  refine lv_aload_n hx hb dX14_latest_0 rfl (lv_at hl 0 rfl) ?_
  refine lv_iconst (v := 0) hx hb dX14_latest_1 (by decide) ?_
  refine q_put hx hb hts hown hA hW hS iX14 tyX14 tyX14_ok nmX14 rO_0 rfl 0 (by decide) (hts (.fieldLink RX14 54 "HighRecipesModel" "thrown" "I") (by decide +kernel)) (fun _ h9 => h9) rfl rfl rfl (Nat.le_of_ble_eq_true rfl) dX14_latest_2 (fun H locs hW hS => ?_)
  have hW := q_s0 100 (0) hW rfl (by decide)
  refine lv_iload_n hx hb dX14_latest_5 rfl (lv_at hl 1 rfl) ?_
  refine lv_iconst (v := 0) hx hb dX14_latest_6 (by decide) ?_
  refine lv_bipush (v := 20) hx hb dX14_latest_7 (by decide) ?_
  refine lv_iload_n hx hb dX14_latest_9 rfl (lv_at hl 2 rfl) ?_
  refine va_mmin hx hb (hml.trans hl.1.symm) hown (hts (.methodLink RX14 57 Lib.Math.min.name) (by decide +kernel)) (hts (.static Lib.Math.min.name) (by decide +kernel)) (hts (.initialized "java/lang/Math") (by decide +kernel)) (hts (.code Lib.Math.min.name Lib.Math.min.code 2 (some .int)) (by decide +kernel)) (Nat.le_of_ble_eq_true rfl) (Nat.le_of_ble_eq_true rfl) (Nat.le_of_ble_eq_true rfl) (Nat.le_of_ble_eq_true rfl) dX14_latest_10 ?_
  rw [show (if nI t < 20 then nI t else 20) = nI (min 20 t) from q_min_n (a := 20) (b := t) (by decide) (by omega)]
  refine lv_iconst (v := 1) hx hb dX14_latest_13 (by decide) ?_
  refine lv_isub hx hb dX14_latest_14 ?_
  refine q_ci (va_runS (As := [.int (nI b), .int 0, .int ((nI (min 20 t)) - 1)]) (rest := []) ⟨hx, hb, hml, hown, hts⟩ (kX14_isIn l E (rO E f M (rp r 100 (fun _ => 0))) n (nI b) 0 ((nI (min 20 t)) - 1)) (va_cwS 3 hts gX14_latest_X14_isIn rfl rfl rfl (by decide +kernel) ⟨(Nat.le_of_ble_eq_true rfl), (Nat.le_of_ble_eq_true rfl)⟩) (q_pS hA hW hS) rfl rfl hl.1 rfl (lv_room (Nat.le_of_ble_eq_true rfl)) dX14_latest_15 ⟨Nat.le_of_ble_eq_true rfl, Nat.le_of_ble_eq_true rfl⟩) hS (fun r_15 f_15 n_15 H locs hp hW hS => ?_)
  obtain ⟨rfl, rfl, rfl⟩ := hp
  have hW : q_W E (rO E f M (rp r 100 (fun _ => 0))) n H := hW
  refine lv_if_eq (tgt := 39) hx hb dX14_latest_18 (by decide) (fun c_18 => False.elim ((fun h9 => absurd h9 (b01_T (b_in_ix hb1 (by omega)))) c_18)) (fun c_18 => ?_)
  refine lv_aload_n hx hb dX14_latest_21 rfl (lv_at hl 0 rfl) ?_
  refine q_get hx hb hts hown hA hW iX14 rO_0 rfl 19 (by decide) (hts (.fieldLink RX14 45 "HighRecipesModel" "now" "[I") (by decide +kernel)) (fun _ h9 => h9) (v := .ref (M + 42)) rfl dX14_latest_22 ?_
  refine lv_iload_n hx hb dX14_latest_25 rfl (lv_at hl 3 rfl) ?_
  refine lv_iload_n hx hb dX14_latest_26 rfl (lv_at hl 2 rfl) ?_
  refine lv_iconst (v := 1) hx hb dX14_latest_27 (by decide) ?_
  refine lv_isub hx hb dX14_latest_28 ?_
  rw [show nI t - 1 = nI (t - 1) from pk_sub (a := t) (b := 1) (by omega)]
  refine lv_iload_n hx hb dX14_latest_29 rfl (lv_at hl 1 rfl) ?_
  refine lv_isub hx hb dX14_latest_30 ?_
  rw [pk_sub (a := t - 1) (b := b) (by omega)]
  refine lv_bipush (v := 20) hx hb dX14_latest_31 (by decide) ?_
  refine lv_irem hx hb dX14_latest_33 (by decide) ?_
  rw [q_rem20 (T := t - 1 - b) (by omega)]
  refine lv_iadd hx hb dX14_latest_34 ?_
  rw [nI_add]
  refine q_ald hx hb hA hW (rO_42 (g := r 42) rfl) (w + (t - 1 - b) % 20) rfl (by omega) (by decide) (x := (r 42) (w + (t - 1 - b) % 20)) rfl dX14_latest_35 ?_
  refine lv_goto (tgt := 44) hx hb dX14_latest_36 (by decide) ?_
  exact q_iret hx hb hr hlocks hW hS ⟨rfl, rfl, rfl⟩ (Nat.le_of_ble_eq_true rfl) (Nat.le_of_ble_eq_true rfl) dX14_latest_44

set_option maxHeartbeats 4000000 in
set_option maxRecDepth 100000 in
theorem kX14_latest_F (l : Launch) (E : q_E) (f : q_H) (n : Nat) (M : Nat) (r : q_R) (t : Nat) (x w : Int32)  (hm : RM E f M r) (ht : t < 2 ^ 30) (hno : x < 0 ∨ nI (min 20 t) ≤ x) : Met l yX14_latest wsX14_latest ({ frames := 1, cells := 0, slots := 0, locals := 22 }) (q_P E [.ref M, .int x, .int (nI t), .int w] f n) (q_Qi E (fun r0 f1 n1 => 0 = r0 ∧ rO E f M (rp r 100 (fun _ => 1)) = f1 ∧ n = n1)) 0 0 (q_ge E) := by
  refine Met.ofW (cc := cX14_latest) (maxL := 4) (ret := (some .int)) (by decide) rfl ?_
  intro p e s m args below meth c s₁ B hml hv
  obtain ⟨rfl, hA, hW⟩ := hv
  have hx := B.exec
  have hb := B.bytes
  have hr := B.returns
  have hts := atoms_spec (ws := wsX14_latest) B.pre
  have hown : s.vm.findClass RX14 = some m.cls := findClass_of_methodNamed B.named
  have hlocks := B.notSynchronized
  have hS : va_S (q_ge E) s.heap s.heap [] := va_S.rf
  have iX14 : ∀ w ∈ wsX140, w ∈ wsX14_latest := by decide +kernel
  have hl := lv_entry ([.ref M, .int x, .int (nI t), .int w]) (n := 4) (Nat.le_of_ble_eq_true rfl)
  rw [lg_entry_eq]
  generalize (lg_sl ([.ref M, .int x, .int (nI t), .int w]) ++ List.replicate (4 - (lg_sl ([.ref M, .int x, .int (nI t), .int w])).length) Slot.unset).toArray = ls at hl ⊢
  have hl : lv_has ls 4 [(0, .ref M), (1, .int x), (2, .int (nI t)), (3, .int w)] := hl
  have hmE := hm.eq
  rw [hm.eq] at hW
  refine lv_aload_n hx hb dX14_latest_0 rfl (lv_at hl 0 rfl) ?_
  refine lv_iconst (v := 0) hx hb dX14_latest_1 (by decide) ?_
  refine q_put hx hb hts hown hA hW hS iX14 tyX14 tyX14_ok nmX14 rO_0 rfl 0 (by decide) (hts (.fieldLink RX14 54 "HighRecipesModel" "thrown" "I") (by decide +kernel)) (fun _ h9 => h9) rfl rfl rfl (Nat.le_of_ble_eq_true rfl) dX14_latest_2 (fun H locs hW hS => ?_)
  have hW := q_s0 100 (0) hW rfl (by decide)
  refine lv_iload_n hx hb dX14_latest_5 rfl (lv_at hl 1 rfl) ?_
  refine lv_iconst (v := 0) hx hb dX14_latest_6 (by decide) ?_
  refine lv_bipush (v := 20) hx hb dX14_latest_7 (by decide) ?_
  refine lv_iload_n hx hb dX14_latest_9 rfl (lv_at hl 2 rfl) ?_
  refine va_mmin hx hb (hml.trans hl.1.symm) hown (hts (.methodLink RX14 57 Lib.Math.min.name) (by decide +kernel)) (hts (.static Lib.Math.min.name) (by decide +kernel)) (hts (.initialized "java/lang/Math") (by decide +kernel)) (hts (.code Lib.Math.min.name Lib.Math.min.code 2 (some .int)) (by decide +kernel)) (Nat.le_of_ble_eq_true rfl) (Nat.le_of_ble_eq_true rfl) (Nat.le_of_ble_eq_true rfl) (Nat.le_of_ble_eq_true rfl) dX14_latest_10 ?_
  rw [show (if nI t < 20 then nI t else 20) = nI (min 20 t) from q_min_n (a := 20) (b := t) (by decide) (by omega)]
  refine lv_iconst (v := 1) hx hb dX14_latest_13 (by decide) ?_
  refine lv_isub hx hb dX14_latest_14 ?_
  refine q_ci (va_runS (As := [.int x, .int 0, .int ((nI (min 20 t)) - 1)]) (rest := []) ⟨hx, hb, hml, hown, hts⟩ (kX14_isIn l E (rO E f M (rp r 100 (fun _ => 0))) n x 0 ((nI (min 20 t)) - 1)) (va_cwS 3 hts gX14_latest_X14_isIn rfl rfl rfl (by decide +kernel) ⟨(Nat.le_of_ble_eq_true rfl), (Nat.le_of_ble_eq_true rfl)⟩) (q_pS hA hW hS) rfl rfl hl.1 rfl (lv_room (Nat.le_of_ble_eq_true rfl)) dX14_latest_15 ⟨Nat.le_of_ble_eq_true rfl, Nat.le_of_ble_eq_true rfl⟩) hS (fun r_15 f_15 n_15 H locs hp hW hS => ?_)
  obtain ⟨rfl, rfl, rfl⟩ := hp
  have hW : q_W E (rO E f M (rp r 100 (fun _ => 0))) n H := hW
  refine lv_if_eq (tgt := 39) hx hb dX14_latest_18 (by decide) (fun c_18 => ?_) (fun c_18 => False.elim ((fun h9 => h9 (b01_F (b_in_no hno (by omega)))) c_18))
  refine lv_aload_n hx hb dX14_latest_39 rfl (lv_at hl 0 rfl) ?_
  refine lv_iconst (v := 1) hx hb dX14_latest_40 (by decide) ?_
  refine q_ci (va_runV (As := [.int 1]) (rest := []) ⟨hx, hb, hml, hown, hts⟩ (kX14_no l E (rO E f M (rp r 100 (fun _ => 0))) n M (rp r 100 (fun _ => 0)) 1 rO_K) (cwV 1 hts gX14_latest_X14_no rfl rfl rfl (by decide +kernel) ⟨(Nat.le_of_ble_eq_true rfl), (Nat.le_of_ble_eq_true rfl)⟩) (q_pV hA hW hS (ci := 12) rfl rO_0) rfl rfl hl.1 rfl (lv_room (Nat.le_of_ble_eq_true rfl)) dX14_latest_41 ⟨Nat.le_of_ble_eq_true rfl, Nat.le_of_ble_eq_true rfl⟩) hS (fun r_41 f_41 n_41 H locs hp hW hS => ?_)
  obtain ⟨rfl, rfl, rfl⟩ := hp
  have hW : q_W E (rO E f M (rp (rp r 100 (fun _ => 0)) 100 (fun _ => 1))) n H := by rw [rO_rO] at hW; exact hW
  rw [rp_d0] at hW
  have hW : q_W E (rO E f M (rp r 100 (fun _ => 1))) n H := hW
  exact q_iret hx hb hr hlocks hW hS ⟨rfl, rfl, rfl⟩ (Nat.le_of_ble_eq_true rfl) (Nat.le_of_ble_eq_true rfl) dX14_latest_44

set_option maxHeartbeats 4000000 in
set_option maxRecDepth 100000 in
theorem kX14_warningAt (l : Launch) (E : q_E) (f : q_H) (n : Nat) (M : Nat) (r : q_R) (b t : Nat)  (hm : RM E f M r) (h4 : (r 42) 4 = nI t) (ht : t < 2 ^ 30) (hb1 : b < min 20 t) : Met l yX14_warningAt wsX14_warningAt ({ frames := 2, cells := 0, slots := 0, locals := 45 }) (q_P E [.ref M, .int (nI b)] f n) (q_Qi E (fun r0 f1 n1 => (r 42) (12 + (t - 1 - b) % 20) = r0 ∧ rO E f M (rp r 100 (fun _ => 0)) = f1 ∧ n = n1)) 0 0 (q_ge E) := by
  refine Met.ofW (cc := cX14_warningAt) (maxL := 2) (ret := (some .int)) (by decide) rfl ?_
  intro p e s m args below meth c s₁ B hml hv
  obtain ⟨rfl, hA, hW⟩ := hv
  have hx := B.exec
  have hb := B.bytes
  have hr := B.returns
  have hts := atoms_spec (ws := wsX14_warningAt) B.pre
  have hown : s.vm.findClass RX14 = some m.cls := findClass_of_methodNamed B.named
  have hlocks := B.notSynchronized
  have hS : va_S (q_ge E) s.heap s.heap [] := va_S.rf
  have iX14 : ∀ w ∈ wsX140, w ∈ wsX14_warningAt := by decide +kernel
  have hl := lv_entry ([.ref M, .int (nI b)]) (n := 2) (Nat.le_of_ble_eq_true rfl)
  rw [lg_entry_eq]
  generalize (lg_sl ([.ref M, .int (nI b)]) ++ List.replicate (2 - (lg_sl ([.ref M, .int (nI b)])).length) Slot.unset).toArray = ls at hl ⊢
  have hl : lv_has ls 2 [(0, .ref M), (1, .int (nI b))] := hl
  have hmE := hm.eq
  rw [hm.eq] at hW
  refine lv_aload_n hx hb dX14_warningAt_0 rfl (lv_at hl 0 rfl) ?_
  refine lv_iload_n hx hb dX14_warningAt_1 rfl (lv_at hl 1 rfl) ?_
  refine lv_aload_n hx hb dX14_warningAt_2 rfl (lv_at hl 0 rfl) ?_
  refine q_get hx hb hts hown hA hW iX14 rO_0 rfl 19 (by decide) (hts (.fieldLink RX14 45 "HighRecipesModel" "now" "[I") (by decide +kernel)) (fun _ h9 => h9) (v := .ref (M + 42)) rfl dX14_warningAt_3 ?_
  refine lv_iconst (v := 4) hx hb dX14_warningAt_6 (by decide) ?_
  refine q_ald hx hb hA hW (rO_42 (g := r 42) rfl) 4 rfl (by decide) (by decide) (x := nI t) h4 dX14_warningAt_7 ?_
  refine lv_bipush (v := 12) hx hb dX14_warningAt_8 (by decide) ?_
  refine q_ci (va_runV (As := [.int (nI b), .int (nI t), .int 12]) (rest := []) ⟨hx, hb, hml, hown, hts⟩ (kX14_latest l E (rO E f M r) n M r b t 12 rO_K (by assumption) (by assumption) (by decide)) (cwV 3 hts gX14_warningAt_X14_latest rfl rfl rfl (by decide +kernel) ⟨(Nat.le_of_ble_eq_true rfl), (Nat.le_of_ble_eq_true rfl)⟩) (q_pV hA hW hS (ci := 12) rfl rO_0) rfl rfl hl.1 rfl (lv_room (Nat.le_of_ble_eq_true rfl)) dX14_warningAt_10 ⟨Nat.le_of_ble_eq_true rfl, Nat.le_of_ble_eq_true rfl⟩) hS (fun r_10 f_10 n_10 H locs hp hW hS => ?_)
  obtain ⟨rfl, rfl, rfl⟩ := hp
  have hW : q_W E (rO E f M (rp r 100 (fun _ => 0))) n H := by rw [rO_rO] at hW; exact hW
  have hW : q_W E (rO E f M (rp r 100 (fun _ => 0))) n H := hW
  exact q_iret hx hb hr hlocks hW hS ⟨rfl, rfl, rfl⟩ (Nat.le_of_ble_eq_true rfl) (Nat.le_of_ble_eq_true rfl) dX14_warningAt_13

set_option maxHeartbeats 4000000 in
set_option maxRecDepth 100000 in
theorem kX14_warningAt_F (l : Launch) (E : q_E) (f : q_H) (n : Nat) (M : Nat) (r : q_R) (t : Nat) (x : Int32)  (hm : RM E f M r) (h4 : (r 42) 4 = nI t) (ht : t < 2 ^ 30) (hno : x < 0 ∨ nI (min 20 t) ≤ x) : Met l yX14_warningAt wsX14_warningAt ({ frames := 2, cells := 0, slots := 0, locals := 45 }) (q_P E [.ref M, .int x] f n) (q_Qi E (fun r0 f1 n1 => 0 = r0 ∧ rO E f M (rp r 100 (fun _ => 1)) = f1 ∧ n = n1)) 0 0 (q_ge E) := by
  refine Met.ofW (cc := cX14_warningAt) (maxL := 2) (ret := (some .int)) (by decide) rfl ?_
  intro p e s m args below meth c s₁ B hml hv
  obtain ⟨rfl, hA, hW⟩ := hv
  have hx := B.exec
  have hb := B.bytes
  have hr := B.returns
  have hts := atoms_spec (ws := wsX14_warningAt) B.pre
  have hown : s.vm.findClass RX14 = some m.cls := findClass_of_methodNamed B.named
  have hlocks := B.notSynchronized
  have hS : va_S (q_ge E) s.heap s.heap [] := va_S.rf
  have iX14 : ∀ w ∈ wsX140, w ∈ wsX14_warningAt := by decide +kernel
  have hl := lv_entry ([.ref M, .int x]) (n := 2) (Nat.le_of_ble_eq_true rfl)
  rw [lg_entry_eq]
  generalize (lg_sl ([.ref M, .int x]) ++ List.replicate (2 - (lg_sl ([.ref M, .int x])).length) Slot.unset).toArray = ls at hl ⊢
  have hl : lv_has ls 2 [(0, .ref M), (1, .int x)] := hl
  have hmE := hm.eq
  rw [hm.eq] at hW
  refine lv_aload_n hx hb dX14_warningAt_0 rfl (lv_at hl 0 rfl) ?_
  refine lv_iload_n hx hb dX14_warningAt_1 rfl (lv_at hl 1 rfl) ?_
  refine lv_aload_n hx hb dX14_warningAt_2 rfl (lv_at hl 0 rfl) ?_
  refine q_get hx hb hts hown hA hW iX14 rO_0 rfl 19 (by decide) (hts (.fieldLink RX14 45 "HighRecipesModel" "now" "[I") (by decide +kernel)) (fun _ h9 => h9) (v := .ref (M + 42)) rfl dX14_warningAt_3 ?_
  refine lv_iconst (v := 4) hx hb dX14_warningAt_6 (by decide) ?_
  refine q_ald hx hb hA hW (rO_42 (g := r 42) rfl) 4 rfl (by decide) (by decide) (x := nI t) h4 dX14_warningAt_7 ?_
  refine lv_bipush (v := 12) hx hb dX14_warningAt_8 (by decide) ?_
  refine q_ci (va_runV (As := [.int x, .int (nI t), .int 12]) (rest := []) ⟨hx, hb, hml, hown, hts⟩ (kX14_latest_F l E (rO E f M r) n M r t x 12 rO_K (by assumption) (by assumption)) (cwV 3 hts gX14_warningAt_X14_latest rfl rfl rfl (by decide +kernel) ⟨(Nat.le_of_ble_eq_true rfl), (Nat.le_of_ble_eq_true rfl)⟩) (q_pV hA hW hS (ci := 12) rfl rO_0) rfl rfl hl.1 rfl (lv_room (Nat.le_of_ble_eq_true rfl)) dX14_warningAt_10 ⟨Nat.le_of_ble_eq_true rfl, Nat.le_of_ble_eq_true rfl⟩) hS (fun r_10 f_10 n_10 H locs hp hW hS => ?_)
  obtain ⟨rfl, rfl, rfl⟩ := hp
  have hW : q_W E (rO E f M (rp r 100 (fun _ => 1))) n H := by rw [rO_rO] at hW; exact hW
  have hW : q_W E (rO E f M (rp r 100 (fun _ => 1))) n H := hW
  exact q_iret hx hb hr hlocks hW hS ⟨rfl, rfl, rfl⟩ (Nat.le_of_ble_eq_true rfl) (Nat.le_of_ble_eq_true rfl) dX14_warningAt_13

set_option maxHeartbeats 4000000 in
set_option maxRecDepth 100000 in
theorem kX14_noteAt (l : Launch) (E : q_E) (f : q_H) (n : Nat) (M : Nat) (r : q_R) (b t : Nat)  (hm : RM E f M r) (h4 : (r 42) 5 = nI t) (ht : t < 2 ^ 30) (hb1 : b < min 20 t) : Met l yX14_noteAt wsX14_noteAt ({ frames := 2, cells := 0, slots := 0, locals := 45 }) (q_P E [.ref M, .int (nI b)] f n) (q_Qi E (fun r0 f1 n1 => (r 42) (32 + (t - 1 - b) % 20) = r0 ∧ rO E f M (rp r 100 (fun _ => 0)) = f1 ∧ n = n1)) 0 0 (q_ge E) := by
  refine Met.ofW (cc := cX14_noteAt) (maxL := 2) (ret := (some .int)) (by decide) rfl ?_
  intro p e s m args below meth c s₁ B hml hv
  obtain ⟨rfl, hA, hW⟩ := hv
  have hx := B.exec
  have hb := B.bytes
  have hr := B.returns
  have hts := atoms_spec (ws := wsX14_noteAt) B.pre
  have hown : s.vm.findClass RX14 = some m.cls := findClass_of_methodNamed B.named
  have hlocks := B.notSynchronized
  have hS : va_S (q_ge E) s.heap s.heap [] := va_S.rf
  have iX14 : ∀ w ∈ wsX140, w ∈ wsX14_noteAt := by decide +kernel
  have hl := lv_entry ([.ref M, .int (nI b)]) (n := 2) (Nat.le_of_ble_eq_true rfl)
  rw [lg_entry_eq]
  generalize (lg_sl ([.ref M, .int (nI b)]) ++ List.replicate (2 - (lg_sl ([.ref M, .int (nI b)])).length) Slot.unset).toArray = ls at hl ⊢
  have hl : lv_has ls 2 [(0, .ref M), (1, .int (nI b))] := hl
  have hmE := hm.eq
  rw [hm.eq] at hW
  refine lv_aload_n hx hb dX14_noteAt_0 rfl (lv_at hl 0 rfl) ?_
  refine lv_iload_n hx hb dX14_noteAt_1 rfl (lv_at hl 1 rfl) ?_
  refine lv_aload_n hx hb dX14_noteAt_2 rfl (lv_at hl 0 rfl) ?_
  refine q_get hx hb hts hown hA hW iX14 rO_0 rfl 19 (by decide) (hts (.fieldLink RX14 45 "HighRecipesModel" "now" "[I") (by decide +kernel)) (fun _ h9 => h9) (v := .ref (M + 42)) rfl dX14_noteAt_3 ?_
  refine lv_iconst (v := 5) hx hb dX14_noteAt_6 (by decide) ?_
  refine q_ald hx hb hA hW (rO_42 (g := r 42) rfl) 5 rfl (by decide) (by decide) (x := nI t) h4 dX14_noteAt_7 ?_
  refine lv_bipush (v := 32) hx hb dX14_noteAt_8 (by decide) ?_
  refine q_ci (va_runV (As := [.int (nI b), .int (nI t), .int 32]) (rest := []) ⟨hx, hb, hml, hown, hts⟩ (kX14_latest l E (rO E f M r) n M r b t 32 rO_K (by assumption) (by assumption) (by decide)) (cwV 3 hts gX14_noteAt_X14_latest rfl rfl rfl (by decide +kernel) ⟨(Nat.le_of_ble_eq_true rfl), (Nat.le_of_ble_eq_true rfl)⟩) (q_pV hA hW hS (ci := 12) rfl rO_0) rfl rfl hl.1 rfl (lv_room (Nat.le_of_ble_eq_true rfl)) dX14_noteAt_10 ⟨Nat.le_of_ble_eq_true rfl, Nat.le_of_ble_eq_true rfl⟩) hS (fun r_10 f_10 n_10 H locs hp hW hS => ?_)
  obtain ⟨rfl, rfl, rfl⟩ := hp
  have hW : q_W E (rO E f M (rp r 100 (fun _ => 0))) n H := by rw [rO_rO] at hW; exact hW
  have hW : q_W E (rO E f M (rp r 100 (fun _ => 0))) n H := hW
  exact q_iret hx hb hr hlocks hW hS ⟨rfl, rfl, rfl⟩ (Nat.le_of_ble_eq_true rfl) (Nat.le_of_ble_eq_true rfl) dX14_noteAt_13

set_option maxHeartbeats 4000000 in
set_option maxRecDepth 100000 in
theorem kX14_noteAt_F (l : Launch) (E : q_E) (f : q_H) (n : Nat) (M : Nat) (r : q_R) (t : Nat) (x : Int32)  (hm : RM E f M r) (h4 : (r 42) 5 = nI t) (ht : t < 2 ^ 30) (hno : x < 0 ∨ nI (min 20 t) ≤ x) : Met l yX14_noteAt wsX14_noteAt ({ frames := 2, cells := 0, slots := 0, locals := 45 }) (q_P E [.ref M, .int x] f n) (q_Qi E (fun r0 f1 n1 => 0 = r0 ∧ rO E f M (rp r 100 (fun _ => 1)) = f1 ∧ n = n1)) 0 0 (q_ge E) := by
  refine Met.ofW (cc := cX14_noteAt) (maxL := 2) (ret := (some .int)) (by decide) rfl ?_
  intro p e s m args below meth c s₁ B hml hv
  obtain ⟨rfl, hA, hW⟩ := hv
  have hx := B.exec
  have hb := B.bytes
  have hr := B.returns
  have hts := atoms_spec (ws := wsX14_noteAt) B.pre
  have hown : s.vm.findClass RX14 = some m.cls := findClass_of_methodNamed B.named
  have hlocks := B.notSynchronized
  have hS : va_S (q_ge E) s.heap s.heap [] := va_S.rf
  have iX14 : ∀ w ∈ wsX140, w ∈ wsX14_noteAt := by decide +kernel
  have hl := lv_entry ([.ref M, .int x]) (n := 2) (Nat.le_of_ble_eq_true rfl)
  rw [lg_entry_eq]
  generalize (lg_sl ([.ref M, .int x]) ++ List.replicate (2 - (lg_sl ([.ref M, .int x])).length) Slot.unset).toArray = ls at hl ⊢
  have hl : lv_has ls 2 [(0, .ref M), (1, .int x)] := hl
  have hmE := hm.eq
  rw [hm.eq] at hW
  refine lv_aload_n hx hb dX14_noteAt_0 rfl (lv_at hl 0 rfl) ?_
  refine lv_iload_n hx hb dX14_noteAt_1 rfl (lv_at hl 1 rfl) ?_
  refine lv_aload_n hx hb dX14_noteAt_2 rfl (lv_at hl 0 rfl) ?_
  refine q_get hx hb hts hown hA hW iX14 rO_0 rfl 19 (by decide) (hts (.fieldLink RX14 45 "HighRecipesModel" "now" "[I") (by decide +kernel)) (fun _ h9 => h9) (v := .ref (M + 42)) rfl dX14_noteAt_3 ?_
  refine lv_iconst (v := 5) hx hb dX14_noteAt_6 (by decide) ?_
  refine q_ald hx hb hA hW (rO_42 (g := r 42) rfl) 5 rfl (by decide) (by decide) (x := nI t) h4 dX14_noteAt_7 ?_
  refine lv_bipush (v := 32) hx hb dX14_noteAt_8 (by decide) ?_
  refine q_ci (va_runV (As := [.int x, .int (nI t), .int 32]) (rest := []) ⟨hx, hb, hml, hown, hts⟩ (kX14_latest_F l E (rO E f M r) n M r t x 32 rO_K (by assumption) (by assumption)) (cwV 3 hts gX14_noteAt_X14_latest rfl rfl rfl (by decide +kernel) ⟨(Nat.le_of_ble_eq_true rfl), (Nat.le_of_ble_eq_true rfl)⟩) (q_pV hA hW hS (ci := 12) rfl rO_0) rfl rfl hl.1 rfl (lv_room (Nat.le_of_ble_eq_true rfl)) dX14_noteAt_10 ⟨Nat.le_of_ble_eq_true rfl, Nat.le_of_ble_eq_true rfl⟩) hS (fun r_10 f_10 n_10 H locs hp hW hS => ?_)
  obtain ⟨rfl, rfl, rfl⟩ := hp
  have hW : q_W E (rO E f M (rp r 100 (fun _ => 1))) n H := by rw [rO_rO] at hW; exact hW
  have hW : q_W E (rO E f M (rp r 100 (fun _ => 1))) n H := hW
  exact q_iret hx hb hr hlocks hW hS ⟨rfl, rfl, rfl⟩ (Nat.le_of_ble_eq_true rfl) (Nat.le_of_ble_eq_true rfl) dX14_noteAt_13

set_option maxHeartbeats 4000000 in
set_option maxRecDepth 100000 in
theorem kX14_setAltitude (l : Launch) (E : q_E) (f : q_H) (n : Nat) (M : Nat) (r : q_R) (pn : Nat) (x : Int32)  (hm : RM E f M r) (hin : b_in x 0 60 = true) (hpn9 : (r 120 0) = nI pn) (hpn : pn ≤ 8) : Met l yX14_setAltitude wsX14_setAltitude ({ frames := 3, cells := 0, slots := 0, locals := 62 }) (q_P E [.ref M, .int x] f n) (q_Qi E (fun r0 f1 n1 => (r 42) 0 = r0 ∧ rO E f M (rp (rp r 100 (fun _ => 0)) 42 (z_move (r 42) x pn)) = f1 ∧ n = n1)) 0 0 (q_ge E) := by
  refine Met.ofW (cc := cX14_setAltitude) (maxL := 3) (ret := (some .int)) (by decide) rfl ?_
  intro p e s m args below meth c s₁ B hml hv
  obtain ⟨rfl, hA, hW⟩ := hv
  have hx := B.exec
  have hb := B.bytes
  have hr := B.returns
  have hts := atoms_spec (ws := wsX14_setAltitude) B.pre
  have hown : s.vm.findClass RX14 = some m.cls := findClass_of_methodNamed B.named
  have hlocks := B.notSynchronized
  have hS : va_S (q_ge E) s.heap s.heap [] := va_S.rf
  have iX14 : ∀ w ∈ wsX140, w ∈ wsX14_setAltitude := by decide +kernel
  have hl := lv_entry ([.ref M, .int x]) (n := 3) (Nat.le_of_ble_eq_true rfl)
  rw [lg_entry_eq]
  generalize (lg_sl ([.ref M, .int x]) ++ List.replicate (3 - (lg_sl ([.ref M, .int x])).length) Slot.unset).toArray = ls at hl ⊢
  have hl : lv_has ls 3 [(0, .ref M), (1, .int x)] := hl
  have hmE := hm.eq
  rw [hm.eq] at hW
  refine lv_aload_n hx hb dX14_setAltitude_0 rfl (lv_at hl 0 rfl) ?_
  refine lv_iconst (v := 0) hx hb dX14_setAltitude_1 (by decide) ?_
  refine q_put hx hb hts hown hA hW hS iX14 tyX14 tyX14_ok nmX14 rO_0 rfl 0 (by decide) (hts (.fieldLink RX14 54 "HighRecipesModel" "thrown" "I") (by decide +kernel)) (fun _ h9 => h9) rfl rfl rfl (Nat.le_of_ble_eq_true rfl) dX14_setAltitude_2 (fun H locs hW hS => ?_)
  have hW := q_s0 100 (0) hW rfl (by decide)
  refine lv_iload_n hx hb dX14_setAltitude_5 rfl (lv_at hl 1 rfl) ?_
  refine q_ci (va_runS (As := [.int x]) (rest := []) ⟨hx, hb, hml, hown, hts⟩ (kX14_isAltitude l E (rO E f M (rp r 100 (fun _ => 0))) n x) (va_cwS 1 hts gX14_setAltitude_X14_isAltitude rfl rfl rfl (by decide +kernel) ⟨(Nat.le_of_ble_eq_true rfl), (Nat.le_of_ble_eq_true rfl)⟩) (q_pS hA hW hS) rfl rfl hl.1 rfl (lv_room (Nat.le_of_ble_eq_true rfl)) dX14_setAltitude_6 ⟨Nat.le_of_ble_eq_true rfl, Nat.le_of_ble_eq_true rfl⟩) hS (fun r_6 f_6 n_6 H locs hp hW hS => ?_)
  obtain ⟨rfl, rfl, rfl⟩ := hp
  have hW : q_W E (rO E f M (rp r 100 (fun _ => 0))) n H := hW
  refine lv_if_ne (tgt := 18) hx hb dX14_setAltitude_9 (by decide) (fun c_9 => ?_) (fun c_9 => False.elim ((fun h9 => absurd h9 (b01_T (hin))) c_9))
  refine lv_aload_n hx hb dX14_setAltitude_18 rfl (lv_at hl 0 rfl) ?_
  refine q_get hx hb hts hown hA hW iX14 rO_0 rfl 19 (by decide) (hts (.fieldLink RX14 45 "HighRecipesModel" "now" "[I") (by decide +kernel)) (fun _ h9 => h9) (v := .ref (M + 42)) rfl dX14_setAltitude_19 ?_
  refine lv_iconst (v := 0) hx hb dX14_setAltitude_22 (by decide) ?_
  refine q_ald hx hb hA hW (rO_42 (g := r 42) rfl) 0 rfl (by decide) (by decide) (x := (r 42) 0) rfl dX14_setAltitude_23 ?_
  refine lv_istore_n (lv' := [(2, .int ((r 42) 0)), (0, .ref M), (1, .int x)]) hx hb dX14_setAltitude_24 rfl hl (by decide) rfl (fun ls hl => ?_)
  refine lv_aload_n hx hb dX14_setAltitude_25 rfl (lv_at hl 1 rfl) ?_
  refine lv_iload_n hx hb dX14_setAltitude_26 rfl (lv_at hl 2 rfl) ?_
  refine q_cv (va_runV (As := [.int x]) (rest := []) ⟨hx, hb, hml, hown, hts⟩ (kX14_climb l E (rO E f M (rp r 100 (fun _ => 0))) n M (rp r 100 (fun _ => 0)) pn x rO_K hpn9 (by assumption)) (cwV 1 hts gX14_setAltitude_X14_climb rfl rfl rfl (by decide +kernel) ⟨(Nat.le_of_ble_eq_true rfl), (Nat.le_of_ble_eq_true rfl)⟩) (q_pV hA hW hS (ci := 12) rfl rO_0) rfl rfl hl.1 rfl (lv_room (Nat.le_of_ble_eq_true rfl)) dX14_setAltitude_27 ⟨Nat.le_of_ble_eq_true rfl, Nat.le_of_ble_eq_true rfl⟩) hS (fun f_27 n_27 H locs hp hW hS => ?_)
  obtain ⟨rfl, rfl⟩ := hp
  have hW : q_W E (rO E f M (rp (rp r 100 (fun _ => 0)) 42 (z_move (r 42) x pn))) n H := by rw [rO_rO] at hW; exact hW
  have hW : q_W E (rO E f M (rp (rp r 100 (fun _ => 0)) 42 (z_move (r 42) x pn))) n H := hW
  refine lv_iload_n hx hb dX14_setAltitude_30 rfl (lv_at hl 0 rfl) ?_
  exact q_iret hx hb hr hlocks hW hS ⟨rfl, rfl, rfl⟩ (Nat.le_of_ble_eq_true rfl) (Nat.le_of_ble_eq_true rfl) dX14_setAltitude_31

set_option maxHeartbeats 4000000 in
set_option maxRecDepth 100000 in
theorem kX14_setAltitude_F (l : Launch) (E : q_E) (f : q_H) (n : Nat) (M : Nat) (r : q_R) (x : Int32)  (hm : RM E f M r) (hin : b_in x 0 60 = false) : Met l yX14_setAltitude wsX14_setAltitude ({ frames := 2, cells := 0, slots := 0, locals := 42 }) (q_P E [.ref M, .int x] f n) (q_Qi E (fun r0 f1 n1 => 0 = r0 ∧ rO E f M (rp r 100 (fun _ => 1)) = f1 ∧ n = n1)) 0 0 (q_ge E) := by
  refine Met.ofW (cc := cX14_setAltitude) (maxL := 3) (ret := (some .int)) (by decide) rfl ?_
  intro p e s m args below meth c s₁ B hml hv
  obtain ⟨rfl, hA, hW⟩ := hv
  have hx := B.exec
  have hb := B.bytes
  have hr := B.returns
  have hts := atoms_spec (ws := wsX14_setAltitude) B.pre
  have hown : s.vm.findClass RX14 = some m.cls := findClass_of_methodNamed B.named
  have hlocks := B.notSynchronized
  have hS : va_S (q_ge E) s.heap s.heap [] := va_S.rf
  have iX14 : ∀ w ∈ wsX140, w ∈ wsX14_setAltitude := by decide +kernel
  have hl := lv_entry ([.ref M, .int x]) (n := 3) (Nat.le_of_ble_eq_true rfl)
  rw [lg_entry_eq]
  generalize (lg_sl ([.ref M, .int x]) ++ List.replicate (3 - (lg_sl ([.ref M, .int x])).length) Slot.unset).toArray = ls at hl ⊢
  have hl : lv_has ls 3 [(0, .ref M), (1, .int x)] := hl
  have hmE := hm.eq
  rw [hm.eq] at hW
  refine lv_aload_n hx hb dX14_setAltitude_0 rfl (lv_at hl 0 rfl) ?_
  refine lv_iconst (v := 0) hx hb dX14_setAltitude_1 (by decide) ?_
  refine q_put hx hb hts hown hA hW hS iX14 tyX14 tyX14_ok nmX14 rO_0 rfl 0 (by decide) (hts (.fieldLink RX14 54 "HighRecipesModel" "thrown" "I") (by decide +kernel)) (fun _ h9 => h9) rfl rfl rfl (Nat.le_of_ble_eq_true rfl) dX14_setAltitude_2 (fun H locs hW hS => ?_)
  have hW := q_s0 100 (0) hW rfl (by decide)
  refine lv_iload_n hx hb dX14_setAltitude_5 rfl (lv_at hl 1 rfl) ?_
  refine q_ci (va_runS (As := [.int x]) (rest := []) ⟨hx, hb, hml, hown, hts⟩ (kX14_isAltitude l E (rO E f M (rp r 100 (fun _ => 0))) n x) (va_cwS 1 hts gX14_setAltitude_X14_isAltitude rfl rfl rfl (by decide +kernel) ⟨(Nat.le_of_ble_eq_true rfl), (Nat.le_of_ble_eq_true rfl)⟩) (q_pS hA hW hS) rfl rfl hl.1 rfl (lv_room (Nat.le_of_ble_eq_true rfl)) dX14_setAltitude_6 ⟨Nat.le_of_ble_eq_true rfl, Nat.le_of_ble_eq_true rfl⟩) hS (fun r_6 f_6 n_6 H locs hp hW hS => ?_)
  obtain ⟨rfl, rfl, rfl⟩ := hp
  have hW : q_W E (rO E f M (rp r 100 (fun _ => 0))) n H := hW
  refine lv_if_ne (tgt := 18) hx hb dX14_setAltitude_9 (by decide) (fun c_9 => False.elim ((fun h9 => h9 (b01_F (hin))) c_9)) (fun c_9 => ?_)
  refine lv_aload_n hx hb dX14_setAltitude_12 rfl (lv_at hl 0 rfl) ?_
  refine lv_iconst (v := 1) hx hb dX14_setAltitude_13 (by decide) ?_
  refine q_ci (va_runV (As := [.int 1]) (rest := []) ⟨hx, hb, hml, hown, hts⟩ (kX14_no l E (rO E f M (rp r 100 (fun _ => 0))) n M (rp r 100 (fun _ => 0)) 1 rO_K) (cwV 1 hts gX14_setAltitude_X14_no rfl rfl rfl (by decide +kernel) ⟨(Nat.le_of_ble_eq_true rfl), (Nat.le_of_ble_eq_true rfl)⟩) (q_pV hA hW hS (ci := 12) rfl rO_0) rfl rfl hl.1 rfl (lv_room (Nat.le_of_ble_eq_true rfl)) dX14_setAltitude_14 ⟨Nat.le_of_ble_eq_true rfl, Nat.le_of_ble_eq_true rfl⟩) hS (fun r_14 f_14 n_14 H locs hp hW hS => ?_)
  obtain ⟨rfl, rfl, rfl⟩ := hp
  have hW : q_W E (rO E f M (rp (rp r 100 (fun _ => 0)) 100 (fun _ => 1))) n H := by rw [rO_rO] at hW; exact hW
  rw [rp_d0] at hW
  have hW : q_W E (rO E f M (rp r 100 (fun _ => 1))) n H := hW
  exact q_iret hx hb hr hlocks hW hS ⟨rfl, rfl, rfl⟩ (Nat.le_of_ble_eq_true rfl) (Nat.le_of_ble_eq_true rfl) dX14_setAltitude_17

set_option maxHeartbeats 4000000 in
set_option maxRecDepth 100000 in
theorem kX14_setServings (l : Launch) (E : q_E) (f : q_H) (n : Nat) (M : Nat) (r : q_R) (x : Int32)  (hm : RM E f M r) (hin : b_in x 1 12 = true) : Met l yX14_setServings wsX14_setServings ({ frames := 1, cells := 0, slots := 0, locals := 22 }) (q_P E [.ref M, .int x] f n) (q_Qi E (fun r0 f1 n1 => (r 42) 1 = r0 ∧ rO E f M (rp (rp r 100 (fun _ => 0)) 42 (upd (r 42) 1 x)) = f1 ∧ n = n1)) 0 0 (q_ge E) := by
  refine Met.ofW (cc := cX14_setServings) (maxL := 3) (ret := (some .int)) (by decide) rfl ?_
  intro p e s m args below meth c s₁ B hml hv
  obtain ⟨rfl, hA, hW⟩ := hv
  have hx := B.exec
  have hb := B.bytes
  have hr := B.returns
  have hts := atoms_spec (ws := wsX14_setServings) B.pre
  have hown : s.vm.findClass RX14 = some m.cls := findClass_of_methodNamed B.named
  have hlocks := B.notSynchronized
  have hS : va_S (q_ge E) s.heap s.heap [] := va_S.rf
  have iX14 : ∀ w ∈ wsX140, w ∈ wsX14_setServings := by decide +kernel
  have hl := lv_entry ([.ref M, .int x]) (n := 3) (Nat.le_of_ble_eq_true rfl)
  rw [lg_entry_eq]
  generalize (lg_sl ([.ref M, .int x]) ++ List.replicate (3 - (lg_sl ([.ref M, .int x])).length) Slot.unset).toArray = ls at hl ⊢
  have hl : lv_has ls 3 [(0, .ref M), (1, .int x)] := hl
  have hmE := hm.eq
  rw [hm.eq] at hW
  refine lv_aload_n hx hb dX14_setServings_0 rfl (lv_at hl 0 rfl) ?_
  refine lv_iconst (v := 0) hx hb dX14_setServings_1 (by decide) ?_
  refine q_put hx hb hts hown hA hW hS iX14 tyX14 tyX14_ok nmX14 rO_0 rfl 0 (by decide) (hts (.fieldLink RX14 54 "HighRecipesModel" "thrown" "I") (by decide +kernel)) (fun _ h9 => h9) rfl rfl rfl (Nat.le_of_ble_eq_true rfl) dX14_setServings_2 (fun H locs hW hS => ?_)
  have hW := q_s0 100 (0) hW rfl (by decide)
  refine lv_iload_n hx hb dX14_setServings_5 rfl (lv_at hl 1 rfl) ?_
  refine lv_iconst (v := 1) hx hb dX14_setServings_6 (by decide) ?_
  refine lv_bipush (v := 12) hx hb dX14_setServings_7 (by decide) ?_
  refine q_ci (va_runS (As := [.int x, .int 1, .int 12]) (rest := []) ⟨hx, hb, hml, hown, hts⟩ (kX14_isIn l E (rO E f M (rp r 100 (fun _ => 0))) n x 1 12) (va_cwS 3 hts gX14_setServings_X14_isIn rfl rfl rfl (by decide +kernel) ⟨(Nat.le_of_ble_eq_true rfl), (Nat.le_of_ble_eq_true rfl)⟩) (q_pS hA hW hS) rfl rfl hl.1 rfl (lv_room (Nat.le_of_ble_eq_true rfl)) dX14_setServings_9 ⟨Nat.le_of_ble_eq_true rfl, Nat.le_of_ble_eq_true rfl⟩) hS (fun r_9 f_9 n_9 H locs hp hW hS => ?_)
  obtain ⟨rfl, rfl, rfl⟩ := hp
  have hW : q_W E (rO E f M (rp r 100 (fun _ => 0))) n H := hW
  refine lv_if_ne (tgt := 21) hx hb dX14_setServings_12 (by decide) (fun c_12 => ?_) (fun c_12 => False.elim ((fun h9 => absurd h9 (b01_T (hin))) c_12))
  refine lv_aload_n hx hb dX14_setServings_21 rfl (lv_at hl 0 rfl) ?_
  refine q_get hx hb hts hown hA hW iX14 rO_0 rfl 19 (by decide) (hts (.fieldLink RX14 45 "HighRecipesModel" "now" "[I") (by decide +kernel)) (fun _ h9 => h9) (v := .ref (M + 42)) rfl dX14_setServings_22 ?_
  refine lv_iconst (v := 1) hx hb dX14_setServings_25 (by decide) ?_
  refine q_ald hx hb hA hW (rO_42 (g := r 42) rfl) 1 rfl (by decide) (by decide) (x := (r 42) 1) rfl dX14_setServings_26 ?_
  refine lv_istore_n (lv' := [(2, .int ((r 42) 1)), (0, .ref M), (1, .int x)]) hx hb dX14_setServings_27 rfl hl (by decide) rfl (fun ls hl => ?_)
  refine lv_aload_n hx hb dX14_setServings_28 rfl (lv_at hl 1 rfl) ?_
  refine q_get hx hb hts hown hA hW iX14 rO_0 rfl 19 (by decide) (hts (.fieldLink RX14 45 "HighRecipesModel" "now" "[I") (by decide +kernel)) (fun _ h9 => h9) (v := .ref (M + 42)) rfl dX14_setServings_29 ?_
  refine lv_iconst (v := 1) hx hb dX14_setServings_32 (by decide) ?_
  refine lv_iload_n hx hb dX14_setServings_33 rfl (lv_at hl 2 rfl) ?_
  refine q_ast hx hb hA hW hS (rO_42 (g := r 42) rfl) 1 rfl (by decide) (by decide) dX14_setServings_34 (fun H locs hW hS => ?_)
  have hW := q_sa 42 hW rfl rfl
  refine lv_iload_n hx hb dX14_setServings_35 rfl (lv_at hl 0 rfl) ?_
  exact q_iret hx hb hr hlocks hW hS ⟨rfl, rfl, rfl⟩ (Nat.le_of_ble_eq_true rfl) (Nat.le_of_ble_eq_true rfl) dX14_setServings_36

set_option maxHeartbeats 4000000 in
set_option maxRecDepth 100000 in
theorem kX14_setServings_F (l : Launch) (E : q_E) (f : q_H) (n : Nat) (M : Nat) (r : q_R) (x : Int32)  (hm : RM E f M r) (hin : b_in x 1 12 = false) : Met l yX14_setServings wsX14_setServings ({ frames := 1, cells := 0, slots := 0, locals := 22 }) (q_P E [.ref M, .int x] f n) (q_Qi E (fun r0 f1 n1 => 0 = r0 ∧ rO E f M (rp r 100 (fun _ => 1)) = f1 ∧ n = n1)) 0 0 (q_ge E) := by
  refine Met.ofW (cc := cX14_setServings) (maxL := 3) (ret := (some .int)) (by decide) rfl ?_
  intro p e s m args below meth c s₁ B hml hv
  obtain ⟨rfl, hA, hW⟩ := hv
  have hx := B.exec
  have hb := B.bytes
  have hr := B.returns
  have hts := atoms_spec (ws := wsX14_setServings) B.pre
  have hown : s.vm.findClass RX14 = some m.cls := findClass_of_methodNamed B.named
  have hlocks := B.notSynchronized
  have hS : va_S (q_ge E) s.heap s.heap [] := va_S.rf
  have iX14 : ∀ w ∈ wsX140, w ∈ wsX14_setServings := by decide +kernel
  have hl := lv_entry ([.ref M, .int x]) (n := 3) (Nat.le_of_ble_eq_true rfl)
  rw [lg_entry_eq]
  generalize (lg_sl ([.ref M, .int x]) ++ List.replicate (3 - (lg_sl ([.ref M, .int x])).length) Slot.unset).toArray = ls at hl ⊢
  have hl : lv_has ls 3 [(0, .ref M), (1, .int x)] := hl
  have hmE := hm.eq
  rw [hm.eq] at hW
  refine lv_aload_n hx hb dX14_setServings_0 rfl (lv_at hl 0 rfl) ?_
  refine lv_iconst (v := 0) hx hb dX14_setServings_1 (by decide) ?_
  refine q_put hx hb hts hown hA hW hS iX14 tyX14 tyX14_ok nmX14 rO_0 rfl 0 (by decide) (hts (.fieldLink RX14 54 "HighRecipesModel" "thrown" "I") (by decide +kernel)) (fun _ h9 => h9) rfl rfl rfl (Nat.le_of_ble_eq_true rfl) dX14_setServings_2 (fun H locs hW hS => ?_)
  have hW := q_s0 100 (0) hW rfl (by decide)
  refine lv_iload_n hx hb dX14_setServings_5 rfl (lv_at hl 1 rfl) ?_
  refine lv_iconst (v := 1) hx hb dX14_setServings_6 (by decide) ?_
  refine lv_bipush (v := 12) hx hb dX14_setServings_7 (by decide) ?_
  refine q_ci (va_runS (As := [.int x, .int 1, .int 12]) (rest := []) ⟨hx, hb, hml, hown, hts⟩ (kX14_isIn l E (rO E f M (rp r 100 (fun _ => 0))) n x 1 12) (va_cwS 3 hts gX14_setServings_X14_isIn rfl rfl rfl (by decide +kernel) ⟨(Nat.le_of_ble_eq_true rfl), (Nat.le_of_ble_eq_true rfl)⟩) (q_pS hA hW hS) rfl rfl hl.1 rfl (lv_room (Nat.le_of_ble_eq_true rfl)) dX14_setServings_9 ⟨Nat.le_of_ble_eq_true rfl, Nat.le_of_ble_eq_true rfl⟩) hS (fun r_9 f_9 n_9 H locs hp hW hS => ?_)
  obtain ⟨rfl, rfl, rfl⟩ := hp
  have hW : q_W E (rO E f M (rp r 100 (fun _ => 0))) n H := hW
  refine lv_if_ne (tgt := 21) hx hb dX14_setServings_12 (by decide) (fun c_12 => False.elim ((fun h9 => h9 (b01_F (hin))) c_12)) (fun c_12 => ?_)
  refine lv_aload_n hx hb dX14_setServings_15 rfl (lv_at hl 0 rfl) ?_
  refine lv_iconst (v := 1) hx hb dX14_setServings_16 (by decide) ?_
  refine q_ci (va_runV (As := [.int 1]) (rest := []) ⟨hx, hb, hml, hown, hts⟩ (kX14_no l E (rO E f M (rp r 100 (fun _ => 0))) n M (rp r 100 (fun _ => 0)) 1 rO_K) (cwV 1 hts gX14_setServings_X14_no rfl rfl rfl (by decide +kernel) ⟨(Nat.le_of_ble_eq_true rfl), (Nat.le_of_ble_eq_true rfl)⟩) (q_pV hA hW hS (ci := 12) rfl rO_0) rfl rfl hl.1 rfl (lv_room (Nat.le_of_ble_eq_true rfl)) dX14_setServings_17 ⟨Nat.le_of_ble_eq_true rfl, Nat.le_of_ble_eq_true rfl⟩) hS (fun r_17 f_17 n_17 H locs hp hW hS => ?_)
  obtain ⟨rfl, rfl, rfl⟩ := hp
  have hW : q_W E (rO E f M (rp (rp r 100 (fun _ => 0)) 100 (fun _ => 1))) n H := by rw [rO_rO] at hW; exact hW
  rw [rp_d0] at hW
  have hW : q_W E (rO E f M (rp r 100 (fun _ => 1))) n H := hW
  exact q_iret hx hb hr hlocks hW hS ⟨rfl, rfl, rfl⟩ (Nat.le_of_ble_eq_true rfl) (Nat.le_of_ble_eq_true rfl) dX14_setServings_20

set_option maxHeartbeats 4000000 in
set_option maxRecDepth 100000 in
theorem kX14_setSpoon (l : Launch) (E : q_E) (f : q_H) (n : Nat) (M : Nat) (r : q_R) (x : Int32)  (hm : RM E f M r) (hin : b_in x 1 10 = true) : Met l yX14_setSpoon wsX14_setSpoon ({ frames := 1, cells := 0, slots := 0, locals := 22 }) (q_P E [.ref M, .int x] f n) (q_Qi E (fun r0 f1 n1 => (r 42) 2 = r0 ∧ rO E f M (rp (rp r 100 (fun _ => 0)) 42 (upd (r 42) 2 x)) = f1 ∧ n = n1)) 0 0 (q_ge E) := by
  refine Met.ofW (cc := cX14_setSpoon) (maxL := 3) (ret := (some .int)) (by decide) rfl ?_
  intro p e s m args below meth c s₁ B hml hv
  obtain ⟨rfl, hA, hW⟩ := hv
  have hx := B.exec
  have hb := B.bytes
  have hr := B.returns
  have hts := atoms_spec (ws := wsX14_setSpoon) B.pre
  have hown : s.vm.findClass RX14 = some m.cls := findClass_of_methodNamed B.named
  have hlocks := B.notSynchronized
  have hS : va_S (q_ge E) s.heap s.heap [] := va_S.rf
  have iX14 : ∀ w ∈ wsX140, w ∈ wsX14_setSpoon := by decide +kernel
  have hl := lv_entry ([.ref M, .int x]) (n := 3) (Nat.le_of_ble_eq_true rfl)
  rw [lg_entry_eq]
  generalize (lg_sl ([.ref M, .int x]) ++ List.replicate (3 - (lg_sl ([.ref M, .int x])).length) Slot.unset).toArray = ls at hl ⊢
  have hl : lv_has ls 3 [(0, .ref M), (1, .int x)] := hl
  have hmE := hm.eq
  rw [hm.eq] at hW
  refine lv_aload_n hx hb dX14_setSpoon_0 rfl (lv_at hl 0 rfl) ?_
  refine lv_iconst (v := 0) hx hb dX14_setSpoon_1 (by decide) ?_
  refine q_put hx hb hts hown hA hW hS iX14 tyX14 tyX14_ok nmX14 rO_0 rfl 0 (by decide) (hts (.fieldLink RX14 54 "HighRecipesModel" "thrown" "I") (by decide +kernel)) (fun _ h9 => h9) rfl rfl rfl (Nat.le_of_ble_eq_true rfl) dX14_setSpoon_2 (fun H locs hW hS => ?_)
  have hW := q_s0 100 (0) hW rfl (by decide)
  refine lv_iload_n hx hb dX14_setSpoon_5 rfl (lv_at hl 1 rfl) ?_
  refine lv_iconst (v := 1) hx hb dX14_setSpoon_6 (by decide) ?_
  refine lv_bipush (v := 10) hx hb dX14_setSpoon_7 (by decide) ?_
  refine q_ci (va_runS (As := [.int x, .int 1, .int 10]) (rest := []) ⟨hx, hb, hml, hown, hts⟩ (kX14_isIn l E (rO E f M (rp r 100 (fun _ => 0))) n x 1 10) (va_cwS 3 hts gX14_setSpoon_X14_isIn rfl rfl rfl (by decide +kernel) ⟨(Nat.le_of_ble_eq_true rfl), (Nat.le_of_ble_eq_true rfl)⟩) (q_pS hA hW hS) rfl rfl hl.1 rfl (lv_room (Nat.le_of_ble_eq_true rfl)) dX14_setSpoon_9 ⟨Nat.le_of_ble_eq_true rfl, Nat.le_of_ble_eq_true rfl⟩) hS (fun r_9 f_9 n_9 H locs hp hW hS => ?_)
  obtain ⟨rfl, rfl, rfl⟩ := hp
  have hW : q_W E (rO E f M (rp r 100 (fun _ => 0))) n H := hW
  refine lv_if_ne (tgt := 21) hx hb dX14_setSpoon_12 (by decide) (fun c_12 => ?_) (fun c_12 => False.elim ((fun h9 => absurd h9 (b01_T (hin))) c_12))
  refine lv_aload_n hx hb dX14_setSpoon_21 rfl (lv_at hl 0 rfl) ?_
  refine q_get hx hb hts hown hA hW iX14 rO_0 rfl 19 (by decide) (hts (.fieldLink RX14 45 "HighRecipesModel" "now" "[I") (by decide +kernel)) (fun _ h9 => h9) (v := .ref (M + 42)) rfl dX14_setSpoon_22 ?_
  refine lv_iconst (v := 2) hx hb dX14_setSpoon_25 (by decide) ?_
  refine q_ald hx hb hA hW (rO_42 (g := r 42) rfl) 2 rfl (by decide) (by decide) (x := (r 42) 2) rfl dX14_setSpoon_26 ?_
  refine lv_istore_n (lv' := [(2, .int ((r 42) 2)), (0, .ref M), (1, .int x)]) hx hb dX14_setSpoon_27 rfl hl (by decide) rfl (fun ls hl => ?_)
  refine lv_aload_n hx hb dX14_setSpoon_28 rfl (lv_at hl 1 rfl) ?_
  refine q_get hx hb hts hown hA hW iX14 rO_0 rfl 19 (by decide) (hts (.fieldLink RX14 45 "HighRecipesModel" "now" "[I") (by decide +kernel)) (fun _ h9 => h9) (v := .ref (M + 42)) rfl dX14_setSpoon_29 ?_
  refine lv_iconst (v := 2) hx hb dX14_setSpoon_32 (by decide) ?_
  refine lv_iload_n hx hb dX14_setSpoon_33 rfl (lv_at hl 2 rfl) ?_
  refine q_ast hx hb hA hW hS (rO_42 (g := r 42) rfl) 2 rfl (by decide) (by decide) dX14_setSpoon_34 (fun H locs hW hS => ?_)
  have hW := q_sa 42 hW rfl rfl
  refine lv_iload_n hx hb dX14_setSpoon_35 rfl (lv_at hl 0 rfl) ?_
  exact q_iret hx hb hr hlocks hW hS ⟨rfl, rfl, rfl⟩ (Nat.le_of_ble_eq_true rfl) (Nat.le_of_ble_eq_true rfl) dX14_setSpoon_36

set_option maxHeartbeats 4000000 in
set_option maxRecDepth 100000 in
theorem kX14_setSpoon_F (l : Launch) (E : q_E) (f : q_H) (n : Nat) (M : Nat) (r : q_R) (x : Int32)  (hm : RM E f M r) (hin : b_in x 1 10 = false) : Met l yX14_setSpoon wsX14_setSpoon ({ frames := 1, cells := 0, slots := 0, locals := 22 }) (q_P E [.ref M, .int x] f n) (q_Qi E (fun r0 f1 n1 => 0 = r0 ∧ rO E f M (rp r 100 (fun _ => 1)) = f1 ∧ n = n1)) 0 0 (q_ge E) := by
  refine Met.ofW (cc := cX14_setSpoon) (maxL := 3) (ret := (some .int)) (by decide) rfl ?_
  intro p e s m args below meth c s₁ B hml hv
  obtain ⟨rfl, hA, hW⟩ := hv
  have hx := B.exec
  have hb := B.bytes
  have hr := B.returns
  have hts := atoms_spec (ws := wsX14_setSpoon) B.pre
  have hown : s.vm.findClass RX14 = some m.cls := findClass_of_methodNamed B.named
  have hlocks := B.notSynchronized
  have hS : va_S (q_ge E) s.heap s.heap [] := va_S.rf
  have iX14 : ∀ w ∈ wsX140, w ∈ wsX14_setSpoon := by decide +kernel
  have hl := lv_entry ([.ref M, .int x]) (n := 3) (Nat.le_of_ble_eq_true rfl)
  rw [lg_entry_eq]
  generalize (lg_sl ([.ref M, .int x]) ++ List.replicate (3 - (lg_sl ([.ref M, .int x])).length) Slot.unset).toArray = ls at hl ⊢
  have hl : lv_has ls 3 [(0, .ref M), (1, .int x)] := hl
  have hmE := hm.eq
  rw [hm.eq] at hW
  refine lv_aload_n hx hb dX14_setSpoon_0 rfl (lv_at hl 0 rfl) ?_
  refine lv_iconst (v := 0) hx hb dX14_setSpoon_1 (by decide) ?_
  refine q_put hx hb hts hown hA hW hS iX14 tyX14 tyX14_ok nmX14 rO_0 rfl 0 (by decide) (hts (.fieldLink RX14 54 "HighRecipesModel" "thrown" "I") (by decide +kernel)) (fun _ h9 => h9) rfl rfl rfl (Nat.le_of_ble_eq_true rfl) dX14_setSpoon_2 (fun H locs hW hS => ?_)
  have hW := q_s0 100 (0) hW rfl (by decide)
  refine lv_iload_n hx hb dX14_setSpoon_5 rfl (lv_at hl 1 rfl) ?_
  refine lv_iconst (v := 1) hx hb dX14_setSpoon_6 (by decide) ?_
  refine lv_bipush (v := 10) hx hb dX14_setSpoon_7 (by decide) ?_
  refine q_ci (va_runS (As := [.int x, .int 1, .int 10]) (rest := []) ⟨hx, hb, hml, hown, hts⟩ (kX14_isIn l E (rO E f M (rp r 100 (fun _ => 0))) n x 1 10) (va_cwS 3 hts gX14_setSpoon_X14_isIn rfl rfl rfl (by decide +kernel) ⟨(Nat.le_of_ble_eq_true rfl), (Nat.le_of_ble_eq_true rfl)⟩) (q_pS hA hW hS) rfl rfl hl.1 rfl (lv_room (Nat.le_of_ble_eq_true rfl)) dX14_setSpoon_9 ⟨Nat.le_of_ble_eq_true rfl, Nat.le_of_ble_eq_true rfl⟩) hS (fun r_9 f_9 n_9 H locs hp hW hS => ?_)
  obtain ⟨rfl, rfl, rfl⟩ := hp
  have hW : q_W E (rO E f M (rp r 100 (fun _ => 0))) n H := hW
  refine lv_if_ne (tgt := 21) hx hb dX14_setSpoon_12 (by decide) (fun c_12 => False.elim ((fun h9 => h9 (b01_F (hin))) c_12)) (fun c_12 => ?_)
  refine lv_aload_n hx hb dX14_setSpoon_15 rfl (lv_at hl 0 rfl) ?_
  refine lv_iconst (v := 1) hx hb dX14_setSpoon_16 (by decide) ?_
  refine q_ci (va_runV (As := [.int 1]) (rest := []) ⟨hx, hb, hml, hown, hts⟩ (kX14_no l E (rO E f M (rp r 100 (fun _ => 0))) n M (rp r 100 (fun _ => 0)) 1 rO_K) (cwV 1 hts gX14_setSpoon_X14_no rfl rfl rfl (by decide +kernel) ⟨(Nat.le_of_ble_eq_true rfl), (Nat.le_of_ble_eq_true rfl)⟩) (q_pV hA hW hS (ci := 12) rfl rO_0) rfl rfl hl.1 rfl (lv_room (Nat.le_of_ble_eq_true rfl)) dX14_setSpoon_17 ⟨Nat.le_of_ble_eq_true rfl, Nat.le_of_ble_eq_true rfl⟩) hS (fun r_17 f_17 n_17 H locs hp hW hS => ?_)
  obtain ⟨rfl, rfl, rfl⟩ := hp
  have hW : q_W E (rO E f M (rp (rp r 100 (fun _ => 0)) 100 (fun _ => 1))) n H := by rw [rO_rO] at hW; exact hW
  rw [rp_d0] at hW
  have hW : q_W E (rO E f M (rp r 100 (fun _ => 1))) n H := hW
  exact q_iret hx hb hr hlocks hW hS ⟨rfl, rfl, rfl⟩ (Nat.le_of_ble_eq_true rfl) (Nat.le_of_ble_eq_true rfl) dX14_setSpoon_20

set_option maxHeartbeats 4000000 in
set_option maxRecDepth 100000 in
theorem kX14_pourHand_0 (l : Launch) (E : q_E) (f : q_H) (n : Nat) (M : Nat) (r : q_R) (pn i : Nat) (x : Int32)  (hm : RM E f M r) (hpn9 : (r 120 0) = nI pn) (hpn : pn ≤ 8) (hi : i < pn) (hin : b_in x 1 200 = true) (hvo : v_ok pn (r 9) (r 42)) : Met l yX14_pourHand wsX14_pourHand ({ frames := 4, cells := 0, slots := 0, locals := 89 }) (q_P E [.ref M, .int (nI i), .int 0, .int x] f n) (q_Qi E (fun r0 f1 n1 => z_frv (r 9) (r 42) i x = r0 ∧ rO E f M (rp (rp r 100 (fun _ => 0)) 42 (z_fillv (r 9) (r 42) i 0 x)) = f1 ∧ n = n1)) 0 0 (q_ge E) := by
  refine Met.ofW (cc := cX14_pourHand) (maxL := 4) (ret := (some .int)) (by decide) rfl ?_
  intro p e s m args below meth c s₁ B hml hv
  obtain ⟨rfl, hA, hW⟩ := hv
  have hx := B.exec
  have hb := B.bytes
  have hr := B.returns
  have hts := atoms_spec (ws := wsX14_pourHand) B.pre
  have hown : s.vm.findClass RX14 = some m.cls := findClass_of_methodNamed B.named
  have hlocks := B.notSynchronized
  have hS : va_S (q_ge E) s.heap s.heap [] := va_S.rf
  have iX14 : ∀ w ∈ wsX140, w ∈ wsX14_pourHand := by decide +kernel
  have hl := lv_entry ([.ref M, .int (nI i), .int 0, .int x]) (n := 4) (Nat.le_of_ble_eq_true rfl)
  rw [lg_entry_eq]
  generalize (lg_sl ([.ref M, .int (nI i), .int 0, .int x]) ++ List.replicate (4 - (lg_sl ([.ref M, .int (nI i), .int 0, .int x])).length) Slot.unset).toArray = ls at hl ⊢
  have hl : lv_has ls 4 [(0, .ref M), (1, .int (nI i)), (2, .int 0), (3, .int x)] := hl
  have hmE := hm.eq
  rw [hm.eq] at hW
  refine lv_aload_n hx hb dX14_pourHand_0 rfl (lv_at hl 0 rfl) ?_
  refine lv_iconst (v := 0) hx hb dX14_pourHand_1 (by decide) ?_
  refine q_put hx hb hts hown hA hW hS iX14 tyX14 tyX14_ok nmX14 rO_0 rfl 0 (by decide) (hts (.fieldLink RX14 54 "HighRecipesModel" "thrown" "I") (by decide +kernel)) (fun _ h9 => h9) rfl rfl rfl (Nat.le_of_ble_eq_true rfl) dX14_pourHand_2 (fun H locs hW hS => ?_)
  have hW := q_s0 100 (0) hW rfl (by decide)
  refine lv_aload_n hx hb dX14_pourHand_5 rfl (lv_at hl 0 rfl) ?_
  refine lv_iload_n hx hb dX14_pourHand_6 rfl (lv_at hl 1 rfl) ?_
  refine q_ci (va_runV (As := [.int (nI i)]) (rest := []) ⟨hx, hb, hml, hown, hts⟩ (kX14_isPan l E (rO E f M (rp r 100 (fun _ => 0))) n M (rp r 100 (fun _ => 0)) pn (nI i) rO_K hpn9) (cwV 1 hts gX14_pourHand_X14_isPan rfl rfl rfl (by decide +kernel) ⟨(Nat.le_of_ble_eq_true rfl), (Nat.le_of_ble_eq_true rfl)⟩) (q_pV hA hW hS (ci := 12) rfl rO_0) rfl rfl hl.1 rfl (lv_room (Nat.le_of_ble_eq_true rfl)) dX14_pourHand_7 ⟨Nat.le_of_ble_eq_true rfl, Nat.le_of_ble_eq_true rfl⟩) hS (fun r_7 f_7 n_7 H locs hp hW hS => ?_)
  obtain ⟨rfl, rfl, rfl⟩ := hp
  have hW : q_W E (rO E f M (rp r 100 (fun _ => 0))) n H := hW
  refine lv_if_ne (tgt := 19) hx hb dX14_pourHand_10 (by decide) (fun c_10 => ?_) (fun c_10 => False.elim ((fun h9 => absurd h9 (b01_T (b_in_ix hi (by omega)))) c_10))
  refine lv_iload_n hx hb dX14_pourHand_19 rfl (lv_at hl 3 rfl) ?_
  refine lv_iconst (v := 1) hx hb dX14_pourHand_20 (by decide) ?_
  refine lv_sipush (v := 200) hx hb dX14_pourHand_21 (by decide) ?_
  refine q_ci (va_runS (As := [.int x, .int 1, .int 200]) (rest := []) ⟨hx, hb, hml, hown, hts⟩ (kX14_isIn l E (rO E f M (rp r 100 (fun _ => 0))) n x 1 200) (va_cwS 3 hts gX14_pourHand_X14_isIn rfl rfl rfl (by decide +kernel) ⟨(Nat.le_of_ble_eq_true rfl), (Nat.le_of_ble_eq_true rfl)⟩) (q_pS hA hW hS) rfl rfl hl.1 rfl (lv_room (Nat.le_of_ble_eq_true rfl)) dX14_pourHand_24 ⟨Nat.le_of_ble_eq_true rfl, Nat.le_of_ble_eq_true rfl⟩) hS (fun r_24 f_24 n_24 H locs hp hW hS => ?_)
  obtain ⟨rfl, rfl, rfl⟩ := hp
  have hW : q_W E (rO E f M (rp r 100 (fun _ => 0))) n H := hW
  refine lv_if_eq (tgt := 40) hx hb dX14_pourHand_27 (by decide) (fun c_27 => False.elim ((fun h9 => absurd h9 (b01_T (hin))) c_27)) (fun c_27 => ?_)
  refine lv_aload_n hx hb dX14_pourHand_30 rfl (lv_at hl 0 rfl) ?_
  refine lv_iload_n hx hb dX14_pourHand_31 rfl (lv_at hl 1 rfl) ?_
  refine lv_iload_n hx hb dX14_pourHand_32 rfl (lv_at hl 2 rfl) ?_
  refine lv_iload_n hx hb dX14_pourHand_33 rfl (lv_at hl 3 rfl) ?_
  refine q_ci (va_runV (As := [.int (nI i), .int 0, .int x]) (rest := []) ⟨hx, hb, hml, hown, hts⟩ (kX14_pour_0 l E (rO E f M (rp r 100 (fun _ => 0))) n M (rp r 100 (fun _ => 0)) pn i x rO_K (by assumption) (by assumption) (v_ok_hz hvo hi).1) (cwV 3 hts gX14_pourHand_X14_pour rfl rfl rfl (by decide +kernel) ⟨(Nat.le_of_ble_eq_true rfl), (Nat.le_of_ble_eq_true rfl)⟩) (q_pV hA hW hS (ci := 12) rfl rO_0) rfl rfl hl.1 rfl (lv_room (Nat.le_of_ble_eq_true rfl)) dX14_pourHand_34 ⟨Nat.le_of_ble_eq_true rfl, Nat.le_of_ble_eq_true rfl⟩) hS (fun r_34 f_34 n_34 H locs hp hW hS => ?_)
  obtain ⟨rfl, rfl, rfl⟩ := hp
  rw [show z_frv ((rp r 100 (fun _ => 0)) 9) ((rp r 100 (fun _ => 0)) 42) i x = z_frv (r 9) (r 42) i x from rfl]
  have hW : q_W E (rO E f M (rp (rp r 100 (fun _ => 0)) 42 (z_fillv (r 9) (r 42) i 0 x))) n H := by rw [rO_rO] at hW; exact hW
  have hW : q_W E (rO E f M (rp (rp r 100 (fun _ => 0)) 42 (z_fillv (r 9) (r 42) i 0 x))) n H := hW
  refine lv_goto (tgt := 45) hx hb dX14_pourHand_37 (by decide) ?_
  exact q_iret hx hb hr hlocks hW hS ⟨rfl, rfl, rfl⟩ (Nat.le_of_ble_eq_true rfl) (Nat.le_of_ble_eq_true rfl) dX14_pourHand_45

set_option maxHeartbeats 4000000 in
set_option maxRecDepth 100000 in
theorem kX14_pourWater (l : Launch) (E : q_E) (f : q_H) (n : Nat) (M : Nat) (r : q_R) (pn i : Nat) (x : Int32)  (hm : RM E f M r) (hpn9 : (r 120 0) = nI pn) (hpn : pn ≤ 8) (hi : i < pn) (hin : b_in x 1 200 = true) (hvo : v_ok pn (r 9) (r 42)) : Met l yX14_pourWater wsX14_pourWater ({ frames := 5, cells := 0, slots := 0, locals := 112 }) (q_P E [.ref M, .int (nI i), .int x] f n) (q_Qi E (fun r0 f1 n1 => z_frv (r 9) (r 42) i x = r0 ∧ rO E f M (rp (rp r 100 (fun _ => 0)) 42 (z_fillv (r 9) (r 42) i 0 x)) = f1 ∧ n = n1)) 0 0 (q_ge E) := by
  refine Met.ofW (cc := cX14_pourWater) (maxL := 3) (ret := (some .int)) (by decide) rfl ?_
  intro p e s m args below meth c s₁ B hml hv
  obtain ⟨rfl, hA, hW⟩ := hv
  have hx := B.exec
  have hb := B.bytes
  have hr := B.returns
  have hts := atoms_spec (ws := wsX14_pourWater) B.pre
  have hown : s.vm.findClass RX14 = some m.cls := findClass_of_methodNamed B.named
  have hlocks := B.notSynchronized
  have hS : va_S (q_ge E) s.heap s.heap [] := va_S.rf
  have hl := lv_entry ([.ref M, .int (nI i), .int x]) (n := 3) (Nat.le_of_ble_eq_true rfl)
  rw [lg_entry_eq]
  generalize (lg_sl ([.ref M, .int (nI i), .int x]) ++ List.replicate (3 - (lg_sl ([.ref M, .int (nI i), .int x])).length) Slot.unset).toArray = ls at hl ⊢
  have hl : lv_has ls 3 [(0, .ref M), (1, .int (nI i)), (2, .int x)] := hl
  have hmE := hm.eq
  rw [hm.eq] at hW
  refine lv_aload_n hx hb dX14_pourWater_0 rfl (lv_at hl 0 rfl) ?_
  refine lv_iload_n hx hb dX14_pourWater_1 rfl (lv_at hl 1 rfl) ?_
  refine lv_iconst (v := 0) hx hb dX14_pourWater_2 (by decide) ?_
  refine lv_iload_n hx hb dX14_pourWater_3 rfl (lv_at hl 2 rfl) ?_
  refine q_ci (va_runV (As := [.int (nI i), .int 0, .int x]) (rest := []) ⟨hx, hb, hml, hown, hts⟩ (kX14_pourHand_0 l E (rO E f M r) n M r pn i x rO_K hpn9 (by assumption) (by assumption) (by assumption) (by assumption)) (cwV 3 hts gX14_pourWater_X14_pourHand rfl rfl rfl (by decide +kernel) ⟨(Nat.le_of_ble_eq_true rfl), (Nat.le_of_ble_eq_true rfl)⟩) (q_pV hA hW hS (ci := 12) rfl rO_0) rfl rfl hl.1 rfl (lv_room (Nat.le_of_ble_eq_true rfl)) dX14_pourWater_4 ⟨Nat.le_of_ble_eq_true rfl, Nat.le_of_ble_eq_true rfl⟩) hS (fun r_4 f_4 n_4 H locs hp hW hS => ?_)
  obtain ⟨rfl, rfl, rfl⟩ := hp
  have hW : q_W E (rO E f M (rp (rp r 100 (fun _ => 0)) 42 (z_fillv (r 9) (r 42) i 0 x))) n H := by rw [rO_rO] at hW; exact hW
  have hW : q_W E (rO E f M (rp (rp r 100 (fun _ => 0)) 42 (z_fillv (r 9) (r 42) i 0 x))) n H := hW
  exact q_iret hx hb hr hlocks hW hS ⟨rfl, rfl, rfl⟩ (Nat.le_of_ble_eq_true rfl) (Nat.le_of_ble_eq_true rfl) dX14_pourWater_7

set_option maxHeartbeats 4000000 in
set_option maxRecDepth 100000 in
theorem kX14_pourHand_1 (l : Launch) (E : q_E) (f : q_H) (n : Nat) (M : Nat) (r : q_R) (pn i : Nat) (x : Int32)  (hm : RM E f M r) (hpn9 : (r 120 0) = nI pn) (hpn : pn ≤ 8) (hi : i < pn) (hin : b_in x 1 200 = true) (hvo : v_ok pn (r 9) (r 42)) : Met l yX14_pourHand wsX14_pourHand ({ frames := 4, cells := 0, slots := 0, locals := 89 }) (q_P E [.ref M, .int (nI i), .int 1, .int x] f n) (q_Qi E (fun r0 f1 n1 => z_frv (r 9) (r 42) i x = r0 ∧ rO E f M (rp (rp r 100 (fun _ => 0)) 42 (z_fillv (r 9) (r 42) i 1 x)) = f1 ∧ n = n1)) 0 0 (q_ge E) := by
  refine Met.ofW (cc := cX14_pourHand) (maxL := 4) (ret := (some .int)) (by decide) rfl ?_
  intro p e s m args below meth c s₁ B hml hv
  obtain ⟨rfl, hA, hW⟩ := hv
  have hx := B.exec
  have hb := B.bytes
  have hr := B.returns
  have hts := atoms_spec (ws := wsX14_pourHand) B.pre
  have hown : s.vm.findClass RX14 = some m.cls := findClass_of_methodNamed B.named
  have hlocks := B.notSynchronized
  have hS : va_S (q_ge E) s.heap s.heap [] := va_S.rf
  have iX14 : ∀ w ∈ wsX140, w ∈ wsX14_pourHand := by decide +kernel
  have hl := lv_entry ([.ref M, .int (nI i), .int 1, .int x]) (n := 4) (Nat.le_of_ble_eq_true rfl)
  rw [lg_entry_eq]
  generalize (lg_sl ([.ref M, .int (nI i), .int 1, .int x]) ++ List.replicate (4 - (lg_sl ([.ref M, .int (nI i), .int 1, .int x])).length) Slot.unset).toArray = ls at hl ⊢
  have hl : lv_has ls 4 [(0, .ref M), (1, .int (nI i)), (2, .int 1), (3, .int x)] := hl
  have hmE := hm.eq
  rw [hm.eq] at hW
  refine lv_aload_n hx hb dX14_pourHand_0 rfl (lv_at hl 0 rfl) ?_
  refine lv_iconst (v := 0) hx hb dX14_pourHand_1 (by decide) ?_
  refine q_put hx hb hts hown hA hW hS iX14 tyX14 tyX14_ok nmX14 rO_0 rfl 0 (by decide) (hts (.fieldLink RX14 54 "HighRecipesModel" "thrown" "I") (by decide +kernel)) (fun _ h9 => h9) rfl rfl rfl (Nat.le_of_ble_eq_true rfl) dX14_pourHand_2 (fun H locs hW hS => ?_)
  have hW := q_s0 100 (0) hW rfl (by decide)
  refine lv_aload_n hx hb dX14_pourHand_5 rfl (lv_at hl 0 rfl) ?_
  refine lv_iload_n hx hb dX14_pourHand_6 rfl (lv_at hl 1 rfl) ?_
  refine q_ci (va_runV (As := [.int (nI i)]) (rest := []) ⟨hx, hb, hml, hown, hts⟩ (kX14_isPan l E (rO E f M (rp r 100 (fun _ => 0))) n M (rp r 100 (fun _ => 0)) pn (nI i) rO_K hpn9) (cwV 1 hts gX14_pourHand_X14_isPan rfl rfl rfl (by decide +kernel) ⟨(Nat.le_of_ble_eq_true rfl), (Nat.le_of_ble_eq_true rfl)⟩) (q_pV hA hW hS (ci := 12) rfl rO_0) rfl rfl hl.1 rfl (lv_room (Nat.le_of_ble_eq_true rfl)) dX14_pourHand_7 ⟨Nat.le_of_ble_eq_true rfl, Nat.le_of_ble_eq_true rfl⟩) hS (fun r_7 f_7 n_7 H locs hp hW hS => ?_)
  obtain ⟨rfl, rfl, rfl⟩ := hp
  have hW : q_W E (rO E f M (rp r 100 (fun _ => 0))) n H := hW
  refine lv_if_ne (tgt := 19) hx hb dX14_pourHand_10 (by decide) (fun c_10 => ?_) (fun c_10 => False.elim ((fun h9 => absurd h9 (b01_T (b_in_ix hi (by omega)))) c_10))
  refine lv_iload_n hx hb dX14_pourHand_19 rfl (lv_at hl 3 rfl) ?_
  refine lv_iconst (v := 1) hx hb dX14_pourHand_20 (by decide) ?_
  refine lv_sipush (v := 200) hx hb dX14_pourHand_21 (by decide) ?_
  refine q_ci (va_runS (As := [.int x, .int 1, .int 200]) (rest := []) ⟨hx, hb, hml, hown, hts⟩ (kX14_isIn l E (rO E f M (rp r 100 (fun _ => 0))) n x 1 200) (va_cwS 3 hts gX14_pourHand_X14_isIn rfl rfl rfl (by decide +kernel) ⟨(Nat.le_of_ble_eq_true rfl), (Nat.le_of_ble_eq_true rfl)⟩) (q_pS hA hW hS) rfl rfl hl.1 rfl (lv_room (Nat.le_of_ble_eq_true rfl)) dX14_pourHand_24 ⟨Nat.le_of_ble_eq_true rfl, Nat.le_of_ble_eq_true rfl⟩) hS (fun r_24 f_24 n_24 H locs hp hW hS => ?_)
  obtain ⟨rfl, rfl, rfl⟩ := hp
  have hW : q_W E (rO E f M (rp r 100 (fun _ => 0))) n H := hW
  refine lv_if_eq (tgt := 40) hx hb dX14_pourHand_27 (by decide) (fun c_27 => False.elim ((fun h9 => absurd h9 (b01_T (hin))) c_27)) (fun c_27 => ?_)
  refine lv_aload_n hx hb dX14_pourHand_30 rfl (lv_at hl 0 rfl) ?_
  refine lv_iload_n hx hb dX14_pourHand_31 rfl (lv_at hl 1 rfl) ?_
  refine lv_iload_n hx hb dX14_pourHand_32 rfl (lv_at hl 2 rfl) ?_
  refine lv_iload_n hx hb dX14_pourHand_33 rfl (lv_at hl 3 rfl) ?_
  refine q_ci (va_runV (As := [.int (nI i), .int 1, .int x]) (rest := []) ⟨hx, hb, hml, hown, hts⟩ (kX14_pour_1 l E (rO E f M (rp r 100 (fun _ => 0))) n M (rp r 100 (fun _ => 0)) pn i x rO_K (by assumption) (by assumption) (v_ok_hz hvo hi).1 (v_ok_hz hvo hi).2) (cwV 3 hts gX14_pourHand_X14_pour rfl rfl rfl (by decide +kernel) ⟨(Nat.le_of_ble_eq_true rfl), (Nat.le_of_ble_eq_true rfl)⟩) (q_pV hA hW hS (ci := 12) rfl rO_0) rfl rfl hl.1 rfl (lv_room (Nat.le_of_ble_eq_true rfl)) dX14_pourHand_34 ⟨Nat.le_of_ble_eq_true rfl, Nat.le_of_ble_eq_true rfl⟩) hS (fun r_34 f_34 n_34 H locs hp hW hS => ?_)
  obtain ⟨rfl, rfl, rfl⟩ := hp
  rw [show z_frv ((rp r 100 (fun _ => 0)) 9) ((rp r 100 (fun _ => 0)) 42) i x = z_frv (r 9) (r 42) i x from rfl]
  have hW : q_W E (rO E f M (rp (rp r 100 (fun _ => 0)) 42 (z_fillv (r 9) (r 42) i 1 x))) n H := by rw [rO_rO] at hW; exact hW
  have hW : q_W E (rO E f M (rp (rp r 100 (fun _ => 0)) 42 (z_fillv (r 9) (r 42) i 1 x))) n H := hW
  refine lv_goto (tgt := 45) hx hb dX14_pourHand_37 (by decide) ?_
  exact q_iret hx hb hr hlocks hW hS ⟨rfl, rfl, rfl⟩ (Nat.le_of_ble_eq_true rfl) (Nat.le_of_ble_eq_true rfl) dX14_pourHand_45

set_option maxHeartbeats 4000000 in
set_option maxRecDepth 100000 in
theorem kX14_pourMeal (l : Launch) (E : q_E) (f : q_H) (n : Nat) (M : Nat) (r : q_R) (pn i : Nat) (x : Int32)  (hm : RM E f M r) (hpn9 : (r 120 0) = nI pn) (hpn : pn ≤ 8) (hi : i < pn) (hin : b_in x 1 200 = true) (hvo : v_ok pn (r 9) (r 42)) : Met l yX14_pourMeal wsX14_pourMeal ({ frames := 5, cells := 0, slots := 0, locals := 112 }) (q_P E [.ref M, .int (nI i), .int x] f n) (q_Qi E (fun r0 f1 n1 => z_frv (r 9) (r 42) i x = r0 ∧ rO E f M (rp (rp r 100 (fun _ => 0)) 42 (z_fillv (r 9) (r 42) i 1 x)) = f1 ∧ n = n1)) 0 0 (q_ge E) := by
  refine Met.ofW (cc := cX14_pourMeal) (maxL := 3) (ret := (some .int)) (by decide) rfl ?_
  intro p e s m args below meth c s₁ B hml hv
  obtain ⟨rfl, hA, hW⟩ := hv
  have hx := B.exec
  have hb := B.bytes
  have hr := B.returns
  have hts := atoms_spec (ws := wsX14_pourMeal) B.pre
  have hown : s.vm.findClass RX14 = some m.cls := findClass_of_methodNamed B.named
  have hlocks := B.notSynchronized
  have hS : va_S (q_ge E) s.heap s.heap [] := va_S.rf
  have hl := lv_entry ([.ref M, .int (nI i), .int x]) (n := 3) (Nat.le_of_ble_eq_true rfl)
  rw [lg_entry_eq]
  generalize (lg_sl ([.ref M, .int (nI i), .int x]) ++ List.replicate (3 - (lg_sl ([.ref M, .int (nI i), .int x])).length) Slot.unset).toArray = ls at hl ⊢
  have hl : lv_has ls 3 [(0, .ref M), (1, .int (nI i)), (2, .int x)] := hl
  have hmE := hm.eq
  rw [hm.eq] at hW
  refine lv_aload_n hx hb dX14_pourMeal_0 rfl (lv_at hl 0 rfl) ?_
  refine lv_iload_n hx hb dX14_pourMeal_1 rfl (lv_at hl 1 rfl) ?_
  refine lv_iconst (v := 1) hx hb dX14_pourMeal_2 (by decide) ?_
  refine lv_iload_n hx hb dX14_pourMeal_3 rfl (lv_at hl 2 rfl) ?_
  refine q_ci (va_runV (As := [.int (nI i), .int 1, .int x]) (rest := []) ⟨hx, hb, hml, hown, hts⟩ (kX14_pourHand_1 l E (rO E f M r) n M r pn i x rO_K hpn9 (by assumption) (by assumption) (by assumption) (by assumption)) (cwV 3 hts gX14_pourMeal_X14_pourHand rfl rfl rfl (by decide +kernel) ⟨(Nat.le_of_ble_eq_true rfl), (Nat.le_of_ble_eq_true rfl)⟩) (q_pV hA hW hS (ci := 12) rfl rO_0) rfl rfl hl.1 rfl (lv_room (Nat.le_of_ble_eq_true rfl)) dX14_pourMeal_4 ⟨Nat.le_of_ble_eq_true rfl, Nat.le_of_ble_eq_true rfl⟩) hS (fun r_4 f_4 n_4 H locs hp hW hS => ?_)
  obtain ⟨rfl, rfl, rfl⟩ := hp
  have hW : q_W E (rO E f M (rp (rp r 100 (fun _ => 0)) 42 (z_fillv (r 9) (r 42) i 1 x))) n H := by rw [rO_rO] at hW; exact hW
  have hW : q_W E (rO E f M (rp (rp r 100 (fun _ => 0)) 42 (z_fillv (r 9) (r 42) i 1 x))) n H := hW
  exact q_iret hx hb hr hlocks hW hS ⟨rfl, rfl, rfl⟩ (Nat.le_of_ble_eq_true rfl) (Nat.le_of_ble_eq_true rfl) dX14_pourMeal_7

set_option maxHeartbeats 4000000 in
set_option maxRecDepth 100000 in
theorem kX14_pourHand_G (l : Launch) (E : q_E) (f : q_H) (n : Nat) (M : Nat) (r : q_R) (pn i : Nat) (b x : Int32)  (hm : RM E f M r) (hpn9 : (r 120 0) = nI pn) (hpn : pn ≤ 8) (hi : i < pn) (hin : b_in x 1 200 = false) : Met l yX14_pourHand wsX14_pourHand ({ frames := 2, cells := 0, slots := 0, locals := 43 }) (q_P E [.ref M, .int (nI i), .int b, .int x] f n) (q_Qi E (fun r0 f1 n1 => 0 = r0 ∧ rO E f M (rp r 100 (fun _ => 2)) = f1 ∧ n = n1)) 0 0 (q_ge E) := by
  refine Met.ofW (cc := cX14_pourHand) (maxL := 4) (ret := (some .int)) (by decide) rfl ?_
  intro p e s m args below meth c s₁ B hml hv
  obtain ⟨rfl, hA, hW⟩ := hv
  have hx := B.exec
  have hb := B.bytes
  have hr := B.returns
  have hts := atoms_spec (ws := wsX14_pourHand) B.pre
  have hown : s.vm.findClass RX14 = some m.cls := findClass_of_methodNamed B.named
  have hlocks := B.notSynchronized
  have hS : va_S (q_ge E) s.heap s.heap [] := va_S.rf
  have iX14 : ∀ w ∈ wsX140, w ∈ wsX14_pourHand := by decide +kernel
  have hl := lv_entry ([.ref M, .int (nI i), .int b, .int x]) (n := 4) (Nat.le_of_ble_eq_true rfl)
  rw [lg_entry_eq]
  generalize (lg_sl ([.ref M, .int (nI i), .int b, .int x]) ++ List.replicate (4 - (lg_sl ([.ref M, .int (nI i), .int b, .int x])).length) Slot.unset).toArray = ls at hl ⊢
  have hl : lv_has ls 4 [(0, .ref M), (1, .int (nI i)), (2, .int b), (3, .int x)] := hl
  have hmE := hm.eq
  rw [hm.eq] at hW
  refine lv_aload_n hx hb dX14_pourHand_0 rfl (lv_at hl 0 rfl) ?_
  refine lv_iconst (v := 0) hx hb dX14_pourHand_1 (by decide) ?_
  refine q_put hx hb hts hown hA hW hS iX14 tyX14 tyX14_ok nmX14 rO_0 rfl 0 (by decide) (hts (.fieldLink RX14 54 "HighRecipesModel" "thrown" "I") (by decide +kernel)) (fun _ h9 => h9) rfl rfl rfl (Nat.le_of_ble_eq_true rfl) dX14_pourHand_2 (fun H locs hW hS => ?_)
  have hW := q_s0 100 (0) hW rfl (by decide)
  refine lv_aload_n hx hb dX14_pourHand_5 rfl (lv_at hl 0 rfl) ?_
  refine lv_iload_n hx hb dX14_pourHand_6 rfl (lv_at hl 1 rfl) ?_
  refine q_ci (va_runV (As := [.int (nI i)]) (rest := []) ⟨hx, hb, hml, hown, hts⟩ (kX14_isPan l E (rO E f M (rp r 100 (fun _ => 0))) n M (rp r 100 (fun _ => 0)) pn (nI i) rO_K hpn9) (cwV 1 hts gX14_pourHand_X14_isPan rfl rfl rfl (by decide +kernel) ⟨(Nat.le_of_ble_eq_true rfl), (Nat.le_of_ble_eq_true rfl)⟩) (q_pV hA hW hS (ci := 12) rfl rO_0) rfl rfl hl.1 rfl (lv_room (Nat.le_of_ble_eq_true rfl)) dX14_pourHand_7 ⟨Nat.le_of_ble_eq_true rfl, Nat.le_of_ble_eq_true rfl⟩) hS (fun r_7 f_7 n_7 H locs hp hW hS => ?_)
  obtain ⟨rfl, rfl, rfl⟩ := hp
  have hW : q_W E (rO E f M (rp r 100 (fun _ => 0))) n H := hW
  refine lv_if_ne (tgt := 19) hx hb dX14_pourHand_10 (by decide) (fun c_10 => ?_) (fun c_10 => False.elim ((fun h9 => absurd h9 (b01_T (b_in_ix hi (by omega)))) c_10))
  refine lv_iload_n hx hb dX14_pourHand_19 rfl (lv_at hl 3 rfl) ?_
  refine lv_iconst (v := 1) hx hb dX14_pourHand_20 (by decide) ?_
  refine lv_sipush (v := 200) hx hb dX14_pourHand_21 (by decide) ?_
  refine q_ci (va_runS (As := [.int x, .int 1, .int 200]) (rest := []) ⟨hx, hb, hml, hown, hts⟩ (kX14_isIn l E (rO E f M (rp r 100 (fun _ => 0))) n x 1 200) (va_cwS 3 hts gX14_pourHand_X14_isIn rfl rfl rfl (by decide +kernel) ⟨(Nat.le_of_ble_eq_true rfl), (Nat.le_of_ble_eq_true rfl)⟩) (q_pS hA hW hS) rfl rfl hl.1 rfl (lv_room (Nat.le_of_ble_eq_true rfl)) dX14_pourHand_24 ⟨Nat.le_of_ble_eq_true rfl, Nat.le_of_ble_eq_true rfl⟩) hS (fun r_24 f_24 n_24 H locs hp hW hS => ?_)
  obtain ⟨rfl, rfl, rfl⟩ := hp
  have hW : q_W E (rO E f M (rp r 100 (fun _ => 0))) n H := hW
  refine lv_if_eq (tgt := 40) hx hb dX14_pourHand_27 (by decide) (fun c_27 => ?_) (fun c_27 => False.elim ((fun h9 => h9 (b01_F (hin))) c_27))
  refine lv_aload_n hx hb dX14_pourHand_40 rfl (lv_at hl 0 rfl) ?_
  refine lv_iconst (v := 2) hx hb dX14_pourHand_41 (by decide) ?_
  refine q_ci (va_runV (As := [.int 2]) (rest := []) ⟨hx, hb, hml, hown, hts⟩ (kX14_no l E (rO E f M (rp r 100 (fun _ => 0))) n M (rp r 100 (fun _ => 0)) 2 rO_K) (cwV 1 hts gX14_pourHand_X14_no rfl rfl rfl (by decide +kernel) ⟨(Nat.le_of_ble_eq_true rfl), (Nat.le_of_ble_eq_true rfl)⟩) (q_pV hA hW hS (ci := 12) rfl rO_0) rfl rfl hl.1 rfl (lv_room (Nat.le_of_ble_eq_true rfl)) dX14_pourHand_42 ⟨Nat.le_of_ble_eq_true rfl, Nat.le_of_ble_eq_true rfl⟩) hS (fun r_42 f_42 n_42 H locs hp hW hS => ?_)
  obtain ⟨rfl, rfl, rfl⟩ := hp
  have hW : q_W E (rO E f M (rp (rp r 100 (fun _ => 0)) 100 (fun _ => 2))) n H := by rw [rO_rO] at hW; exact hW
  rw [rp_d0] at hW
  have hW : q_W E (rO E f M (rp r 100 (fun _ => 2))) n H := hW
  exact q_iret hx hb hr hlocks hW hS ⟨rfl, rfl, rfl⟩ (Nat.le_of_ble_eq_true rfl) (Nat.le_of_ble_eq_true rfl) dX14_pourHand_45

set_option maxHeartbeats 4000000 in
set_option maxRecDepth 100000 in
theorem kX14_pourHand_F (l : Launch) (E : q_E) (f : q_H) (n : Nat) (M : Nat) (r : q_R) (pn : Nat) (x b y : Int32)  (hm : RM E f M r) (hpn9 : (r 120 0) = nI pn) (hpn : pn ≤ 8) (hno : x < 0 ∨ nI pn ≤ x) : Met l yX14_pourHand wsX14_pourHand ({ frames := 2, cells := 0, slots := 0, locals := 43 }) (q_P E [.ref M, .int x, .int b, .int y] f n) (q_Qi E (fun r0 f1 n1 => 0 = r0 ∧ rO E f M (rp r 100 (fun _ => 1)) = f1 ∧ n = n1)) 0 0 (q_ge E) := by
  refine Met.ofW (cc := cX14_pourHand) (maxL := 4) (ret := (some .int)) (by decide) rfl ?_
  intro p e s m args below meth c s₁ B hml hv
  obtain ⟨rfl, hA, hW⟩ := hv
  have hx := B.exec
  have hb := B.bytes
  have hr := B.returns
  have hts := atoms_spec (ws := wsX14_pourHand) B.pre
  have hown : s.vm.findClass RX14 = some m.cls := findClass_of_methodNamed B.named
  have hlocks := B.notSynchronized
  have hS : va_S (q_ge E) s.heap s.heap [] := va_S.rf
  have iX14 : ∀ w ∈ wsX140, w ∈ wsX14_pourHand := by decide +kernel
  have hl := lv_entry ([.ref M, .int x, .int b, .int y]) (n := 4) (Nat.le_of_ble_eq_true rfl)
  rw [lg_entry_eq]
  generalize (lg_sl ([.ref M, .int x, .int b, .int y]) ++ List.replicate (4 - (lg_sl ([.ref M, .int x, .int b, .int y])).length) Slot.unset).toArray = ls at hl ⊢
  have hl : lv_has ls 4 [(0, .ref M), (1, .int x), (2, .int b), (3, .int y)] := hl
  have hmE := hm.eq
  rw [hm.eq] at hW
  refine lv_aload_n hx hb dX14_pourHand_0 rfl (lv_at hl 0 rfl) ?_
  refine lv_iconst (v := 0) hx hb dX14_pourHand_1 (by decide) ?_
  refine q_put hx hb hts hown hA hW hS iX14 tyX14 tyX14_ok nmX14 rO_0 rfl 0 (by decide) (hts (.fieldLink RX14 54 "HighRecipesModel" "thrown" "I") (by decide +kernel)) (fun _ h9 => h9) rfl rfl rfl (Nat.le_of_ble_eq_true rfl) dX14_pourHand_2 (fun H locs hW hS => ?_)
  have hW := q_s0 100 (0) hW rfl (by decide)
  refine lv_aload_n hx hb dX14_pourHand_5 rfl (lv_at hl 0 rfl) ?_
  refine lv_iload_n hx hb dX14_pourHand_6 rfl (lv_at hl 1 rfl) ?_
  refine q_ci (va_runV (As := [.int x]) (rest := []) ⟨hx, hb, hml, hown, hts⟩ (kX14_isPan l E (rO E f M (rp r 100 (fun _ => 0))) n M (rp r 100 (fun _ => 0)) pn x rO_K hpn9) (cwV 1 hts gX14_pourHand_X14_isPan rfl rfl rfl (by decide +kernel) ⟨(Nat.le_of_ble_eq_true rfl), (Nat.le_of_ble_eq_true rfl)⟩) (q_pV hA hW hS (ci := 12) rfl rO_0) rfl rfl hl.1 rfl (lv_room (Nat.le_of_ble_eq_true rfl)) dX14_pourHand_7 ⟨Nat.le_of_ble_eq_true rfl, Nat.le_of_ble_eq_true rfl⟩) hS (fun r_7 f_7 n_7 H locs hp hW hS => ?_)
  obtain ⟨rfl, rfl, rfl⟩ := hp
  have hW : q_W E (rO E f M (rp r 100 (fun _ => 0))) n H := hW
  refine lv_if_ne (tgt := 19) hx hb dX14_pourHand_10 (by decide) (fun c_10 => False.elim ((fun h9 => h9 (b01_F (b_in_no hno (by omega)))) c_10)) (fun c_10 => ?_)
  refine lv_aload_n hx hb dX14_pourHand_13 rfl (lv_at hl 0 rfl) ?_
  refine lv_iconst (v := 1) hx hb dX14_pourHand_14 (by decide) ?_
  refine q_ci (va_runV (As := [.int 1]) (rest := []) ⟨hx, hb, hml, hown, hts⟩ (kX14_no l E (rO E f M (rp r 100 (fun _ => 0))) n M (rp r 100 (fun _ => 0)) 1 rO_K) (cwV 1 hts gX14_pourHand_X14_no rfl rfl rfl (by decide +kernel) ⟨(Nat.le_of_ble_eq_true rfl), (Nat.le_of_ble_eq_true rfl)⟩) (q_pV hA hW hS (ci := 12) rfl rO_0) rfl rfl hl.1 rfl (lv_room (Nat.le_of_ble_eq_true rfl)) dX14_pourHand_15 ⟨Nat.le_of_ble_eq_true rfl, Nat.le_of_ble_eq_true rfl⟩) hS (fun r_15 f_15 n_15 H locs hp hW hS => ?_)
  obtain ⟨rfl, rfl, rfl⟩ := hp
  have hW : q_W E (rO E f M (rp (rp r 100 (fun _ => 0)) 100 (fun _ => 1))) n H := by rw [rO_rO] at hW; exact hW
  rw [rp_d0] at hW
  have hW : q_W E (rO E f M (rp r 100 (fun _ => 1))) n H := hW
  exact q_iret hx hb hr hlocks hW hS ⟨rfl, rfl, rfl⟩ (Nat.le_of_ble_eq_true rfl) (Nat.le_of_ble_eq_true rfl) dX14_pourHand_18

set_option maxHeartbeats 4000000 in
set_option maxRecDepth 100000 in
theorem kX14_pourWater_G (l : Launch) (E : q_E) (f : q_H) (n : Nat) (M : Nat) (r : q_R) (pn i : Nat) (x : Int32)  (hm : RM E f M r) (hpn9 : (r 120 0) = nI pn) (hpn : pn ≤ 8) (hi : i < pn) (hin : b_in x 1 200 = false) : Met l yX14_pourWater wsX14_pourWater ({ frames := 3, cells := 0, slots := 0, locals := 66 }) (q_P E [.ref M, .int (nI i), .int x] f n) (q_Qi E (fun r0 f1 n1 => 0 = r0 ∧ rO E f M (rp r 100 (fun _ => 2)) = f1 ∧ n = n1)) 0 0 (q_ge E) := by
  refine Met.ofW (cc := cX14_pourWater) (maxL := 3) (ret := (some .int)) (by decide) rfl ?_
  intro p e s m args below meth c s₁ B hml hv
  obtain ⟨rfl, hA, hW⟩ := hv
  have hx := B.exec
  have hb := B.bytes
  have hr := B.returns
  have hts := atoms_spec (ws := wsX14_pourWater) B.pre
  have hown : s.vm.findClass RX14 = some m.cls := findClass_of_methodNamed B.named
  have hlocks := B.notSynchronized
  have hS : va_S (q_ge E) s.heap s.heap [] := va_S.rf
  have hl := lv_entry ([.ref M, .int (nI i), .int x]) (n := 3) (Nat.le_of_ble_eq_true rfl)
  rw [lg_entry_eq]
  generalize (lg_sl ([.ref M, .int (nI i), .int x]) ++ List.replicate (3 - (lg_sl ([.ref M, .int (nI i), .int x])).length) Slot.unset).toArray = ls at hl ⊢
  have hl : lv_has ls 3 [(0, .ref M), (1, .int (nI i)), (2, .int x)] := hl
  have hmE := hm.eq
  rw [hm.eq] at hW
  refine lv_aload_n hx hb dX14_pourWater_0 rfl (lv_at hl 0 rfl) ?_
  refine lv_iload_n hx hb dX14_pourWater_1 rfl (lv_at hl 1 rfl) ?_
  refine lv_iconst (v := 0) hx hb dX14_pourWater_2 (by decide) ?_
  refine lv_iload_n hx hb dX14_pourWater_3 rfl (lv_at hl 2 rfl) ?_
  refine q_ci (va_runV (As := [.int (nI i), .int 0, .int x]) (rest := []) ⟨hx, hb, hml, hown, hts⟩ (kX14_pourHand_G l E (rO E f M r) n M r pn i 0 x rO_K hpn9 (by assumption) (by assumption) (by assumption)) (cwV 3 hts gX14_pourWater_X14_pourHand rfl rfl rfl (by decide +kernel) ⟨(Nat.le_of_ble_eq_true rfl), (Nat.le_of_ble_eq_true rfl)⟩) (q_pV hA hW hS (ci := 12) rfl rO_0) rfl rfl hl.1 rfl (lv_room (Nat.le_of_ble_eq_true rfl)) dX14_pourWater_4 ⟨Nat.le_of_ble_eq_true rfl, Nat.le_of_ble_eq_true rfl⟩) hS (fun r_4 f_4 n_4 H locs hp hW hS => ?_)
  obtain ⟨rfl, rfl, rfl⟩ := hp
  have hW : q_W E (rO E f M (rp r 100 (fun _ => 2))) n H := by rw [rO_rO] at hW; exact hW
  have hW : q_W E (rO E f M (rp r 100 (fun _ => 2))) n H := hW
  exact q_iret hx hb hr hlocks hW hS ⟨rfl, rfl, rfl⟩ (Nat.le_of_ble_eq_true rfl) (Nat.le_of_ble_eq_true rfl) dX14_pourWater_7

set_option maxHeartbeats 4000000 in
set_option maxRecDepth 100000 in
theorem kX14_pourWater_F (l : Launch) (E : q_E) (f : q_H) (n : Nat) (M : Nat) (r : q_R) (pn : Nat) (x y : Int32)  (hm : RM E f M r) (hpn9 : (r 120 0) = nI pn) (hpn : pn ≤ 8) (hno : x < 0 ∨ nI pn ≤ x) : Met l yX14_pourWater wsX14_pourWater ({ frames := 3, cells := 0, slots := 0, locals := 66 }) (q_P E [.ref M, .int x, .int y] f n) (q_Qi E (fun r0 f1 n1 => 0 = r0 ∧ rO E f M (rp r 100 (fun _ => 1)) = f1 ∧ n = n1)) 0 0 (q_ge E) := by
  refine Met.ofW (cc := cX14_pourWater) (maxL := 3) (ret := (some .int)) (by decide) rfl ?_
  intro p e s m args below meth c s₁ B hml hv
  obtain ⟨rfl, hA, hW⟩ := hv
  have hx := B.exec
  have hb := B.bytes
  have hr := B.returns
  have hts := atoms_spec (ws := wsX14_pourWater) B.pre
  have hown : s.vm.findClass RX14 = some m.cls := findClass_of_methodNamed B.named
  have hlocks := B.notSynchronized
  have hS : va_S (q_ge E) s.heap s.heap [] := va_S.rf
  have hl := lv_entry ([.ref M, .int x, .int y]) (n := 3) (Nat.le_of_ble_eq_true rfl)
  rw [lg_entry_eq]
  generalize (lg_sl ([.ref M, .int x, .int y]) ++ List.replicate (3 - (lg_sl ([.ref M, .int x, .int y])).length) Slot.unset).toArray = ls at hl ⊢
  have hl : lv_has ls 3 [(0, .ref M), (1, .int x), (2, .int y)] := hl
  have hmE := hm.eq
  rw [hm.eq] at hW
  refine lv_aload_n hx hb dX14_pourWater_0 rfl (lv_at hl 0 rfl) ?_
  refine lv_iload_n hx hb dX14_pourWater_1 rfl (lv_at hl 1 rfl) ?_
  refine lv_iconst (v := 0) hx hb dX14_pourWater_2 (by decide) ?_
  refine lv_iload_n hx hb dX14_pourWater_3 rfl (lv_at hl 2 rfl) ?_
  refine q_ci (va_runV (As := [.int x, .int 0, .int y]) (rest := []) ⟨hx, hb, hml, hown, hts⟩ (kX14_pourHand_F l E (rO E f M r) n M r pn x 0 y rO_K hpn9 (by assumption) (by assumption)) (cwV 3 hts gX14_pourWater_X14_pourHand rfl rfl rfl (by decide +kernel) ⟨(Nat.le_of_ble_eq_true rfl), (Nat.le_of_ble_eq_true rfl)⟩) (q_pV hA hW hS (ci := 12) rfl rO_0) rfl rfl hl.1 rfl (lv_room (Nat.le_of_ble_eq_true rfl)) dX14_pourWater_4 ⟨Nat.le_of_ble_eq_true rfl, Nat.le_of_ble_eq_true rfl⟩) hS (fun r_4 f_4 n_4 H locs hp hW hS => ?_)
  obtain ⟨rfl, rfl, rfl⟩ := hp
  have hW : q_W E (rO E f M (rp r 100 (fun _ => 1))) n H := by rw [rO_rO] at hW; exact hW
  have hW : q_W E (rO E f M (rp r 100 (fun _ => 1))) n H := hW
  exact q_iret hx hb hr hlocks hW hS ⟨rfl, rfl, rfl⟩ (Nat.le_of_ble_eq_true rfl) (Nat.le_of_ble_eq_true rfl) dX14_pourWater_7

set_option maxHeartbeats 4000000 in
set_option maxRecDepth 100000 in
theorem kX14_pourMeal_G (l : Launch) (E : q_E) (f : q_H) (n : Nat) (M : Nat) (r : q_R) (pn i : Nat) (x : Int32)  (hm : RM E f M r) (hpn9 : (r 120 0) = nI pn) (hpn : pn ≤ 8) (hi : i < pn) (hin : b_in x 1 200 = false) : Met l yX14_pourMeal wsX14_pourMeal ({ frames := 3, cells := 0, slots := 0, locals := 66 }) (q_P E [.ref M, .int (nI i), .int x] f n) (q_Qi E (fun r0 f1 n1 => 0 = r0 ∧ rO E f M (rp r 100 (fun _ => 2)) = f1 ∧ n = n1)) 0 0 (q_ge E) := by
  refine Met.ofW (cc := cX14_pourMeal) (maxL := 3) (ret := (some .int)) (by decide) rfl ?_
  intro p e s m args below meth c s₁ B hml hv
  obtain ⟨rfl, hA, hW⟩ := hv
  have hx := B.exec
  have hb := B.bytes
  have hr := B.returns
  have hts := atoms_spec (ws := wsX14_pourMeal) B.pre
  have hown : s.vm.findClass RX14 = some m.cls := findClass_of_methodNamed B.named
  have hlocks := B.notSynchronized
  have hS : va_S (q_ge E) s.heap s.heap [] := va_S.rf
  have hl := lv_entry ([.ref M, .int (nI i), .int x]) (n := 3) (Nat.le_of_ble_eq_true rfl)
  rw [lg_entry_eq]
  generalize (lg_sl ([.ref M, .int (nI i), .int x]) ++ List.replicate (3 - (lg_sl ([.ref M, .int (nI i), .int x])).length) Slot.unset).toArray = ls at hl ⊢
  have hl : lv_has ls 3 [(0, .ref M), (1, .int (nI i)), (2, .int x)] := hl
  have hmE := hm.eq
  rw [hm.eq] at hW
  refine lv_aload_n hx hb dX14_pourMeal_0 rfl (lv_at hl 0 rfl) ?_
  refine lv_iload_n hx hb dX14_pourMeal_1 rfl (lv_at hl 1 rfl) ?_
  refine lv_iconst (v := 1) hx hb dX14_pourMeal_2 (by decide) ?_
  refine lv_iload_n hx hb dX14_pourMeal_3 rfl (lv_at hl 2 rfl) ?_
  refine q_ci (va_runV (As := [.int (nI i), .int 1, .int x]) (rest := []) ⟨hx, hb, hml, hown, hts⟩ (kX14_pourHand_G l E (rO E f M r) n M r pn i 1 x rO_K hpn9 (by assumption) (by assumption) (by assumption)) (cwV 3 hts gX14_pourMeal_X14_pourHand rfl rfl rfl (by decide +kernel) ⟨(Nat.le_of_ble_eq_true rfl), (Nat.le_of_ble_eq_true rfl)⟩) (q_pV hA hW hS (ci := 12) rfl rO_0) rfl rfl hl.1 rfl (lv_room (Nat.le_of_ble_eq_true rfl)) dX14_pourMeal_4 ⟨Nat.le_of_ble_eq_true rfl, Nat.le_of_ble_eq_true rfl⟩) hS (fun r_4 f_4 n_4 H locs hp hW hS => ?_)
  obtain ⟨rfl, rfl, rfl⟩ := hp
  have hW : q_W E (rO E f M (rp r 100 (fun _ => 2))) n H := by rw [rO_rO] at hW; exact hW
  have hW : q_W E (rO E f M (rp r 100 (fun _ => 2))) n H := hW
  exact q_iret hx hb hr hlocks hW hS ⟨rfl, rfl, rfl⟩ (Nat.le_of_ble_eq_true rfl) (Nat.le_of_ble_eq_true rfl) dX14_pourMeal_7

set_option maxHeartbeats 4000000 in
set_option maxRecDepth 100000 in
theorem kX14_pourMeal_F (l : Launch) (E : q_E) (f : q_H) (n : Nat) (M : Nat) (r : q_R) (pn : Nat) (x y : Int32)  (hm : RM E f M r) (hpn9 : (r 120 0) = nI pn) (hpn : pn ≤ 8) (hno : x < 0 ∨ nI pn ≤ x) : Met l yX14_pourMeal wsX14_pourMeal ({ frames := 3, cells := 0, slots := 0, locals := 66 }) (q_P E [.ref M, .int x, .int y] f n) (q_Qi E (fun r0 f1 n1 => 0 = r0 ∧ rO E f M (rp r 100 (fun _ => 1)) = f1 ∧ n = n1)) 0 0 (q_ge E) := by
  refine Met.ofW (cc := cX14_pourMeal) (maxL := 3) (ret := (some .int)) (by decide) rfl ?_
  intro p e s m args below meth c s₁ B hml hv
  obtain ⟨rfl, hA, hW⟩ := hv
  have hx := B.exec
  have hb := B.bytes
  have hr := B.returns
  have hts := atoms_spec (ws := wsX14_pourMeal) B.pre
  have hown : s.vm.findClass RX14 = some m.cls := findClass_of_methodNamed B.named
  have hlocks := B.notSynchronized
  have hS : va_S (q_ge E) s.heap s.heap [] := va_S.rf
  have hl := lv_entry ([.ref M, .int x, .int y]) (n := 3) (Nat.le_of_ble_eq_true rfl)
  rw [lg_entry_eq]
  generalize (lg_sl ([.ref M, .int x, .int y]) ++ List.replicate (3 - (lg_sl ([.ref M, .int x, .int y])).length) Slot.unset).toArray = ls at hl ⊢
  have hl : lv_has ls 3 [(0, .ref M), (1, .int x), (2, .int y)] := hl
  have hmE := hm.eq
  rw [hm.eq] at hW
  refine lv_aload_n hx hb dX14_pourMeal_0 rfl (lv_at hl 0 rfl) ?_
  refine lv_iload_n hx hb dX14_pourMeal_1 rfl (lv_at hl 1 rfl) ?_
  refine lv_iconst (v := 1) hx hb dX14_pourMeal_2 (by decide) ?_
  refine lv_iload_n hx hb dX14_pourMeal_3 rfl (lv_at hl 2 rfl) ?_
  refine q_ci (va_runV (As := [.int x, .int 1, .int y]) (rest := []) ⟨hx, hb, hml, hown, hts⟩ (kX14_pourHand_F l E (rO E f M r) n M r pn x 1 y rO_K hpn9 (by assumption) (by assumption)) (cwV 3 hts gX14_pourMeal_X14_pourHand rfl rfl rfl (by decide +kernel) ⟨(Nat.le_of_ble_eq_true rfl), (Nat.le_of_ble_eq_true rfl)⟩) (q_pV hA hW hS (ci := 12) rfl rO_0) rfl rfl hl.1 rfl (lv_room (Nat.le_of_ble_eq_true rfl)) dX14_pourMeal_4 ⟨Nat.le_of_ble_eq_true rfl, Nat.le_of_ble_eq_true rfl⟩) hS (fun r_4 f_4 n_4 H locs hp hW hS => ?_)
  obtain ⟨rfl, rfl, rfl⟩ := hp
  have hW : q_W E (rO E f M (rp r 100 (fun _ => 1))) n H := by rw [rO_rO] at hW; exact hW
  have hW : q_W E (rO E f M (rp r 100 (fun _ => 1))) n H := hW
  exact q_iret hx hb hr hlocks hW hS ⟨rfl, rfl, rfl⟩ (Nat.le_of_ble_eq_true rfl) (Nat.le_of_ble_eq_true rfl) dX14_pourMeal_7

set_option maxHeartbeats 4000000 in
set_option maxRecDepth 100000 in
theorem kX14_wash (l : Launch) (E : q_E) (f : q_H) (n : Nat) (M : Nat) (r : q_R) (pn i : Nat)  (hm : RM E f M r) (hpn9 : (r 120 0) = nI pn) (hpn : pn ≤ 8) (hi : i < pn) : Met l yX14_wash wsX14_wash ({ frames := 2, cells := 0, slots := 0, locals := 43 }) (q_P E [.ref M, .int (nI i)] f n) (q_Qi E (fun r0 f1 n1 => (r 42) (52 + 4 * i) + (r 42) (53 + 4 * i) = r0 ∧ rO E f M (rp (rp r 100 (fun _ => 0)) 42 (z_pan (r 42) i 0 0 20 0)) = f1 ∧ n = n1)) 0 0 (q_ge E) := by
  refine Met.ofW (cc := cX14_wash) (maxL := 3) (ret := (some .int)) (by decide) rfl ?_
  intro p e s m args below meth c s₁ B hml hv
  obtain ⟨rfl, hA, hW⟩ := hv
  have hx := B.exec
  have hb := B.bytes
  have hr := B.returns
  have hts := atoms_spec (ws := wsX14_wash) B.pre
  have hown : s.vm.findClass RX14 = some m.cls := findClass_of_methodNamed B.named
  have hlocks := B.notSynchronized
  have hS : va_S (q_ge E) s.heap s.heap [] := va_S.rf
  have iX14 : ∀ w ∈ wsX140, w ∈ wsX14_wash := by decide +kernel
  have hl := lv_entry ([.ref M, .int (nI i)]) (n := 3) (Nat.le_of_ble_eq_true rfl)
  rw [lg_entry_eq]
  generalize (lg_sl ([.ref M, .int (nI i)]) ++ List.replicate (3 - (lg_sl ([.ref M, .int (nI i)])).length) Slot.unset).toArray = ls at hl ⊢
  have hl : lv_has ls 3 [(0, .ref M), (1, .int (nI i))] := hl
  have hmE := hm.eq
  rw [hm.eq] at hW
  refine lv_aload_n hx hb dX14_wash_0 rfl (lv_at hl 0 rfl) ?_
  refine lv_iconst (v := 0) hx hb dX14_wash_1 (by decide) ?_
  refine q_put hx hb hts hown hA hW hS iX14 tyX14 tyX14_ok nmX14 rO_0 rfl 0 (by decide) (hts (.fieldLink RX14 54 "HighRecipesModel" "thrown" "I") (by decide +kernel)) (fun _ h9 => h9) rfl rfl rfl (Nat.le_of_ble_eq_true rfl) dX14_wash_2 (fun H locs hW hS => ?_)
  have hW := q_s0 100 (0) hW rfl (by decide)
  refine lv_aload_n hx hb dX14_wash_5 rfl (lv_at hl 0 rfl) ?_
  refine lv_iload_n hx hb dX14_wash_6 rfl (lv_at hl 1 rfl) ?_
  refine q_ci (va_runV (As := [.int (nI i)]) (rest := []) ⟨hx, hb, hml, hown, hts⟩ (kX14_isPan l E (rO E f M (rp r 100 (fun _ => 0))) n M (rp r 100 (fun _ => 0)) pn (nI i) rO_K hpn9) (cwV 1 hts gX14_wash_X14_isPan rfl rfl rfl (by decide +kernel) ⟨(Nat.le_of_ble_eq_true rfl), (Nat.le_of_ble_eq_true rfl)⟩) (q_pV hA hW hS (ci := 12) rfl rO_0) rfl rfl hl.1 rfl (lv_room (Nat.le_of_ble_eq_true rfl)) dX14_wash_7 ⟨Nat.le_of_ble_eq_true rfl, Nat.le_of_ble_eq_true rfl⟩) hS (fun r_7 f_7 n_7 H locs hp hW hS => ?_)
  obtain ⟨rfl, rfl, rfl⟩ := hp
  have hW : q_W E (rO E f M (rp r 100 (fun _ => 0))) n H := hW
  refine lv_if_ne (tgt := 19) hx hb dX14_wash_10 (by decide) (fun c_10 => ?_) (fun c_10 => False.elim ((fun h9 => absurd h9 (b01_T (b_in_ix hi (by omega)))) c_10))
  refine lv_aload_n hx hb dX14_wash_19 rfl (lv_at hl 0 rfl) ?_
  refine lv_iload_n hx hb dX14_wash_20 rfl (lv_at hl 1 rfl) ?_
  refine q_ci (va_runV (As := [.int (nI i)]) (rest := []) ⟨hx, hb, hml, hown, hts⟩ (kX14_inside l E (rO E f M (rp r 100 (fun _ => 0))) n M (rp r 100 (fun _ => 0)) pn i rO_K (by assumption) (by assumption)) (cwV 1 hts gX14_wash_X14_inside rfl rfl rfl (by decide +kernel) ⟨(Nat.le_of_ble_eq_true rfl), (Nat.le_of_ble_eq_true rfl)⟩) (q_pV hA hW hS (ci := 12) rfl rO_0) rfl rfl hl.1 rfl (lv_room (Nat.le_of_ble_eq_true rfl)) dX14_wash_21 ⟨Nat.le_of_ble_eq_true rfl, Nat.le_of_ble_eq_true rfl⟩) hS (fun r_21 f_21 n_21 H locs hp hW hS => ?_)
  obtain ⟨rfl, rfl, rfl⟩ := hp
  rw [show ((rp r 100 (fun _ => 0)) 42) (52 + 4 * i) + ((rp r 100 (fun _ => 0)) 42) (53 + 4 * i) = (r 42) (52 + 4 * i) + (r 42) (53 + 4 * i) from rfl]
  have hW : q_W E (rO E f M (rp r 100 (fun _ => 0))) n H := hW
  refine lv_istore_n (lv' := [(2, .int ((r 42) (52 + 4 * i) + (r 42) (53 + 4 * i))), (0, .ref M), (1, .int (nI i))]) hx hb dX14_wash_24 rfl hl (by decide) rfl (fun ls hl => ?_)
  refine lv_aload_n hx hb dX14_wash_25 rfl (lv_at hl 1 rfl) ?_
  refine lv_iload_n hx hb dX14_wash_26 rfl (lv_at hl 2 rfl) ?_
  refine q_cv (va_runV (As := [.int (nI i)]) (rest := []) ⟨hx, hb, hml, hown, hts⟩ (kX14_bare l E (rO E f M (rp r 100 (fun _ => 0))) n M (rp r 100 (fun _ => 0)) pn i rO_K (by assumption) (by assumption)) (cwV 1 hts gX14_wash_X14_bare rfl rfl rfl (by decide +kernel) ⟨(Nat.le_of_ble_eq_true rfl), (Nat.le_of_ble_eq_true rfl)⟩) (q_pV hA hW hS (ci := 12) rfl rO_0) rfl rfl hl.1 rfl (lv_room (Nat.le_of_ble_eq_true rfl)) dX14_wash_27 ⟨Nat.le_of_ble_eq_true rfl, Nat.le_of_ble_eq_true rfl⟩) hS (fun f_27 n_27 H locs hp hW hS => ?_)
  obtain ⟨rfl, rfl⟩ := hp
  have hW : q_W E (rO E f M (rp (rp r 100 (fun _ => 0)) 42 (z_pan (r 42) i 0 0 20 0))) n H := by rw [rO_rO] at hW; exact hW
  have hW : q_W E (rO E f M (rp (rp r 100 (fun _ => 0)) 42 (z_pan (r 42) i 0 0 20 0))) n H := hW
  refine lv_iload_n hx hb dX14_wash_30 rfl (lv_at hl 0 rfl) ?_
  exact q_iret hx hb hr hlocks hW hS ⟨rfl, rfl, rfl⟩ (Nat.le_of_ble_eq_true rfl) (Nat.le_of_ble_eq_true rfl) dX14_wash_31

set_option maxHeartbeats 4000000 in
set_option maxRecDepth 100000 in
theorem kX14_wash_F (l : Launch) (E : q_E) (f : q_H) (n : Nat) (M : Nat) (r : q_R) (pn : Nat) (x : Int32)  (hm : RM E f M r) (hpn9 : (r 120 0) = nI pn) (hpn : pn ≤ 8) (hno : x < 0 ∨ nI pn ≤ x) : Met l yX14_wash wsX14_wash ({ frames := 2, cells := 0, slots := 0, locals := 43 }) (q_P E [.ref M, .int x] f n) (q_Qi E (fun r0 f1 n1 => 0 = r0 ∧ rO E f M (rp r 100 (fun _ => 1)) = f1 ∧ n = n1)) 0 0 (q_ge E) := by
  refine Met.ofW (cc := cX14_wash) (maxL := 3) (ret := (some .int)) (by decide) rfl ?_
  intro p e s m args below meth c s₁ B hml hv
  obtain ⟨rfl, hA, hW⟩ := hv
  have hx := B.exec
  have hb := B.bytes
  have hr := B.returns
  have hts := atoms_spec (ws := wsX14_wash) B.pre
  have hown : s.vm.findClass RX14 = some m.cls := findClass_of_methodNamed B.named
  have hlocks := B.notSynchronized
  have hS : va_S (q_ge E) s.heap s.heap [] := va_S.rf
  have iX14 : ∀ w ∈ wsX140, w ∈ wsX14_wash := by decide +kernel
  have hl := lv_entry ([.ref M, .int x]) (n := 3) (Nat.le_of_ble_eq_true rfl)
  rw [lg_entry_eq]
  generalize (lg_sl ([.ref M, .int x]) ++ List.replicate (3 - (lg_sl ([.ref M, .int x])).length) Slot.unset).toArray = ls at hl ⊢
  have hl : lv_has ls 3 [(0, .ref M), (1, .int x)] := hl
  have hmE := hm.eq
  rw [hm.eq] at hW
  refine lv_aload_n hx hb dX14_wash_0 rfl (lv_at hl 0 rfl) ?_
  refine lv_iconst (v := 0) hx hb dX14_wash_1 (by decide) ?_
  refine q_put hx hb hts hown hA hW hS iX14 tyX14 tyX14_ok nmX14 rO_0 rfl 0 (by decide) (hts (.fieldLink RX14 54 "HighRecipesModel" "thrown" "I") (by decide +kernel)) (fun _ h9 => h9) rfl rfl rfl (Nat.le_of_ble_eq_true rfl) dX14_wash_2 (fun H locs hW hS => ?_)
  have hW := q_s0 100 (0) hW rfl (by decide)
  refine lv_aload_n hx hb dX14_wash_5 rfl (lv_at hl 0 rfl) ?_
  refine lv_iload_n hx hb dX14_wash_6 rfl (lv_at hl 1 rfl) ?_
  refine q_ci (va_runV (As := [.int x]) (rest := []) ⟨hx, hb, hml, hown, hts⟩ (kX14_isPan l E (rO E f M (rp r 100 (fun _ => 0))) n M (rp r 100 (fun _ => 0)) pn x rO_K hpn9) (cwV 1 hts gX14_wash_X14_isPan rfl rfl rfl (by decide +kernel) ⟨(Nat.le_of_ble_eq_true rfl), (Nat.le_of_ble_eq_true rfl)⟩) (q_pV hA hW hS (ci := 12) rfl rO_0) rfl rfl hl.1 rfl (lv_room (Nat.le_of_ble_eq_true rfl)) dX14_wash_7 ⟨Nat.le_of_ble_eq_true rfl, Nat.le_of_ble_eq_true rfl⟩) hS (fun r_7 f_7 n_7 H locs hp hW hS => ?_)
  obtain ⟨rfl, rfl, rfl⟩ := hp
  have hW : q_W E (rO E f M (rp r 100 (fun _ => 0))) n H := hW
  refine lv_if_ne (tgt := 19) hx hb dX14_wash_10 (by decide) (fun c_10 => False.elim ((fun h9 => h9 (b01_F (b_in_no hno (by omega)))) c_10)) (fun c_10 => ?_)
  refine lv_aload_n hx hb dX14_wash_13 rfl (lv_at hl 0 rfl) ?_
  refine lv_iconst (v := 1) hx hb dX14_wash_14 (by decide) ?_
  refine q_ci (va_runV (As := [.int 1]) (rest := []) ⟨hx, hb, hml, hown, hts⟩ (kX14_no l E (rO E f M (rp r 100 (fun _ => 0))) n M (rp r 100 (fun _ => 0)) 1 rO_K) (cwV 1 hts gX14_wash_X14_no rfl rfl rfl (by decide +kernel) ⟨(Nat.le_of_ble_eq_true rfl), (Nat.le_of_ble_eq_true rfl)⟩) (q_pV hA hW hS (ci := 12) rfl rO_0) rfl rfl hl.1 rfl (lv_room (Nat.le_of_ble_eq_true rfl)) dX14_wash_15 ⟨Nat.le_of_ble_eq_true rfl, Nat.le_of_ble_eq_true rfl⟩) hS (fun r_15 f_15 n_15 H locs hp hW hS => ?_)
  obtain ⟨rfl, rfl, rfl⟩ := hp
  have hW : q_W E (rO E f M (rp (rp r 100 (fun _ => 0)) 100 (fun _ => 1))) n H := by rw [rO_rO] at hW; exact hW
  rw [rp_d0] at hW
  have hW : q_W E (rO E f M (rp r 100 (fun _ => 1))) n H := hW
  exact q_iret hx hb hr hlocks hW hS ⟨rfl, rfl, rfl⟩ (Nat.le_of_ble_eq_true rfl) (Nat.le_of_ble_eq_true rfl) dX14_wash_18

theorem i_add0 (a : Int32) : a + 0 = a := by
  apply Int32.toInt_inj.1
  simp

set_option maxHeartbeats 4000000 in
set_option maxRecDepth 100000 in
theorem kX14_rest (l : Launch) (E : q_E) (f : q_H) (n : Nat) (M : Nat) (r : q_R) (pn : Nat) (x : Int32)  (hm : RM E f M r) (hin : b_in x 1 600 = true) (hpn9 : (r 120 0) = nI pn) (hpn : pn ≤ 8) : Met l yX14_rest wsX14_rest ({ frames := 2, cells := 0, slots := 0, locals := 44 }) (q_P E [.ref M, .int x] f n) (q_Qi E (fun r0 f1 n1 => z_hot (z_pass (r 42) x 8 pn) pn = r0 ∧ rO E f M (rp (rp r 100 (fun _ => 0)) 42 (z_pass (r 42) x 8 pn)) = f1 ∧ n = n1)) 0 0 (q_ge E) := by
  refine Met.ofW (cc := cX14_rest) (maxL := 4) (ret := (some .int)) (by decide) rfl ?_
  intro p e s m args below meth c s₁ B hml hv
  obtain ⟨rfl, hA, hW⟩ := hv
  have hx := B.exec
  have hb := B.bytes
  have hr := B.returns
  have hts := atoms_spec (ws := wsX14_rest) B.pre
  have hown : s.vm.findClass RX14 = some m.cls := findClass_of_methodNamed B.named
  have hlocks := B.notSynchronized
  have hS : va_S (q_ge E) s.heap s.heap [] := va_S.rf
  have iX13 : ∀ w ∈ wsX130, w ∈ wsX14_rest := by decide +kernel
  have iX14 : ∀ w ∈ wsX140, w ∈ wsX14_rest := by decide +kernel
  have hl := lv_entry ([.ref M, .int x]) (n := 4) (Nat.le_of_ble_eq_true rfl)
  rw [lg_entry_eq]
  generalize (lg_sl ([.ref M, .int x]) ++ List.replicate (4 - (lg_sl ([.ref M, .int x])).length) Slot.unset).toArray = ls at hl ⊢
  have hl : lv_has ls 4 [(0, .ref M), (1, .int x)] := hl
  have hmE := hm.eq
  rw [hm.eq] at hW
  refine lv_aload_n hx hb dX14_rest_0 rfl (lv_at hl 0 rfl) ?_
  refine lv_iconst (v := 0) hx hb dX14_rest_1 (by decide) ?_
  refine q_put hx hb hts hown hA hW hS iX14 tyX14 tyX14_ok nmX14 rO_0 rfl 0 (by decide) (hts (.fieldLink RX14 54 "HighRecipesModel" "thrown" "I") (by decide +kernel)) (fun _ h9 => h9) rfl rfl rfl (Nat.le_of_ble_eq_true rfl) dX14_rest_2 (fun H locs hW hS => ?_)
  have hW := q_s0 100 (0) hW rfl (by decide)
  refine lv_iload_n hx hb dX14_rest_5 rfl (lv_at hl 1 rfl) ?_
  refine lv_iconst (v := 1) hx hb dX14_rest_6 (by decide) ?_
  refine lv_sipush (v := 600) hx hb dX14_rest_7 (by decide) ?_
  refine q_ci (va_runS (As := [.int x, .int 1, .int 600]) (rest := []) ⟨hx, hb, hml, hown, hts⟩ (kX14_isIn l E (rO E f M (rp r 100 (fun _ => 0))) n x 1 600) (va_cwS 3 hts gX14_rest_X14_isIn rfl rfl rfl (by decide +kernel) ⟨(Nat.le_of_ble_eq_true rfl), (Nat.le_of_ble_eq_true rfl)⟩) (q_pS hA hW hS) rfl rfl hl.1 rfl (lv_room (Nat.le_of_ble_eq_true rfl)) dX14_rest_10 ⟨Nat.le_of_ble_eq_true rfl, Nat.le_of_ble_eq_true rfl⟩) hS (fun r_10 f_10 n_10 H locs hp hW hS => ?_)
  obtain ⟨rfl, rfl, rfl⟩ := hp
  have hW : q_W E (rO E f M (rp r 100 (fun _ => 0))) n H := hW
  refine lv_if_ne (tgt := 22) hx hb dX14_rest_13 (by decide) (fun c_13 => ?_) (fun c_13 => False.elim ((fun h9 => absurd h9 (b01_T (hin))) c_13))
  refine lv_aload_n hx hb dX14_rest_22 rfl (lv_at hl 0 rfl) ?_
  refine lv_iload_n hx hb dX14_rest_23 rfl (lv_at hl 1 rfl) ?_
  refine lv_iconst (v := (-1)) hx hb dX14_rest_24 (by decide) ?_
  refine q_cv (va_runV (As := [.int x, .int (-1)]) (rest := []) ⟨hx, hb, hml, hown, hts⟩ (kX14_goByN l E (rO E f M (rp r 100 (fun _ => 0))) n M (rp r 100 (fun _ => 0)) pn x rO_K hpn9 (by assumption)) (cwV 2 hts gX14_rest_X14_goBy rfl rfl rfl (by decide +kernel) ⟨(Nat.le_of_ble_eq_true rfl), (Nat.le_of_ble_eq_true rfl)⟩) (q_pV hA hW hS (ci := 12) rfl rO_0) rfl rfl hl.1 rfl (lv_room (Nat.le_of_ble_eq_true rfl)) dX14_rest_25 ⟨Nat.le_of_ble_eq_true rfl, Nat.le_of_ble_eq_true rfl⟩) hS (fun f_25 n_25 H locs hp hW hS => ?_)
  obtain ⟨rfl, rfl⟩ := hp
  have hW : q_W E (rO E f M (rp (rp r 100 (fun _ => 0)) 42 (z_pass (r 42) x 8 pn))) n H := by rw [rO_rO] at hW; exact hW
  have hW : q_W E (rO E f M (rp (rp r 100 (fun _ => 0)) 42 (z_pass (r 42) x 8 pn))) n H := hW
  refine lv_iconst (v := 0) hx hb dX14_rest_28 (by decide) ?_
  refine lv_istore_n (lv' := [(2, .int 0), (0, .ref M), (1, .int x)]) hx hb dX14_rest_29 rfl hl (by decide) rfl (fun ls hl => ?_)
  refine lv_iconst (v := 0) hx hb dX14_rest_30 (by decide) ?_
  refine lv_istore_n (lv' := [(3, .int 0), (2, .int 0), (0, .ref M), (1, .int x)]) hx hb dX14_rest_31 rfl hl (by decide) rfl (fun ls hl => ?_)
  have K32 : ∀ (fu : Nat) (j : Nat) (hj : j ≤ pn) (hm : pn - j < fu) (H : Heap) (locs : List Loc) (ls : Array Slot), q_W E (rO E f M (rp (rp r 100 (fun _ => 0)) 42 (z_pass (r 42) x 8 pn))) n H → va_S (q_ge E) s.heap H locs → lv_has ls 4 [(0, .ref M), (1, .int x), (2, .int (z_hot (z_pass (r 42) x 8 pn) j)), (3, .int (nI j))] → W p l e (headSpec wsX14_rest ({ frames := 2, cells := 0, slots := 0, locals := 44 })).room s m ([.ref M, .int x] : List Value).toArray below meth c H locs 0 0 (MQ below (q_Qi E (fun r0 f1 n1 => z_hot (z_pass (r 42) x 8 pn) pn = r0 ∧ rO E f M (rp (rp r 100 (fun _ => 0)) 42 (z_pass (r 42) x 8 pn)) = f1 ∧ n = n1)) ([.ref M, .int x] : List Value).toArray s 0 0 (q_ge E)) (F0 m 32 ls []) := by
    intro fu
    induction fu with
    | zero =>
      intro j hj hm
      exact absurd hm (Nat.not_lt_zero _)
    | succ fu ih =>
      intro j hj hm H locs ls hW hS hl
      refine lv_iload_n hx hb dX14_rest_32 rfl (lv_at hl 3 rfl) ?_
      refine lv_aload_n hx hb dX14_rest_33 rfl (lv_at hl 0 rfl) ?_
      refine q_get hx hb hts hown hA hW iX14 rO_0 rfl 17 (by decide) (hts (.fieldLink RX14 38 "HighRecipesModel" "told" "LHighRecipesModel$Book;") (by decide +kernel)) (fun _ h9 => h9) (v := .ref (M + 8)) rfl dX14_rest_34 ?_
      refine q_getN hx hb hts hown hA hW iX13 rO_8 rfl 0 (by decide) (va_Nw.use rfl (hA.2.2.2.1 ("HighRecipesModel", 150, "HighRecipesModel$Book", "pans", "I", "HighRecipesModel") (by decide +kernel))) (fun _ h9 => h9) (v := .int (nI pn)) (congrArg (fun z => some (Value.int z)) hpn9) dX14_rest_37 ?_
      refine lv_icmp_ge (tgt := 72) hx hb dX14_rest_40 (by decide) (fun c_40 => ?_) (fun c_40 => ?_)
      · have ej : j = pn := by rcases Nat.lt_or_ge j pn with h9 | h9; exact absurd c_40 (nI_ge h9 (by omega)); omega
        subst ej
        refine lv_iload_n hx hb dX14_rest_72 rfl (lv_at hl 2 rfl) ?_
        exact q_iret hx hb hr hlocks hW hS ⟨rfl, rfl, rfl⟩ (Nat.le_of_ble_eq_true rfl) (Nat.le_of_ble_eq_true rfl) dX14_rest_73
      · have hlt : j < pn := by rcases Nat.lt_or_ge j pn with h9 | h9; exact h9; exact absurd (nI_le h9 (by omega)) c_40
        refine lv_iload_n hx hb dX14_rest_43 rfl (lv_at hl 2 rfl) ?_
        refine lv_aload_n hx hb dX14_rest_44 rfl (lv_at hl 0 rfl) ?_
        refine q_get hx hb hts hown hA hW iX14 rO_0 rfl 19 (by decide) (hts (.fieldLink RX14 45 "HighRecipesModel" "now" "[I") (by decide +kernel)) (fun _ h9 => h9) (v := .ref (M + 42)) rfl dX14_rest_45 ?_
        refine lv_iload_n hx hb dX14_rest_48 rfl (lv_at hl 3 rfl) ?_
        refine lv_iconst (v := 2) hx hb dX14_rest_49 (by decide) ?_
        refine q_ci (va_runS (As := [.int (nI j), .int 2]) (rest := [.ref (M + 42), .int (z_hot (z_pass (r 42) x 8 pn) j)]) ⟨hx, hb, hml, hown, hts⟩ (kX14_of_2 l E (rO E f M (rp (rp r 100 (fun _ => 0)) 42 (z_pass (r 42) x 8 pn))) n j) (va_cwS 2 hts gX14_rest_X14_of rfl rfl rfl (by decide +kernel) ⟨(Nat.le_of_ble_eq_true rfl), (Nat.le_of_ble_eq_true rfl)⟩) (q_pS hA hW hS) rfl rfl hl.1 rfl (lv_room (Nat.le_of_ble_eq_true rfl)) dX14_rest_50 ⟨Nat.le_of_ble_eq_true rfl, Nat.le_of_ble_eq_true rfl⟩) hS (fun r_50 f_50 n_50 H locs hp hW hS => ?_)
        obtain ⟨rfl, rfl, rfl⟩ := hp
        have hW : q_W E (rO E f M (rp (rp r 100 (fun _ => 0)) 42 (z_pass (r 42) x 8 pn))) n H := hW
        refine q_ald hx hb hA hW (rO_42 (g := z_pass (r 42) x 8 pn) rfl) (54 + 4 * j) rfl (by omega) (by decide) (x := (z_pass (r 42) x 8 pn) (54 + 4 * j)) rfl dX14_rest_53 ?_
        refine lv_bipush (v := 20) hx hb dX14_rest_54 (by decide) ?_
        refine lv_icmp_le (tgt := 63) hx hb dX14_rest_56 (by decide) (fun c_56 => ?_) (fun c_56 => ?_)
        · refine lv_iconst (v := 0) hx hb dX14_rest_63 (by decide) ?_
          refine lv_iadd hx hb dX14_rest_64 ?_
          rw [show z_hot (z_pass (r 42) x 8 pn) j + 0 = z_hot (z_pass (r 42) x 8 pn) (j + 1) from by rw [i_add0]; show _ = if 20 < (z_pass (r 42) x 8 pn) (54 + 4 * j) then z_hot (z_pass (r 42) x 8 pn) j + 1 else z_hot (z_pass (r 42) x 8 pn) j; rw [if_neg (Int32.not_lt.mpr c_56)]]
          refine lv_istore_n (lv' := [(2, .int (z_hot (z_pass (r 42) x 8 pn) (j + 1))), (0, .ref M), (1, .int x), (3, .int (nI j))]) hx hb dX14_rest_65 rfl hl (by decide) rfl (fun ls hl => ?_)
          refine lv_iinc (v := nI (j + 1)) (lv' := [(3, .int (nI (j + 1))), (2, .int (z_hot (z_pass (r 42) x 8 pn) (j + 1))), (0, .ref M), (1, .int x)]) hx hb dX14_rest_66 hl (k := 3) rfl (nI_1 j) (by decide) rfl (fun ls hl => ?_)
          refine lv_goto (tgt := 32) hx hb dX14_rest_69 (by decide) ?_
          exact ih (j + 1) hlt (by omega) _ _ _ hW hS (lv_sub hl [2, 3, 1, 0] rfl)
        · refine lv_iconst (v := 1) hx hb dX14_rest_59 (by decide) ?_
          refine lv_goto (tgt := 64) hx hb dX14_rest_60 (by decide) ?_
          refine lv_iadd hx hb dX14_rest_64 ?_
          rw [show z_hot (z_pass (r 42) x 8 pn) j + 1 = z_hot (z_pass (r 42) x 8 pn) (j + 1) from by show _ = if 20 < (z_pass (r 42) x 8 pn) (54 + 4 * j) then z_hot (z_pass (r 42) x 8 pn) j + 1 else z_hot (z_pass (r 42) x 8 pn) j; rw [if_pos (Int32.not_le.mp c_56)]]
          refine lv_istore_n (lv' := [(2, .int (z_hot (z_pass (r 42) x 8 pn) (j + 1))), (0, .ref M), (1, .int x), (3, .int (nI j))]) hx hb dX14_rest_65 rfl hl (by decide) rfl (fun ls hl => ?_)
          refine lv_iinc (v := nI (j + 1)) (lv' := [(3, .int (nI (j + 1))), (2, .int (z_hot (z_pass (r 42) x 8 pn) (j + 1))), (0, .ref M), (1, .int x)]) hx hb dX14_rest_66 hl (k := 3) rfl (nI_1 j) (by decide) rfl (fun ls hl => ?_)
          refine lv_goto (tgt := 32) hx hb dX14_rest_69 (by decide) ?_
          exact ih (j + 1) hlt (by omega) _ _ _ hW hS (lv_sub hl [2, 3, 1, 0] rfl)
  exact K32 _ 0 (Nat.zero_le _) (Nat.lt_succ_self _) _ _ _ hW hS (lv_sub hl [2, 3, 1, 0] rfl)

set_option maxHeartbeats 4000000 in
set_option maxRecDepth 100000 in
theorem kX14_rest_F (l : Launch) (E : q_E) (f : q_H) (n : Nat) (M : Nat) (r : q_R) (x : Int32)  (hm : RM E f M r) (hin : b_in x 1 600 = false) : Met l yX14_rest wsX14_rest ({ frames := 1, cells := 0, slots := 0, locals := 22 }) (q_P E [.ref M, .int x] f n) (q_Qi E (fun r0 f1 n1 => 0 = r0 ∧ rO E f M (rp r 100 (fun _ => 1)) = f1 ∧ n = n1)) 0 0 (q_ge E) := by
  refine Met.ofW (cc := cX14_rest) (maxL := 4) (ret := (some .int)) (by decide) rfl ?_
  intro p e s m args below meth c s₁ B hml hv
  obtain ⟨rfl, hA, hW⟩ := hv
  have hx := B.exec
  have hb := B.bytes
  have hr := B.returns
  have hts := atoms_spec (ws := wsX14_rest) B.pre
  have hown : s.vm.findClass RX14 = some m.cls := findClass_of_methodNamed B.named
  have hlocks := B.notSynchronized
  have hS : va_S (q_ge E) s.heap s.heap [] := va_S.rf
  have iX14 : ∀ w ∈ wsX140, w ∈ wsX14_rest := by decide +kernel
  have hl := lv_entry ([.ref M, .int x]) (n := 4) (Nat.le_of_ble_eq_true rfl)
  rw [lg_entry_eq]
  generalize (lg_sl ([.ref M, .int x]) ++ List.replicate (4 - (lg_sl ([.ref M, .int x])).length) Slot.unset).toArray = ls at hl ⊢
  have hl : lv_has ls 4 [(0, .ref M), (1, .int x)] := hl
  have hmE := hm.eq
  rw [hm.eq] at hW
  refine lv_aload_n hx hb dX14_rest_0 rfl (lv_at hl 0 rfl) ?_
  refine lv_iconst (v := 0) hx hb dX14_rest_1 (by decide) ?_
  refine q_put hx hb hts hown hA hW hS iX14 tyX14 tyX14_ok nmX14 rO_0 rfl 0 (by decide) (hts (.fieldLink RX14 54 "HighRecipesModel" "thrown" "I") (by decide +kernel)) (fun _ h9 => h9) rfl rfl rfl (Nat.le_of_ble_eq_true rfl) dX14_rest_2 (fun H locs hW hS => ?_)
  have hW := q_s0 100 (0) hW rfl (by decide)
  refine lv_iload_n hx hb dX14_rest_5 rfl (lv_at hl 1 rfl) ?_
  refine lv_iconst (v := 1) hx hb dX14_rest_6 (by decide) ?_
  refine lv_sipush (v := 600) hx hb dX14_rest_7 (by decide) ?_
  refine q_ci (va_runS (As := [.int x, .int 1, .int 600]) (rest := []) ⟨hx, hb, hml, hown, hts⟩ (kX14_isIn l E (rO E f M (rp r 100 (fun _ => 0))) n x 1 600) (va_cwS 3 hts gX14_rest_X14_isIn rfl rfl rfl (by decide +kernel) ⟨(Nat.le_of_ble_eq_true rfl), (Nat.le_of_ble_eq_true rfl)⟩) (q_pS hA hW hS) rfl rfl hl.1 rfl (lv_room (Nat.le_of_ble_eq_true rfl)) dX14_rest_10 ⟨Nat.le_of_ble_eq_true rfl, Nat.le_of_ble_eq_true rfl⟩) hS (fun r_10 f_10 n_10 H locs hp hW hS => ?_)
  obtain ⟨rfl, rfl, rfl⟩ := hp
  have hW : q_W E (rO E f M (rp r 100 (fun _ => 0))) n H := hW
  refine lv_if_ne (tgt := 22) hx hb dX14_rest_13 (by decide) (fun c_13 => False.elim ((fun h9 => h9 (b01_F (hin))) c_13)) (fun c_13 => ?_)
  refine lv_aload_n hx hb dX14_rest_16 rfl (lv_at hl 0 rfl) ?_
  refine lv_iconst (v := 1) hx hb dX14_rest_17 (by decide) ?_
  refine q_ci (va_runV (As := [.int 1]) (rest := []) ⟨hx, hb, hml, hown, hts⟩ (kX14_no l E (rO E f M (rp r 100 (fun _ => 0))) n M (rp r 100 (fun _ => 0)) 1 rO_K) (cwV 1 hts gX14_rest_X14_no rfl rfl rfl (by decide +kernel) ⟨(Nat.le_of_ble_eq_true rfl), (Nat.le_of_ble_eq_true rfl)⟩) (q_pV hA hW hS (ci := 12) rfl rO_0) rfl rfl hl.1 rfl (lv_room (Nat.le_of_ble_eq_true rfl)) dX14_rest_18 ⟨Nat.le_of_ble_eq_true rfl, Nat.le_of_ble_eq_true rfl⟩) hS (fun r_18 f_18 n_18 H locs hp hW hS => ?_)
  obtain ⟨rfl, rfl, rfl⟩ := hp
  have hW : q_W E (rO E f M (rp (rp r 100 (fun _ => 0)) 100 (fun _ => 1))) n H := by rw [rO_rO] at hW; exact hW
  rw [rp_d0] at hW
  have hW : q_W E (rO E f M (rp r 100 (fun _ => 1))) n H := hW
  exact q_iret hx hb hr hlocks hW hS ⟨rfl, rfl, rfl⟩ (Nat.le_of_ble_eq_true rfl) (Nat.le_of_ble_eq_true rfl) dX14_rest_21
