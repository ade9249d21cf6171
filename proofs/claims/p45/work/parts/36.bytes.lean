/-! texts: rows of bytes; copies of rows of bytes -/
def tx (W : List Int32) : Nat → Int32 := fun j => W.getD j 0
def okb (W : List Int32) : Prop := ∀ c ∈ W, ∃ k, c = nI k ∧ k < 128
theorem okb_nil : okb [] := fun c h => absurd h List.not_mem_nil
theorem okb_app {W V : List Int32} (h1 : okb W) (h2 : okb V) : okb (W ++ V) := fun c h => (List.mem_append.mp h).elim (h1 c) (h2 c)
theorem okb_one {k : Nat} (h : k < 128) : okb [nI k] := fun c hc => ⟨k, List.mem_singleton.mp hc, h⟩
theorem tx_get {W : List Int32} {j : Nat} (h : j < W.length) : tx W j = W[j] := by
  unfold tx
  rw [List.getD_eq_getElem?_getD, List.getElem?_eq_getElem h]
  rfl
theorem tx_out {W : List Int32} {j : Nat} (h : W.length ≤ j) : tx W j = 0 := by
  unfold tx
  rw [List.getD_eq_getElem?_getD, List.getElem?_eq_none h]
  rfl
theorem tx_l {W V : List Int32} {j : Nat} (h : j < W.length) : tx (W ++ V) j = tx W j := by
  unfold tx
  rw [List.getD_eq_getElem?_getD, List.getD_eq_getElem?_getD, List.getElem?_append_left h]
theorem tx_r {W V : List Int32} {j : Nat} (h : W.length ≤ j) : tx (W ++ V) j = tx V (j - W.length) := by
  unfold tx
  rw [List.getD_eq_getElem?_getD, List.getD_eq_getElem?_getD, List.getElem?_append_right h]
theorem okb_tx {W : List Int32} (h : okb W) (j : Nat) : ∃ k, tx W j = nI k ∧ k < 128 := by
  rcases Nat.lt_or_ge j W.length with h1 | h1
  · rw [tx_get h1]
    exact h _ (List.getElem_mem h1)
  · exact ⟨0, tx_out h1, by decide⟩
theorem b_i8 : ∀ k, k < 128 → (nI k).toInt8.toInt32 = nI k := by decide +kernel
theorem okb_i8 {W : List Int32} (h : okb W) (j : Nat) : (tx W j).toInt8.toInt32 = tx W j := by
  obtain ⟨k, e, hk⟩ := okb_tx h j
  rw [e]
  exact b_i8 k hk
theorem okb_fit {W : List Int32} (h : okb W) (j : Nat) : fits .byte (.int (tx W j)) = true := by
  rw [← okb_i8 h j]
  exact pk_fb _
/-- one more byte -/
theorem tx_put {W : List Int32} {c : Int32} : upd (tx W) W.length c = tx (W ++ [c]) := by
  funext j
  unfold upd
  by_cases e : j = W.length
  · subst e
    rw [if_pos rfl, tx_r (Nat.le_refl _), Nat.sub_self]
    rfl
  · rw [if_neg e]
    rcases Nat.lt_or_ge j W.length with h | h
    · rw [tx_l h]
    · rw [tx_out h, tx_r h, tx_out (by show 1 ≤ _; omega)]
theorem tx_cat {W V : List Int32} {m : Nat} (hm : m = V.length) {g : Nat → Int32} (hg : ∀ j, j < m → g j = tx V j) : va_cpy g (tx W) 0 W.length m = tx (W ++ V) := by
  subst hm
  funext j
  rcases Nat.lt_or_ge j W.length with h | h
  · rw [pk_cpy_out (by omega), tx_l h]
  · rw [tx_r h]
    rcases Nat.lt_or_ge j (W.length + V.length) with h2 | h2
    · rw [pk_cpy_in h h2, show 0 + (j - W.length) = j - W.length by omega]
      exact hg _ (by omega)
    · rw [pk_cpy_out (by omega), tx_out h, tx_out (by omega)]
theorem tx_cpy {W : List Int32} {m : Nat} (hm : W.length ≤ m) : va_cpy (tx W) (fun _ => 0) 0 0 m = tx W := by
  funext j
  rcases Nat.lt_or_ge j m with h | h
  · rw [pk_cpy_in (Nat.zero_le _) (by omega), show 0 + (j - 0) = j by omega]
  · rw [pk_cpy_out (by omega), tx_out (by omega)]
theorem nI_dn (a : Nat) : nI (a + 1) + Int32.ofInt (-1) = nI a := by
  rw [show Int32.ofInt (-1) = (-1 : Int32) from by decide, ← Int32.sub_eq_add_neg]
  exact nI_pred a
section QB
variable {p : Program} {l : Launch} {e : Env} {R : Room} {s : State} {m : MethodId} {args : Array Value} {below : List Frame} {meth : Method} {c : Code} {H : Heap} {locs : List Loc} {cells slots : Nat} {Q : State → Prop}
variable {own : String} {cc : ByteArray} {pc : Nat} {ls : Array Slot} {rest : List Value} {E : q_E} {f : q_H} {n a : Nat}
theorem q_nn {z : Int32} (hz : ¬ z < 0) : z.toInt = (z.toNatClampNeg : Int) := by
  have hz0 : (0 : Int) ≤ z.toInt := by
    have := Int32.not_lt.mp hz
    simpa using Int32.le_iff_toInt_le.mp this
  show z.toInt = ((z.toInt.toNat : Nat) : Int)
  omega
theorem q_copyb (hx : p.tables.exec = Jvm.exec) (hb : c.code = cc) (hml : c.maxLocals = ls.size) {index : Nat} (hown : s.vm.findClass own = some m.cls) (hlink : (Cond.methodLink own index arraycopyName).before args s = true) (hnat : (Cond.native arraycopyName).before args s = true) (hstat : (Cond.static arraycopyName).before args s = true) (hini : (Cond.initialized "java/lang/System").before args s = true)
    (hA : q_A E s) (hW : q_W E f n H) (hS : va_S (q_ge E) s.heap H locs) {a0 n0 n1 : Nat} {f0 g : Nat → Int32} (ha0 : f a0 = some (.inl (E.2.1 2, n0, .inl f0))) (ha1 : f a = some (.inl (E.2.1 2, n1, .inl g)))
    {sp dp k : Int32} (h1 : ¬ sp < 0) (h2 : ¬ dp < 0) (h3 : ¬ k < 0) (h4 : sp.toNatClampNeg + k.toNatClampNeg ≤ n0) (h5 : dp.toNatClampNeg + k.toNatClampNeg ≤ n1) (hfit : ∀ i, i < k.toNatClampNeg → fits .byte (.int (f0 (sp.toNatClampNeg + i))) = true)
    (hframes : 1 ≤ R.frames) (hlocals : (rest.map fun v => v.category).sum + (nativeFrameWords "java/lang/System" "arraycopy" 5 + 11) ≤ R.locals) (hdg : decode cc pc = .ok (.invokestatic index, 3))
    (kk : ∀ (H1 : Heap) (locs1 : List Loc), q_W E (va_up f a (some (.inl (E.2.1 2, n1, .inl (va_cpy f0 g sp.toNatClampNeg dp.toNatClampNeg k.toNatClampNeg))))) n H1 → va_S (q_ge E) s.heap H1 locs1 → W p l e R s m args below meth c H1 locs1 cells slots Q (F0 m (pc + 3) ls rest)) : W p l e R s m args below meth c H locs cells slots Q (F0 m pc ls (.int k :: .int dp :: .ref a :: .int sp :: .ref a0 :: rest)) := by
  intro T hT X
  have hc0 : H[a0]? = some (vp_cell (E.2.1 2) (n0, .inl f0)) := (hW.2.2 a0 _ ha0).2
  have hc1 : H[a]? = some (vp_cell (E.2.1 2) (n1, .inl g)) := (hW.2.2 a _ ha1).2
  obtain ⟨-, k0, hk0, cm0, hkk0⟩ := (hA.1.2 2 _ rfl).1 n0 (fun j => .int (f0 j))
  obtain ⟨-, k1, hk1, cm1, hkk1⟩ := (hA.1.2 2 _ rfl).1 n1 (fun j => .int (g j))
  obtain ⟨vm', X', step⟩ := X.arraycopy hx hown hlink hnat hstat hini (src := a0) (dst := a) (cs := vp_cell (E.2.1 2) (n0, .inl f0)) (cd := vp_cell (E.2.1 2) (n1, .inl g)) (srcPos := sp) (destPos := dp) (n := k) (by rw [hT]; exact hc0) (by rw [hT]; exact hc1)
    (fun _ h => by cases h) (fun _ h => by cases h) (fun h => by cases h) (fun h => by cases h) hk0 hk1 hkk0 hkk1 (by simp [refKind]) h1 h2 h3
    (by rw [q_nn h1, q_nn h3]; show ¬ _ > ((arrV (E.2.1 2) n0 (fun j => .int (f0 j))).slots.size : Int); rw [arrV_size]; omega)
    (by rw [q_nn h2, q_nn h3]; show ¬ _ > ((arrV (E.2.1 2) n1 (fun j => .int (g j))).slots.size : Int); rw [arrV_size]; omega)
    (fun vm₁ _ i hi => by
      have e : (vp_cell (E.2.1 2) (n0, .inl f0)).slots.getD (sp.toNatClampNeg + i) .null = .int (f0 (sp.toNatClampNeg + i)) := by
        show (arrV (E.2.1 2) n0 (fun j => .int (f0 j))).slots.getD _ _ = _
        rw [Array.getD_eq_getD_getElem?, arrV_read _ _ (by omega)]
        rfl
      refine ⟨?_, ?_⟩
      · rw [e]
        exact hfit i hi
      · rw [e]
        exact trivial)
    (g := F0 m pc ls (.int k :: .int dp :: .ref a :: .int sp :: .ref a0 :: rest)) rfl (by rw [hml]) (rest := rest) rfl (by rw [hb]; exact hdg) hframes (by show 2 * 0 + _ + _ ≤ _; omega)
  have e1 : copied (vp_cell (E.2.1 2) (n0, .inl f0)) (vp_cell (E.2.1 2) (n1, .inl g)) sp dp k = vp_cell (E.2.1 2) (n1, .inl (va_cpy f0 g sp.toNatClampNeg dp.toNatClampNeg k.toNatClampNeg)) := va_copied (fun z => .int z) (E.2.1 2) (E.2.1 2) f0 g h4
  rw [e1] at X' step
  have hl : a < H.size := (Array.getElem?_eq_some_iff.mp hc1).1
  have hheap : ((T.setVm vm').setCell a (vp_cell (E.2.1 2) (n1, .inl (va_cpy f0 g sp.toNatClampNeg dp.toNatClampNeg k.toNatClampNeg)))).heap = H.setIfInBounds a (vp_cell (E.2.1 2) (n1, .inl (va_cpy f0 g sp.toNatClampNeg dp.toNatClampNeg k.toNatClampNeg))) := by rw [← hT]; rfl
  have oq : ∀ q : Nat, q ≠ a → (H.setIfInBounds a (vp_cell (E.2.1 2) (n1, .inl (va_cpy f0 g sp.toNatClampNeg dp.toNatClampNeg k.toNatClampNeg))))[q]? = H[q]? := fun q hq => by simp [Array.getElem?_setIfInBounds, Ne.symm hq]
  obtain ⟨t, a1, b1⟩ := kk _ _ (hW.set ha1 (show (H.setIfInBounds a _)[a]? = some _ by simp [Array.getElem?_setIfInBounds, hl]) (by simp) oq) ⟨by simp; exact hS.1, fun q g1 g2 => by
      rw [oq q (fun e => g2 (by rw [e]; exact hW.ge ha1))]
      exact hS.2.1 q g1 g2, fun q hq => by
      rcases List.mem_append.mp hq with h | h
      · exact hS.2.2 q h
      · obtain ⟨z, -, hz⟩ := List.mem_map.mp h
        rw [← hz]
        exact hW.ge ha1⟩ _ hheap X'
  exact ⟨t, step t a1, b1⟩
theorem q_copyt (hx : p.tables.exec = Jvm.exec) (hb : c.code = cc) (hml : c.maxLocals = ls.size) {index : Nat} (hown : s.vm.findClass own = some m.cls) (hlink : (Cond.methodLink own index arraycopyName).before args s = true) (hnat : (Cond.native arraycopyName).before args s = true) (hstat : (Cond.static arraycopyName).before args s = true) (hini : (Cond.initialized "java/lang/System").before args s = true)
    (hA : q_A E s) (hW : q_W E f n H) (hS : va_S (q_ge E) s.heap H locs) {b0 n0 n1 : Nat} {f0 g : Nat → Int32} (hX : va_T .byte b0 n0 (fun j => .int (f0 j)) (q_ge E) s s.heap) (ha1 : f a = some (.inl (E.2.1 2, n1, .inl g)))
    {sp dp k : Int32} (h1 : ¬ sp < 0) (h2 : ¬ dp < 0) (h3 : ¬ k < 0) (h4 : sp.toNatClampNeg + k.toNatClampNeg ≤ n0) (h5 : dp.toNatClampNeg + k.toNatClampNeg ≤ n1) (hfit : ∀ i, i < k.toNatClampNeg → fits .byte (.int (f0 (sp.toNatClampNeg + i))) = true)
    (hframes : 1 ≤ R.frames) (hlocals : (rest.map fun v => v.category).sum + (nativeFrameWords "java/lang/System" "arraycopy" 5 + 11) ≤ R.locals) (hdg : decode cc pc = .ok (.invokestatic index, 3))
    (kk : ∀ (H1 : Heap) (locs1 : List Loc), q_W E (va_up f a (some (.inl (E.2.1 2, n1, .inl (va_cpy f0 g sp.toNatClampNeg dp.toNatClampNeg k.toNatClampNeg))))) n H1 → va_S (q_ge E) s.heap H1 locs1 → W p l e R s m args below meth c H1 locs1 cells slots Q (F0 m (pc + 3) ls rest)) : W p l e R s m args below meth c H locs cells slots Q (F0 m pc ls (.int k :: .int dp :: .ref a :: .int sp :: .ref b0 :: rest)) := by
  intro T hT X
  obtain ⟨scr, hs1, hs2, hs3, hs4, -, hs5, hs7⟩ := hX
  have hc0 : H[b0]? = some scr := by rw [hS.2.1 b0 (Array.getElem?_eq_some_iff.mp hs1).1 hs7]; exact hs1
  have hc1 : H[a]? = some (vp_cell (E.2.1 2) (n1, .inl g)) := (hW.2.2 a _ ha1).2
  obtain ⟨hs6, k0, hk0, cm0, hkk0⟩ := hs2
  obtain ⟨-, k1, hk1, cm1, hkk1⟩ := (hA.1.2 2 _ rfl).1 n1 (fun j => .int (g j))
  obtain ⟨vm', X', step⟩ := X.arraycopy hx hown hlink hnat hstat hini (src := b0) (dst := a) (cs := scr) (cd := vp_cell (E.2.1 2) (n1, .inl g)) (srcPos := sp) (destPos := dp) (n := k) (by rw [hT]; exact hc0) (by rw [hT]; exact hc1)
    hs6 (fun _ h => by cases h) hs3 (fun h => by cases h) hk0 hk1 hkk0 hkk1 (by simp [refKind]) h1 h2 h3
    (by rw [q_nn h1, q_nn h3]; omega)
    (by rw [q_nn h2, q_nn h3]; show ¬ _ > ((arrV (E.2.1 2) n1 (fun j => .int (g j))).slots.size : Int); rw [arrV_size]; omega)
    (fun vm₁ _ i hi => by
      have e : scr.slots.getD (sp.toNatClampNeg + i) .null = .int (f0 (sp.toNatClampNeg + i)) := by
        rw [Array.getD_eq_getD_getElem?, hs5 _ (by omega)]
        rfl
      refine ⟨?_, ?_⟩
      · rw [e]
        exact hfit i hi
      · rw [e]
        exact trivial)
    (g := F0 m pc ls (.int k :: .int dp :: .ref a :: .int sp :: .ref b0 :: rest)) rfl (by rw [hml]) (rest := rest) rfl (by rw [hb]; exact hdg) hframes (by show 2 * 0 + _ + _ ≤ _; omega)
  have e1 : copied scr (vp_cell (E.2.1 2) (n1, .inl g)) sp dp k = vp_cell (E.2.1 2) (n1, .inl (va_cpy f0 g sp.toNatClampNeg dp.toNatClampNeg k.toNatClampNeg)) := va_copiedX (fun z => .int z) scr (E.2.1 2) f0 g hs5 h4
  rw [e1] at X' step
  have hl : a < H.size := (Array.getElem?_eq_some_iff.mp hc1).1
  have hheap : ((T.setVm vm').setCell a (vp_cell (E.2.1 2) (n1, .inl (va_cpy f0 g sp.toNatClampNeg dp.toNatClampNeg k.toNatClampNeg)))).heap = H.setIfInBounds a (vp_cell (E.2.1 2) (n1, .inl (va_cpy f0 g sp.toNatClampNeg dp.toNatClampNeg k.toNatClampNeg))) := by rw [← hT]; rfl
  have oq : ∀ q : Nat, q ≠ a → (H.setIfInBounds a (vp_cell (E.2.1 2) (n1, .inl (va_cpy f0 g sp.toNatClampNeg dp.toNatClampNeg k.toNatClampNeg))))[q]? = H[q]? := fun q hq => by simp [Array.getElem?_setIfInBounds, Ne.symm hq]
  obtain ⟨t, a1, b1⟩ := kk _ _ (hW.set ha1 (show (H.setIfInBounds a _)[a]? = some _ by simp [Array.getElem?_setIfInBounds, hl]) (by simp) oq) ⟨by simp; exact hS.1, fun q g1 g2 => by
      rw [oq q (fun e => g2 (by rw [e]; exact hW.ge ha1))]
      exact hS.2.1 q g1 g2, fun q hq => by
      rcases List.mem_append.mp hq with h | h
      · exact hS.2.2 q h
      · obtain ⟨z, -, hz⟩ := List.mem_map.mp h
        rw [← hz]
        exact hW.ge ha1⟩ _ hheap X'
  exact ⟨t, step t a1, b1⟩
theorem q_cloneb (hx : p.tables.exec = Jvm.exec) (hb : c.code = cc) (hml : c.maxLocals = ls.size) {index : Nat} (hown : s.vm.findClass own = some m.cls)
    (hlink : (Cond.methodLink own index ⟨"[B", "clone", "()Ljava/lang/Object;"⟩).before args s = true) (hsame : (Cond.sameMethod "[B" "java/lang/Object" "clone" "()Ljava/lang/Object;").before args s = true)
    (hnat : (Cond.native ⟨"java/lang/Object", "clone", "()Ljava/lang/Object;"⟩).before args s = true) (hinst : (Cond.instanceMethod ⟨"java/lang/Object", "clone", "()Ljava/lang/Object;"⟩).before args s = true)
    (hsel : (Cond.selects "[B" ⟨"[B", "clone", "()Ljava/lang/Object;"⟩ ⟨"java/lang/Object", "clone", "()Ljava/lang/Object;"⟩).before args s = true) (hcl : va_Nw (.castable "[B" "java/lang/Cloneable") s)
    (hA : q_A E s) (hW : q_W E f n H) (hS : va_S (q_ge E) s.heap H locs) {N : Nat} {g : Nat → Int32} (ha : f a = some (.inl (E.2.1 2, N, .inl g))) (hfit : ∀ i, fits .byte (.int (g i)) = true)
    (hframes : 1 ≤ R.frames) (hlocals : (rest.map fun v => v.category).sum + 14 ≤ R.locals) (hcells : cells + 1 ≤ R.cells) (hslots : slots + N ≤ R.slots) (hdg : decode cc pc = .ok (.invokevirtual index, 3))
    (kk : ∀ (H1 : Heap), q_W E (va_up f n (some (.inl (E.2.1 2, N, .inl g)))) (n + 1) H1 → va_S (q_ge E) s.heap H1 locs → W p l e R s m args below meth c H1 locs (cells + 1) (slots + N) Q (F0 m (pc + 3) ls (.ref n :: rest))) : W p l e R s m args below meth c H locs cells slots Q (F0 m pc ls (.ref a :: rest)) := by
  have hc1 : H[a]? = some (vp_cell (E.2.1 2) (N, .inl g)) := (hW.2.2 a _ ha).2
  have hsz : (vp_cell (E.2.1 2) (N, .inl g)).slots.size = N := arrV_size _ _ _
  have hnm : s.vm.findClass "[B" = some (E.2.1 2) := (hA.1.2 2 _ rfl).2
  obtain ⟨c0, t0', f1, f2, f3⟩ := Cond.castable_spec (va_Nw.use (A := args) rfl hcl)
  cases hnm.symm.trans f1
  intro T hT X
  have hcellT : T.heap[a]? = some (vp_cell (E.2.1 2) (N, .inl g)) := by rw [hT]; exact hc1
  obtain ⟨-, kA, hkA, comp, hkind⟩ := State.isArrayOf_alike X.warmed.alike ((hA.1.2 2 _ rfl).1 0 (fun _ => .null))
  obtain ⟨-, kS, hkS, compS, hkindS⟩ := (hA.1.2 2 _ rfl).1 0 (fun _ => .null)
  obtain ⟨vm', X', st⟩ := X.cloneArray hx hown hlink hsame hnat hinst hsel (a := a) (cell := vp_cell (E.2.1 2) (N, .inl g)) hcellT (fun k h => by cases h) (fun h => by cases h) hnm f2 f3
    (fun i v hv => by
      have hk' : T.vm.classes[E.2.1 2]? = some kA := hkA
      have hv' : v = .int (g i) := by
        have hv2 : (arrV (E.2.1 2) N (fun j => .int (g j))).slots[i]? = some v := hv
        have hi : i < N := by
          have h9 := (Array.getElem?_eq_some_iff.mp hv2).1
          rw [arrV_size] at h9
          exact h9
        rw [arrV_read _ _ hi] at hv2
        exact (Option.some.inj hv2).symm
      subst hv'
      have h8 := hfit i
      show State.fitsSlot T (E.2.1 2) _ i (.int (g i)) = true
      simpa [State.fitsSlot, State.slotType?, hk', hkind] using h8)
    (g := F0 m pc ls (.ref a :: rest)) rfl (by rw [hml]) rfl (by rw [hb]; exact hdg) hframes (by show 2 * 0 + _ + 14 ≤ _; omega) hcells (by rw [hsz]; exact hslots) (hloader := Vm.clonesLoader_of_array hkS hkindS)
  have hcellE : ({ cls := (vp_cell (E.2.1 2) (N, .inl g)).cls, slots := (vp_cell (E.2.1 2) (N, .inl g)).slots } : Cell) = vp_cell (E.2.1 2) (N, .inl g) := rfl
  rw [hcellE, hsz] at X'
  have hn0 := hW.1
  generalize hH1 : H.push (vp_cell (E.2.1 2) (N, .inl g)) = H1
  have z1 : H1.size = n + 1 := by rw [← hH1, Array.size_push, hn0]
  have e1 : H1[n]? = some (vp_cell (E.2.1 2) (N, .inl g)) := by rw [← hH1, ← hn0, Array.getElem?_push_size]
  have o1 : ∀ q : Nat, q < n → H1[q]? = H[q]? := fun q hq => by rw [← hH1, Array.getElem?_push, if_neg (by omega)]
  obtain ⟨t, b1, b2⟩ := kk H1 (hW.push e1 z1 o1) ⟨by have := hS.1; omega, fun y h1 h2 => (o1 y (by have := hS.1; omega)).trans (hS.2.1 y h1 h2), hS.2.2⟩
    ((T.setVm vm').pushCell (vp_cell (E.2.1 2) (N, .inl g))) (by rw [← hH1, ← hT]; rfl) X'
  refine ⟨t, st t ?_, b2⟩
  rw [hcellE, hT]
  rw [hn0]
  exact b1
theorem q_castb (hx : p.tables.exec = Jvm.exec) (hb : c.code = cc) {index : Nat} (hown : s.vm.findClass own = some m.cls) (hlink : (Cond.classLink own index "[B").before args s = true) (hA : q_A E s) (hW : q_W E f n H) {y : vp_A} (ha : f a = some (.inl (E.2.1 2, y))) (hdg : decode cc pc = .ok (.checkcast index, 3))
    (k : W p l e R s m args below meth c H locs cells slots Q (F0 m (pc + 3) ls (.ref a :: rest))) : W p l e R s m args below meth c H locs cells slots Q (F0 m pc ls (.ref a :: rest)) :=
  va_castA hx hb hown hlink (hW.one ha) 0 rfl (hA.1.2 2 _ rfl).2 hdg k
theorem q_ldk (hA : q_A E s) {i : Nat} (hi : i < 50) : vk_R (q_own.getD i ("", 0, "")).1 (q_own.getD i ("", 0, "")).2.1 (q_own.getD i ("", 0, "")).2.2 (E.2.2.2 (200 + i)) s := hA.2.2.2.2.2.2.2.2.2.2.2.2.1 i hi
theorem q_pStr (hA : q_A E s) (hW : q_W E f n H) (hS : va_S (q_ge E) s.heap H locs) {As : List Value} {i : Nat} (hi : i < 50) : PreV s H "java/lang/String" (E.2.2.2 (200 + i)) (q_P E (.ref (E.2.2.2 (200 + i)) :: As) f n) As := ⟨q_P.blind, vk_recv (adK := fun _ => E.2.2.2 (200 + i)) (i := 0) (hA.2.2.1.2.2.2.2.2.1.one hi) Nat.zero_lt_one hS, fun U hU hWm => ⟨rfl, hA.go hS hU hWm, by rw [hU]; exact hW⟩⟩
end QB
theorem ne_ab {f : q_H} {a b : Nat} {x : Nat × List Value} {y : ClassId × vp_A} (h1 : f a = some (.inr x)) (h2 : f b = some (.inl y)) : b ≠ a := fun e => by rw [e, h1] at h2; cases h2
theorem ne_ci {f : q_H} {a b i j : Nat} {x y : List Value} (h1 : f a = some (.inr (i, x))) (h2 : f b = some (.inr (j, y))) (h : i ≠ j) : a ≠ b := fun e => by rw [e, h2] at h1; cases h1; exact h rfl
theorem w_top {p : Program} {l : Launch} {e : Env} {R : Room} {s : State} {m : MethodId} {args : Array Value} {below : List Frame} {meth : Method} {c : Code} {H : Heap} {locs : List Loc} {c1 s1 pc : Nat} {Q : State → Prop} {ls : Array Slot} {x y : Int32} {rest : List Value} (h : x = y) (k : W p l e R s m args below meth c H locs c1 s1 Q (F0 m pc ls (.int y :: rest))) : W p l e R s m args below meth c H locs c1 s1 Q (F0 m pc ls (.int x :: rest)) := by
  subst h; exact k
def w_objInit := @W.objInit
theorem w_eqc {p : Program} {l : Launch} {e : Env} {R : Room} {s : State} {m : MethodId} {args : Array Value} {below : List Frame} {meth : Method} {c : Code} {H : Heap} {locs : List Loc} {c1 s1 c2 s2 : Nat} {Q : State → Prop} {g : JFrame} (hc : c1 = c2) (hs : s1 = s2) (h : W p l e R s m args below meth c H locs c2 s2 Q g) : W p l e R s m args below meth c H locs c1 s1 Q g := by
  subst hc; subst hs; exact h
