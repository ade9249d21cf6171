/-! THE CLAIM OUT OF ONE WALK OF THE LAW'S BODY. Your part is whole_start (and what it stands on); all else here is the same for every law, but numbers. -/
def R_law : String := "HighRecipesLaw"
def lw_P (b : Addr) (xs : List Int32) (args : Array Value) (s : State) : Prop := args = #[.ref b] ∧ s.IntsAt b xs ∧ xs.length ≤ 3072 ∧ (Jvm.Cond.and given_1 narrow_1).before args s = true
/-- what a walk over the start with the record d0 says of its end, said of the start itself -/
theorem lw_closed {s t : State} {o : Outcome} {d0 : Drawn} {L : List Loc} {k n : Nat} (hd0 : s.drawn.sameBut d0 lw_cs) (hv : ∃ v, o = .returned v) (hW : (s.setDrawn d0).WarmedH t.vm) (hs : (s.setDrawn d0).sameButNew ({ t with vm := s.vm } : State) L k n) : State.butDraws s t lw_cs (fun t1 => Framed s o t1 L k n) := by
  have h2 : t.drawn = d0 := congrArg State.drawn hs.1
  refine ⟨⟨hv, hW, State.sameButNew.setDrawn hs s.drawn⟩, ?_, by decide⟩
  rw [h2]
  exact hd0
def lw_Q (_ : Array Value) (s : State) (o : Outcome) (t : State) : Prop := o = .returned (some (.int 1)) ∧ State.butDraws s t lw_cs (fun t1 => Framed s o t1 [] 601024 7293034)
def lw_Z (below : List Frame) (a : Array Value) (s : State) : State → Prop := fun t => ∃ o, t.status = .running ∧ Ended t below o ∧ lw_Q a s o t
/-- the law's own end, with 1 on the stack, nothing written that was there before, its room as the claim has it; d0: the record of draws at this point (at the entry s.drawn: begin with 'refine W.base ?_' and 'have hd0 := Drawn.sameBut.refl s.drawn lw_cs') -/
theorem lw_ret {p : Program} {l : Launch} {e : Env} {s : State} {m : MethodId} {below : List Frame} {meth : Method} {c : Code} {b : Nat} {d0 : Drawn} (hd0 : s.drawn.sameBut d0 lw_cs) (hx : p.tables.exec = Jvm.exec) (hb : c.code = code) (hr : meth.sig.returnType = ret) (hlocks : meth.locks = false) {pc : Nat} {H : Heap} {ls : Array Slot} (hdg : decode code pc = .ok (.ireturn, 1)) : W p l e room_1 (s.setDrawn d0) m #[Value.ref b] below meth c H [] 601024 7293034 (lw_Z below #[Value.ref b] s) (F0 m pc ls [.int 1]) := by
  intro T hT X
  obtain ⟨fs, hret, hrun, hended, hW, hframe⟩ := X.leave (v := some (.int 1)) (hlocks := hlocks) (fun h => by rw [hr] at h; cases h)
  have hmeth' : T.vm.method? m = some meth := X.method'
  refine ⟨T.setFrames fs, ?_, .returned (some (.int 1)), hrun, hended, rfl, lw_closed hd0 ⟨_, rfl⟩ hW hframe⟩
  jvm_step X.here [X.here.top, hx, hb, hdg, hmeth', hr, ret, narrow_b1]
  (try refine ⟨rfl, ?_⟩); (try refine ⟨rfl, ?_⟩)
  first | (intro acts; rw [hret _ acts rfl rfl rfl]) | rw [hret _ _ rfl rfl rfl]
  exact Steps.refl _
/-- what holds at the law's entry: the machine, the code, the tables' words (any of lw_tbl by 'hts w (by decide +kernel)'), the script of L ints xs at the cell b, what the Statement gives of the start (any of its parts by flat_of_before) -/
def lw_At (p : Program) (s : State) (m : MethodId) (meth : Method) (c : Code) (b L : Nat) (xs : Nat → Int32) : Prop :=
  p.tables.exec = Jvm.exec ∧ c.code = code ∧ meth.sig.returnType = ret ∧ c.maxLocals = 9 ∧ s.vm.findClass R_law = some m.cls ∧ (∀ w ∈ lw_tbl, w.before #[Value.ref b] s = true) ∧ va_X b L xs s s.heap ∧ b < s.heap.size ∧ meth.locks = false ∧ (Jvm.Cond.and given_1 narrow_1).before #[Value.ref b] s = true
/-! the walk from the law's entry -/
theorem start_JJ {E : q_E} {a : Nat} {f1 f9 : q_H} (c0 : f1 (a) = some (rX12 (some (a + 1)) (some (a + 3)) (some (a + 13)) (some (a + 33)) (some (a + 34)) (some (a + 54)) (-1))) (c1 : f1 (a + 1) = some (rX9 (some (a + 2)) 0)) (c2 : f1 (a + 2) = some (aB E 1600 (fun _ => 0))) (c3 : f1 (a + 3) = some (cPar (a + 3) (a + 8) 0 0)) (c4 : f1 (a + 4) = some (cTok E (a + 4) 0 0 39)) (c5 : f1 (a + 5) = some (aQ E 5 401 (fun _ => none))) (c6 : f1 (a + 6) = some (aI E 401 (fun _ => 0))) (c7 : f1 (a + 7) = some (aJ E 401 (fun _ => 0))) (c20 : f1 (a + 20) = some (cBook (a + 20) 0 0 0)) (c24 : f1 (a + 24) = some (aQ E 3 6 (fun _ => none))) (c33 : f1 (a + 33) = some (rX3 (some (a + 13)) 0 (-1))) (c54 : f1 (a + 54) = some (rX3 (some (a + 34)) 0 (-1))) (K1 : KIT E f1 (a + 13) (a + 20) (fun _ => 0) z_ini) (K2 : KIT E f1 (a + 34) (a + 41) (fun _ => 0) z_ini) (fr : ∀ q, q < a + 55 → f9 q = f1 q) (hR : RM E f9 (a + 55) r_new) (hO : f9 (a + 99) = some (aJ E 1 (fun _ => 0))) : JJ E a 100 f9 (a + 100) := by
  have hF : JF E a f1 (-1) 0 (fun _ => 0) (a + 8) 0 0 0 0 39 (fun _ => none) (fun _ => 0) (fun _ => 0) 0 (-1) 0 (-1) (a + 20) 0 0 0 (fun _ => none) (fun _ => 0) z_ini (a + 41) (fun _ => 0) z_ini (a + 100) (a + 100) (fun _ => k_nil) := ⟨c0, c1, c2, c3, c4, c5, c6, c7, c33, c54, c20, c24, K1, K2, fun r hr => absurd hr (Nat.not_lt_zero _)⟩
  have hF9 := hF.frame (n := a + 100) (f' := f9) (fun q hq => fr q (by omega)) (Or.inl rfl) (by omega) (Nat.le_refl _) (Nat.le_refl _)
  refine ⟨_, _, _, _, _, _, _, _, _, _, _, _, _, _, _, _, _, _, _, _, _, _, _, _, _, _, _, _, _, r_new, _, hF9, ?_, hR, hO⟩
  refine ⟨Nat.zero_le _, Nat.zero_le _, Nat.zero_le _, Or.inl rfl, Nat.le_refl _, Nat.le_refl _, by omega, Nat.le_refl _, k_inv_ini (Nat.le_refl _), k_inv_ini (Nat.le_refl _), rfl, rfl, rfl, rfl, tp_0 rfl, fun r hr => absurd hr (Nat.not_lt_zero _), v_ok_ini (fun i hi => absurd hi (Nat.not_lt_zero _)), ⟨fun i hi => absurd hi (Nat.not_lt_zero _), fun q hq => rfl, fun i hi => absurd hi (Nat.not_lt_zero _)⟩, ?_⟩
  show X_E z_ini z_ini
  exact ⟨rfl, rfl, fun _ _ => rfl, fun _ _ => rfl, fun _ _ => rfl⟩
set_option maxHeartbeats 4000000 in
set_option maxRecDepth 100000 in
theorem whole_start {p : Program} {e : Env} {s : State} {m : MethodId} {below : List Frame} {meth : Method} {c : Code} (l : Launch) (hflags : l.flags = flags0) {b L : Nat} {xs : Nat → Int32} (hL : L ≤ 3072) (C0 : lw_At p s m meth c b L xs) : W p l e room_1 s m #[Value.ref b] below meth c s.heap [] 0 0 (lw_Z below #[Value.ref b] s) (entryFrame m ([Value.ref b] : List Value).toArray 9) := by
  obtain ⟨hx, hb, hr, hml, hown0, hts0, hX, hbl, hlk, hpre⟩ := C0
  have hown : s.vm.findClass RL = some m.cls := hown0
  have hn : narrow_1.before #[Value.ref b] s = true := (and_b hpre).2
  obtain ⟨E, hE, hA, hNc⟩ := start_A hts0 hn
  have hts : ∀ w ∈ wsL_law, w.before #[Value.ref b] s = true := fun w h => hts0 w (wsL_law_in w h)
  have hbA : ¬ q_ge E b := by
    show ¬ E.2.2.1 ≤ b
    rw [hE]
    exact Nat.not_le.mpr hbl
  have hst : l.stackTraces = false := by
    show (!l.flags.contains noTraceFlag) = false
    rw [hflags]
    decide +kernel
  obtain ⟨a, ha⟩ : ∃ a, a = s.heap.size := ⟨_, rfl⟩
  have hW : q_W E (fun _ => none) a s.heap := ⟨ha.symm, Nat.le_of_eq (hE.trans ha.symm), fun _ _ h => by cases h⟩
  have hS : va_S (q_ge E) s.heap s.heap [] := va_S.rf
  have X : LX p l s m c E b L a xs := ⟨hx, hb, hml, hown, hts, hX, hbl, hbA, hA, hNc, hst, hL⟩
  have hl := lv_entry ([.ref b]) (n := 9) (Nat.le_of_ble_eq_true rfl)
  rw [lg_entry_eq]
  generalize (lg_sl ([.ref b]) ++ List.replicate (9 - (lg_sl ([.ref b])).length) Slot.unset).toArray = ls at hl ⊢
  have hl : lv_has ls 9 [(0, .ref b)] := hl
  refine q_new (ci := 10) hx hb hts hown hA hW hS inlX12 tyX12 tyX12_ok (hts (.classLink RL 8 RX12) (by decide +kernel)) (hts (.instantiable RX12 7) (by decide +kernel)) (hts (.initialized RX12) (by decide +kernel)) rfl (fs := [.null, .null, .null, .null, .null, .null, .int 0]) (by decide) (Nat.le_of_ble_eq_true rfl) (Nat.le_of_ble_eq_true rfl) dL_law_0 (fun H hW hS => ?_)
  have hW : q_W E (va_up (fun _ => none) a (some (rX12 none none none none none none 0))) (a + 1) H := hW
  refine lv_dup hx hb dL_law_3 rfl ?_
  refine q_cv (va_runI (As := []) (rest := [.ref a]) ⟨hx, hb, hml, hown, hts⟩ (kX12_init l E (va_up (fun _ => none) a (some (rX12 none none none none none none 0))) (a + 1) a q_eq rfl) (cwI 0 hts gL_law_X12_init rfl rfl rfl (hts (.initialized RX12) (by decide +kernel)) (hts (.methodLink RL 102 yX12_init) (by decide +kernel)) (hts (.instanceMethod yX12_init) (by decide +kernel)) rfl (by decide +kernel) ⟨(Nat.le_of_ble_eq_true rfl), (Nat.le_of_ble_eq_true rfl)⟩) (q_pS hA hW hS) rfl rfl hl.1 rfl (lv_room (Nat.le_of_ble_eq_true rfl)) dL_law_4 ⟨Nat.le_of_ble_eq_true rfl, Nat.le_of_ble_eq_true rfl⟩) hS (fun f1 n1 H locs hp hW hS => ?_)
  obtain ⟨-, c0, c1, c2, c3, c4, c5, c6, c7, c20, c24, c33, c54, K1, K2, rfl⟩ := hp
  refine lv_astore_n (lv' := [(1, .ref a), (0, .ref b)]) hx hb dL_law_7 rfl hl (by decide) rfl (fun ls hl => ?_)
  refine q_new (ci := 12) hx hb hts hown hA hW hS inlX14 tyX14 tyX14_ok (hts (.classLink RL 103 RX14) (by decide +kernel)) (hts (.instantiable RX14 23) (by decide +kernel)) (hts (.initialized RX14) (by decide +kernel)) rfl (fs := [.int 0, .null, .int 0, .int 0, .null, .null, .null, .null, .int 0, .int 0, .int 0, .int 0, .int 0, .int 0, .null, .null, .int 0, .null, .null, .null, .null, .int 0, .int 0]) (by decide) (Nat.le_of_ble_eq_true rfl) (Nat.le_of_ble_eq_true rfl) dL_law_8 (fun H hW hS => ?_)
  have hW : q_W E (va_up f1 (a + 55) (some (rX14 0 none 0 0 none none none none 0 0 0 0 0 0 none none 0 none none none none 0 0))) (a + 55 + 1) H := hW
  refine lv_dup hx hb dL_law_11 rfl ?_
  refine q_cv (va_runI (As := []) (rest := [.ref (a + 55)]) ⟨hx, hb, hml, hown, hts⟩ (kX14_init l E (va_up f1 (a + 55) (some (rX14 0 none 0 0 none none none none 0 0 0 0 0 0 none none 0 none none none none 0 0))) (a + 55 + 1) (a + 55) q_eq rfl) (cwI 0 hts gL_law_X14_init rfl rfl rfl (hts (.initialized RX14) (by decide +kernel)) (hts (.methodLink RL 105 yX14_init) (by decide +kernel)) (hts (.instanceMethod yX14_init) (by decide +kernel)) rfl (by decide +kernel) ⟨(Nat.le_of_ble_eq_true rfl), (Nat.le_of_ble_eq_true rfl)⟩) (q_pS hA hW hS) rfl rfl hl.1 rfl (lv_room (Nat.le_of_ble_eq_true rfl)) dL_law_12 ⟨Nat.le_of_ble_eq_true rfl, Nat.le_of_ble_eq_true rfl⟩) hS (fun f2 n2 H locs hp hW hS => ?_)
  obtain ⟨e2, rfl⟩ := hp
  have fr2 : ∀ q, q < a + 55 → f2 q = f1 q := fun q hq => by
    rw [← e2, rO_out (by omega)]
    exact va_up_ne _ _ (by omega)
  have hR2 : RM E f2 (a + 55) r_new := by
    rw [← e2]
    exact rO_K
  refine lv_astore_n (lv' := [(2, .ref (a + 55)), (1, .ref a), (0, .ref b)]) hx hb dL_law_15 rfl hl (by decide) rfl (fun ls hl => ?_)
  refine lv_iconst (v := 1) hx hb dL_law_16 (by decide) ?_
  refine q_newa (atype := .long) hx hb hA hW hS (hts (.arrayClass .long) (by decide +kernel)) (ty := .long) rfl 1 rfl (fun C h9 => by cases h9) (N' := 1) (a0 := (1, .inr (.inl (fun _ => 0)))) (fun _ => rfl) (by decide) (by decide) (Nat.le_of_ble_eq_true rfl) (Nat.le_of_ble_eq_true rfl) (Nat.le_of_ble_eq_true rfl) dL_law_17 (fun H hW hS => ?_)
  have hW : q_W E (va_up f2 (a + 99) (some (aJ E 1 (fun _ => 0)))) (a + 100) H := hW
  refine lv_astore_n (lv' := [(3, .ref (a + 99)), (2, .ref (a + 55)), (1, .ref a), (0, .ref b)]) hx hb dL_law_19 rfl hl (by decide) rfl (fun ls hl => ?_)
  refine lv_iconst (v := nI 0) hx hb dL_law_20 (by decide) ?_
  refine lv_istore (lv' := [(4, .int (nI 0)), (3, .ref (a + 99)), (2, .ref (a + 55)), (1, .ref a), (0, .ref b)]) hx hb dL_law_21 hl (by decide) rfl (fun ls hl => ?_)
  have hJ : JJ E a 100 (va_up f2 (a + 99) (some (aJ E 1 (fun _ => 0)))) (a + 100) := start_JJ c0 c1 c2 c3 c4 c5 c6 c7 c20 c24 c33 c54 K1 K2 (fun q hq => (va_up_ne _ _ (by omega)).trans (fr2 q hq)) (hR2.other (fun q h1 h2 => va_up_ne _ _ (by omega))) q_eq
  refine W.widen (k := 100) (n := 12900) (Nat.le_of_ble_eq_true rfl) (Nat.le_of_ble_eq_true rfl) ?_
  refine law_loop X (fun H1 locs1 ls1 k1 n1 hS1 hk hn9 => ?_) L 0 0 100 100 12900 (by omega) (Nat.zero_le _) rfl rfl rfl rfl _ _ H locs ls hJ hW hS hl
  refine lv_iconst (v := 1) hx hb dL_law_2105 (by decide) ?_
  refine va_forget (fun q hq => ?_) ?_
  · have h9 : E.2.2.1 ≤ q.base := hS1.2.2 q hq
    rw [← hE]
    exact h9
  · refine W.widen (k := 601024) (n := 7293034) hk hn9 ?_
    refine W.base ?_
    exact lw_ret (Drawn.sameBut.refl s.drawn lw_cs) hx hb hr hlk dL_law_2106
